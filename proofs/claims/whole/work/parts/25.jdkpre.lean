theorem lenK_op {i : Nat} (h : i < 14) : lenK.getD i 0 = (opL i).length := by
  have q : ∀ i, i < 14 → lenK.getD i 0 = (opL i).length := by decide +kernel
  exact q i h
theorem byt_op {i k : Nat} (h : i < 14) (hk : k < 6) : (bytK.getD i []).getD k 0 = nI ((opL i).getD k 0) := by
  have q : ∀ i, i < 14 → ∀ k, k < 6 → (bytK.getD i []).getD k 0 = nI ((opL i).getD k 0) := by decide +kernel
  exact q i h k hk
theorem and255 {v : Nat} (h : v < 128) : nI v &&& nI 255 = nI v := by
  have q : ∀ v, v < 128 → nI v &&& nI 255 = nI v := by decide +kernel
  exact q v h
def qcN : Array Value → State → Outcome → State → Prop := fun _ st o t => o = .returned none ∧ t.heap = st.heap
def MN (l : Launch) (y : MethodName) (bytes : ByteArray) (maxL : Nat) (ret : Option FieldType) (f lo : Nat) (D : va_G) (z : zT) (av : List Value) (ws : va_W) (tys : tyL) : Prop :=
  Met l y (Cond.code y bytes maxL ret :: lw_g) (rmq f lo) (va_Pc av (PR D z ws tys)) qcN 0 0 (fun _ => False)
section JdkA
variable {l : Launch} {y : MethodName} {bytes : ByteArray} {maxL : Nat} {ret : Option FieldType} {f lo : Nat} {D : va_G} {z : zT} {av : List Value} {ws : va_W} {tys : tyL} {sz : Nat}
theorem metN (hy : plainName y.cls = true) (hn : (lg_sl av).length ≤ maxL)
    (body : ∀ (p : Program) (e : Env) (s : State) (m : MethodId) (below : List Frame) (meth : Method) (c : Code) (ls : Array Slot), p.tables.exec = Jvm.exec → c.code = bytes → meth.sig.returnType = ret → meth.locks = false → c.maxLocals = maxL → s.vm.findClass y.cls = some m.cls → (∀ w ∈ lw_g, w.before av.toArray s = true) → lv_has ls maxL (lv_args 0 av) → va_P D classes ws s.heap → va_K D classes tys s → SS z (fun _ => False) s s.heap →
      W p l e (rmq f lo) s m av.toArray below meth c s.heap [] 0 0 (MQ below qcN av.toArray s 0 0 (fun _ => False)) (F0 m 0 ls [])) : MN l y bytes maxL ret f lo D z av ws tys := by
  refine Met.ofW (cc := bytes) (maxL := maxL) (ret := ret) hy rfl ?_
  intro p e s m args below meth c s₁ B hml hv
  obtain ⟨rfl, hP, hK, hSS⟩ := hv
  have hts := atoms_spec (ws := Cond.code y bytes maxL ret :: lw_g) B.pre
  have hl := lv_entry av (n := maxL) hn
  rw [lg_entry_eq]
  generalize (lg_sl av ++ List.replicate (maxL - (lg_sl av).length) Slot.unset).toArray = ls at hl ⊢
  exact body p e s m below meth c ls B.exec B.bytes B.returns B.notSynchronized hml (findClass_of_methodNamed B.named) (fun w hw => hts w (List.mem_cons_of_mem _ hw)) hl hP hK hSS
end JdkA
section JdkB
variable {p : Program} {l : Launch} {e : Env} {R : Room} {s : State} {m : MethodId} {args : Array Value} {below : List Frame} {meth : Method} {c : Code} {H : Heap} {locs : List Loc} {cells slots : Nat} {Q : State → Prop} {pc : Nat} {ls : Array Slot} {rest st0 : List Value}
variable {own : String} {index : Nat} {y : MethodName} {bytes cc : ByteArray} {maxL nL n : Nat} {ret : Option FieldType} {f lo : Nat} {D : va_G} {z : zT} {ws wc wr w1 : va_W} {tys tc : tyL} {b : Nat} {As : List Value} {A : Nat → Prop} {lv : List (Nat × Value)}
theorem callN {a : Array Value} (hr : CallRun p l e R s m args below meth c H locs cells slots 0 0 (F0 m pc ls st0) rest (qcN a) (fun _ => False)) (kk : W p l e R s m args below meth c H locs cells slots Q (F0 m (pc + 3) ls rest)) : W p l e R s m args below meth c H locs cells slots Q (F0 m pc ls st0) := by
  intro T hT X
  obtain ⟨v, st₀, t, T', L, h0, X', hL, e1, ⟨hv, hh⟩, st⟩ := hr T hT X
  cases hv
  obtain ⟨t2, a1, b1⟩ := kk T' (by rw [e1, hh, h0]) (Stand.forget X' (fun q h => (hL q h).elim))
  exact ⟨t2, st t2 a1, b1⟩
theorem nS (hx : p.tables.exec = Jvm.exec) (hb : c.code = cc) (hml : c.maxLocals = nL) (hown : s.vm.findClass own = some m.cls) (ht : ∀ w ∈ lw_g, w.before args s = true)
    (hM : MN l y bytes maxL ret f lo D z As wc tc) (hY : YS y bytes maxL ret n) (hlink : Cond.methodLink own index y ∈ lw_g)
    (hf : f + 1 ≤ R.frames) (hlo : 8 + (maxL + 11) + lo ≤ R.locals) (hP : va_P D classes ws H) (hK : va_K D classes tys s) (hSS : SS z A s s.heap) (hS : va_S A s.heap H locs)
    (isC isT : List Nat) (hC : isC.filterMap (fun i => ws[i]?) = wc) (hT : isT.filterMap (fun i => tys[i]?) = tc)
    (hl : lv_has ls nL lv) (hn : As.length = n) (hst : st0 = As.reverse ++ rest) (hW : (rest.map fun v => v.category).sum ≤ 8) (hcl : cells ≤ R.cells) (hsl : slots ≤ R.slots)
    (hdg : decode cc pc = .ok (.invokestatic index, 3))
    (kk : W p l e R s m args below meth c H locs cells slots Q (F0 m (pc + 3) ls rest)) : W p l e R s m args below meth c H locs cells slots Q (F0 m pc ls st0) := by
  obtain ⟨y1, y2, y3, y5, y6, y7⟩ := hY
  refine callN (W.runS (As := As) (rest := rest) ⟨hx, hb, hml, hown, ht⟩ hM ⟨callB_of n ht (gd y1) rfl rfl rfl (ht _ y2) (ht _ hlink) ⟨y5, y6, y7⟩ ⟨hf, hlo⟩, ht _ y3⟩ ⟨PR.calling, ?_⟩ rfl hn hl.1 hst (lv_room hW) hdg ⟨hcl, hsl⟩) kk
  exact fun U hU hWm => ⟨rfl, by rw [hU]; exact hP.sub isC hC, va_K.moved hWm.alike (hK.sub isT hT), hSS.to hS (fun _ h => h.elim) hU hWm⟩
theorem rVK {v : Value} (hx : p.tables.exec = Jvm.exec) (hb : c.code = cc) (hml : c.maxLocals = nL) (hown : s.vm.findClass own = some m.cls) (ht : ∀ w ∈ lw_g, w.before args s = true)
    (hM : MR l y bytes maxL ret f lo D z (.ref b :: As) wc tc v) (hY : YV y bytes maxL ret n) (hlink : Cond.methodLink own index y ∈ lw_g)
    (hf : f + 1 ≤ R.frames) (hlo : 8 + (maxL + 11) + lo ≤ R.locals) (hP : va_P D classes ws H) (hK : va_K D classes tys s) (hSS : SS z A s s.heap) (hS : va_S A s.heap H locs)
    (isC isT : List Nat) (hC : isC.filterMap (fun i => ws[i]?) = wc) (hT : isT.filterMap (fun i => tys[i]?) = tc)
    (hrecv : ∃ cell : Cell, H[b]? = some cell ∧ cell.vm.isStatics = false ∧ s.vm.findClass y.cls = some cell.cls)
    (hl : lv_has ls nL lv) (hn : As.length = n) (hst : st0 = As.reverse ++ .ref b :: rest) (hW : (rest.map fun v => v.category).sum ≤ 8) (hcl : cells ≤ R.cells) (hsl : slots ≤ R.slots)
    (hdg : decode cc pc = .ok (.invokevirtual index, 3))
    (kk : W p l e R s m args below meth c H locs cells slots Q (F0 m (pc + 3) ls (v :: rest))) : W p l e R s m args below meth c H locs cells slots Q (F0 m pc ls st0) := by
  obtain ⟨y1, y2, y3, y4, y5, y6, y7⟩ := hY
  refine W.callV (W.runV (As := As) (rest := rest) (b := b) (C := y.cls) ⟨hx, hb, hml, hown, ht⟩ hM ⟨callB_of n ht (gd y1) rfl rfl rfl (ht _ y2) (ht _ hlink) ⟨y5, y6, y7⟩ ⟨hf, hlo⟩, ht _ y3, ht _ y4⟩ ⟨PR.calling, hrecv, ?_⟩ rfl hn hl.1 hst (lv_room hW) hdg ⟨hcl, hsl⟩) kk
  exact fun U hU hWm => ⟨rfl, by rw [hU]; exact hP.sub isC hC, va_K.moved hWm.alike (hK.sub isT hT), hSS.to hS (fun _ h => h.elim) hU hWm⟩
theorem eNv (hx : p.tables.exec = Jvm.exec) (hb : c.code = cc) (hr : meth.sig.returnType = none) (hlocks : meth.locks = false) (hd : decode cc pc = .ok (.return_, 1)) : W p l e R s m args below meth c s.heap [] 0 0 (MQ below qcN args s 0 0 (fun _ => False)) (F0 m pc ls []) :=
  W.vret hx hb hr (fun t ht _ => ⟨rfl, ht⟩) (fun _ h => by cases h) hd
end JdkB
