abbrev SN : Type := (Nat → Nat) × (Nat → ClassId)
abbrev rmC (f lo mc ms : Nat) : Room := { frames := f, cells := mc, slots := ms, locals := lo }
def qcC (D : va_G) (w1 : SN → va_W) (t1 : SN → tyL) (A : Nat → Prop) : Array Value → State → Outcome → State → Prop := fun _ st oc t => (∃ u : SN, oc = .returned none ∧ va_P D classes (w1 u) t.heap ∧ va_D A (w1 u) ∧ va_K D classes (t1 u) t) ∧ va_F A st t
def MC (l : Launch) (y : MethodName) (bytes : ByteArray) (maxL : Nat) (f lo mc ms : Nat) (D : va_G) (z : zT) (av : List Value) (ws : va_W) (tys : tyL) (sz : Nat) (w1 : SN → va_W) (t1 : SN → tyL) : Prop :=
  Met l y (Cond.code y bytes maxL none :: lw_g) (rmC f lo mc ms) (va_Pc av (PU D z ws tys sz)) (qcC D w1 t1 (va_A ws sz)) mc ms (va_A ws sz)
def YI (y : MethodName) (bytes : ByteArray) (maxL : Nat) (n : Nat) : Prop := Cond.code y bytes maxL none ∈ lw_g ∧ Cond.initialized y.cls ∈ lw_g ∧ Cond.instanceMethod y ∈ lw_g ∧ y.name = "<init>" ∧ y.cls ≠ "java/lang/invoke/MethodHandle" ∧ y.cls ≠ "java/lang/invoke/VarHandle" ∧ (parseMethodDescriptor y.desc).map (fun d => d.parameters.length) = some n
section CtorA
variable {l : Launch} {y : MethodName} {bytes : ByteArray} {maxL : Nat} {f lo mc ms : Nat} {D : va_G} {z : zT} {av : List Value} {ws : va_W} {tys : tyL} {sz : Nat}
theorem metC {w1 : SN → va_W} {t1 : SN → tyL} (hy : plainName y.cls = true) (hn : (lg_sl av).length ≤ maxL) (hyn : y.name = "<init>")
    (body : ∀ (p : Program) (e : Env) (s : State) (m : MethodId) (below : List Frame) (meth : Method) (c : Code) (ls : Array Slot) (A : Nat → Prop), meth.name = "<init>" → p.tables.exec = Jvm.exec → c.code = bytes → meth.sig.returnType = none → meth.locks = false → c.maxLocals = maxL → s.vm.findClass y.cls = some m.cls → (∀ w ∈ lw_g, w.before av.toArray s = true) → lv_has ls maxL (lv_args 0 av) → va_P D classes ws s.heap → va_K D classes tys s → SS z A s s.heap → va_D A ws → va_S A s.heap s.heap [] → (∀ q : Nat, s.heap.size ≤ q → A q) →
      W p l e (rmC f lo mc ms) s m av.toArray below meth c s.heap [] 0 0 (MQ below (qcC D w1 t1 A) av.toArray s mc ms A) (F0 m 0 ls [])) : MC l y bytes maxL f lo mc ms D z av ws tys sz w1 t1 := by
  refine Met.ofW (cc := bytes) (maxL := maxL) (ret := none) hy rfl ?_
  intro p e s m args below meth c s₁ B hml hv
  obtain ⟨rfl, rfl, hP, hK, hD, hSS⟩ := hv
  have hts := atoms_spec (ws := Cond.code y bytes maxL none :: lw_g) B.pre
  have hin : meth.name = "<init>" := ((name_of_methodNamed B.named B.method).1).trans hyn
  have hl := lv_entry av (n := maxL) hn
  rw [lg_entry_eq]
  generalize (lg_sl av ++ List.replicate (maxL - (lg_sl av).length) Slot.unset).toArray = ls at hl ⊢
  exact body p e s m below meth c ls (va_A ws s.heap.size) hin B.exec B.bytes B.returns B.notSynchronized hml (findClass_of_methodNamed B.named) (fun w hw => hts w (List.mem_cons_of_mem _ hw)) hl hP hK hSS hD.self va_S.rf (fun q h => Or.inr h)
end CtorA
section CtorB
variable {p : Program} {l : Launch} {e : Env} {R : Room} {s : State} {m : MethodId} {args : Array Value} {below : List Frame} {meth : Method} {c : Code} {H : Heap} {locs : List Loc} {cells slots : Nat} {Q : State → Prop} {pc : Nat} {ls : Array Slot} {rest st0 : List Value}
variable {own : String} {index : Nat} {y : MethodName} {bytes cc : ByteArray} {maxL nL n : Nat} {f lo mc ms : Nat} {D : va_G} {z : zT} {ws wc wr : va_W} {tys tc tyr : tyL} {b : Nat} {As : List Value} {A : Nat → Prop} {lv : List (Nat × Value)}
theorem cI {w1 : SN → va_W} {t1 : SN → tyL} (hx : p.tables.exec = Jvm.exec) (hb : c.code = cc) (hml : c.maxLocals = nL) (hown : s.vm.findClass own = some m.cls) (ht : ∀ w ∈ lw_g, w.before args s = true)
    (hM : MC l y bytes maxL f lo mc ms D z (.ref b :: As) wc tc H.size w1 t1) (hY : YI y bytes maxL n) (hlink : Cond.methodLink own index y ∈ lw_g)
    (hf : f + 1 ≤ R.frames) (hlo : 8 + (maxL + 11) + lo ≤ R.locals) (hP : va_P D classes ws H) (hK : va_K D classes tys s) (hSS : SS z A s s.heap) (hD : va_D A ws) (hS : va_S A s.heap H locs) (hA : ∀ q : Nat, s.heap.size ≤ q → A q)
    (isC isR isT : List Nat) (hC : isC.map (fun i => ws[i]?) = wc.map some) (hC2 : isC.filterMap (fun i => ws[i]?) = wc) (hnC : va_nd isC = true) (hR : isR.map (fun i => ws[i]?) = wr.map some) (hnR : va_nd isR = true) (hdis : ∀ i ∈ isR, i ∉ isC) (hT : isT.filterMap (fun i => tys[i]?) = tc)
    (hl : lv_has ls nL lv) (hn : As.length = n) (hst : st0 = As.reverse ++ .ref b :: rest) (hW : (rest.map fun v => v.category).sum ≤ 8) (hcl : cells + mc ≤ R.cells) (hsl : slots + ms ≤ R.slots)
    (hdg : decode cc pc = .ok (.invokespecial index, 3))
    (kk : ∀ (u : SN) (H1 : Heap) (locs1 : List Loc), va_K D classes (tys ++ t1 u) s → va_P D classes (wr ++ w1 u) H1 → va_D A (wr ++ w1 u) → va_S A s.heap H1 locs1 → W p l e R s m args below meth c H1 locs1 (cells + mc) (slots + ms) Q (F0 m (pc + 3) ls rest)) : W p l e R s m args below meth c H locs cells slots Q (F0 m pc ls st0) := by
  obtain ⟨y1, y2, y3, y4, y5, y6, y7⟩ := hY
  have hFc := va_free (wc := wc) hD hS hA isC hC
  have hDc : va_D A wc := hD.sub isC hnC hC
  have hr := va_runI (As := As) (rest := rest) (b := b) (g := F0 m pc ls st0) (H := H) (locs := locs) (cells := cells) (slots := slots) (R := R) (e := e) (below := below) (meth := meth) (p := p) ⟨hx, hb, hml, hown, ht⟩ hM ⟨callB_of n ht (gd y1) rfl rfl rfl (ht _ y2) (ht _ hlink) ⟨y5, y6, y7⟩ ⟨hf, hlo⟩, y4, ht _ y3⟩ ⟨PU.calling, fun U hU hWm => ⟨rfl, by rw [hU], by rw [hU]; exact hP.sub isC hC2, va_K.moved hWm.alike (hK.sub isT hT), hDc.weaken (fun _ _ _ _ => trivial), hSS.to hS hFc hU hWm⟩⟩ rfl hn hl.1 hst (lv_room hW) hdg ⟨hcl, hsl⟩
  intro T hT X
  obtain ⟨v', st₀, t, T', L, h0, X', hL, e1, e2, ⟨⟨u, hv, hp, hd, hk2⟩, hz, hk⟩, st⟩ := hr T hT X
  cases hv
  rw [h0] at hz hk
  have hal : s.vm.Alike t.vm := by rw [← e2]; exact X'.warmed.alike
  obtain ⟨hP2, hD2⟩ := va_join (wr := wr) (w1 := w1 u) (H1 := T'.heap) hP hD isC isR hC hR hnR hdis (fun q h1 h2 => by rw [e1]; exact hk q h1 h2) hFc (by rw [e1]; exact hp) hd
  obtain ⟨t2, a1, b1⟩ := kk u T'.heap (locs ++ L) (hK.app (va_K.moved hal.symm hk2)) hP2 hD2
    ⟨Nat.le_trans hS.1 (by rw [e1]; exact hz), fun q h1 h2 => by rw [e1, hk q (Nat.lt_of_lt_of_le h1 hS.1) (fun w => h2 (hFc q w))]; exact hS.2.1 q h1 h2, fun q hq => by
      rcases List.mem_append.mp hq with h | h
      · exact hS.2.2 q h
      · exact hFc _ (hL q h)⟩ T' rfl X'
  exact ⟨t2, st t2 a1, b1⟩
theorem eC {w1 : SN → va_W} {t1 : SN → tyL} (u : SN) (hx : p.tables.exec = Jvm.exec) (hb : c.code = cc) (hr : meth.sig.returnType = none) (hlocks : meth.locks = false) (hK : va_K D classes tys s) (hP : va_P D classes ws H) (hD : va_D A ws) (hS : va_S A s.heap H locs) (is it : List Nat) (hi : is.map (fun i => ws[i]?) = (w1 u).map some) (hi2 : is.filterMap (fun i => ws[i]?) = w1 u) (hni : va_nd is = true) (hit : it.filterMap (fun i => tys[i]?) = t1 u) (hd : decode cc pc = .ok (.return_, 1)) : W p l e R s m args below meth c H locs cells slots (MQ below (qcC D w1 t1 A) args s cells slots A) (F0 m pc ls []) :=
  W.vret hx hb hr (fun t ht hW => ⟨⟨u, rfl, by rw [ht]; exact hP.sub is hi2, hD.sub is hni hi, va_K.moved hW.alike (hK.sub it hit)⟩, hS.F ht⟩) hS.2.2 hd
end CtorB
