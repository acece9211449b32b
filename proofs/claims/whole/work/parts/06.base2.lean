def kF (k : Nat) : Nat := [0, 1, 2, 16, 32, 48, 64, 80, 81, 82, 96, 112, 116, 0].getD k 0
def kR (k : Nat) : Nat := [0, 0, 0, 1, 1, 2, 2, 0, 0, 1, 1, 1, 1, 0].getD k 0
def kN (k : Nat) : Nat := [0, 0, 0, 0, 1, 0, 0, 3, 3, 3, 2, 3, 3, 1].getD k 0
def lenK : List Nat := [3, 4, 3, 4, 4, 4, 4, 4, 5, 3, 4, 3, 3, 6]
def bytK : List (List Int32) := [[78, 79, 80], [72, 65, 76, 84], [82, 69, 84], [73, 78, 67, 32], [76, 68, 73, 32], [77, 79, 86, 32], [65, 68, 68, 32], [74, 77, 80, 32], [67, 65, 76, 76, 32], [74, 90, 32], [66, 78, 90, 32], [76, 68, 32], [83, 84, 32], [46, 98, 121, 116, 101, 32]]
def opT : List (List Nat) := [[78, 79, 80], [72, 65, 76, 84], [82, 69, 84], [73, 78, 67, 32], [76, 68, 73, 32], [77, 79, 86, 32], [65, 68, 68, 32], [74, 77, 80, 32], [67, 65, 76, 76, 32], [74, 90, 32], [66, 78, 90, 32], [76, 68, 32], [83, 84, 32], [46, 98, 121, 116, 101, 32]]
def opL (k : Nat) : List Nat := opT.getD k []
def idxK (i : Nat) : Nat := [22, 24, 26, 28, 30, 32, 34, 36, 38, 40, 42, 44, 46, 48].getD i 0
def txK (i : Nat) : String := ["NOP", "HALT", "RET", "INC ", "LDI ", "MOV ", "ADD ", "JMP ", "CALL ", "JZ ", "BNZ ", "LD ", "ST ", ".byte "].getD i ""
abbrev zT : Type := Nat × Nat × Nat × (Nat → Nat) × (Nat → Nat)
def SS (z : zT) (A : Nat → Prop) (U : State) (H : Heap) : Prop :=
  (va_Z "CodeLister$Kinds" "FIRST" "[I" (.ref z.1) A U H ∧ va_T .int z.1 14 (fun j => .int (nI (kF j))) A U H) ∧
  (va_Z "CodeLister$Kinds" "REGISTERS" "[I" (.ref z.2.1) A U H ∧ va_T .int z.2.1 14 (fun j => .int (nI (kR j))) A U H) ∧
  (va_Z "CodeLister$Kinds" "NUMBER" "[I" (.ref z.2.2.1) A U H ∧ va_T .int z.2.2.1 14 (fun j => .int (nI (kN j))) A U H) ∧
  va_Z "java/lang/String" "COMPACT_STRINGS" "Z" (.int 1) A U H ∧
  va_Zq "jdk/internal/util/Preconditions" "SIOOBE_FORMATTER" "Ljava/util/function/BiFunction;" A U H ∧
  vk_S 14 lenK bytK z.2.2.2.1 z.2.2.2.2 A U H ∧ ∀ i, i < 14 → vk_R "CodeLister$Kinds" (idxK i) (txK i) (z.2.2.2.1 i) U
theorem SS.to {z : zT} {A B : Nat → Prop} {s U : State} {H : Heap} {locs : List Loc} (h : SS z A s s.heap) (hS : va_S A s.heap H locs) (hB : ∀ q, B q → A q) (hU : U.heap = H) (hW : s.WarmedH U.vm) : SS z B U U.heap := by
  obtain ⟨⟨a1, a2⟩, ⟨b1, b2⟩, ⟨c1, c2⟩, d, d2, e, f⟩ := h
  have hm := hW.alike
  have k := hS.2.1
  rw [hU]
  exact ⟨⟨(va_Z.moved hm (a1.kept k)).narrow hB, (va_T.moved hm (a2.kept k)).narrow hB⟩, ⟨(va_Z.moved hm (b1.kept k)).narrow hB, (va_T.moved hm (b2.kept k)).narrow hB⟩, ⟨(va_Z.moved hm (c1.kept k)).narrow hB, (va_T.moved hm (c2.kept k)).narrow hB⟩, (va_Z.moved hm (d.kept k)).narrow hB, (va_Zq.moved hm (d2.kept k)).narrow hB, (vk_S.moved hm (e.kept k)).narrow hB, fun i hi => vk_R.warm hW (f i hi)⟩
theorem SS.calling {z : zT} {A : Nat → Prop} {U : State} (g : JFrame) (mk : MethodId) (a : Array Value) (h : SS z A U U.heap) : SS z A (U.calling g mk a) (U.calling g mk a).heap := by
  obtain ⟨⟨a1, a2⟩, ⟨b1, b2⟩, ⟨c1, c2⟩, d, d2, e, f⟩ := h
  have hm : U.vm.Alike (U.calling g mk a).vm := Vm.Alike.refl U.vm
  exact ⟨⟨va_Z.moved hm a1, va_T.moved hm a2⟩, ⟨va_Z.moved hm b1, va_T.moved hm b2⟩, ⟨va_Z.moved hm c1, va_T.moved hm c2⟩, va_Z.moved hm d, va_Zq.moved hm d2, vk_S.moved hm e, fun i hi => vk_R.same rfl (f i hi)⟩
abbrev rmq (f lo : Nat) : Room := { frames := f, cells := 0, slots := 0, locals := lo }
abbrev tyL : Type := List (ClassId × FieldType)
def PR (D : va_G) (z : zT) (ws : va_W) (tys : tyL) (U : State) : Prop := va_P D classes ws U.heap ∧ va_K D classes tys U ∧ SS z (fun _ => False) U U.heap
def PU (D : va_G) (z : zT) (ws : va_W) (tys : tyL) (sz : Nat) (U : State) : Prop := U.heap.size = sz ∧ va_P D classes ws U.heap ∧ va_K D classes tys U ∧ va_D (fun _ => True) ws ∧ SS z (va_A ws sz) U U.heap
/-- a method that reads: its answer is v, the heap stays -/
def MR (l : Launch) (y : MethodName) (bytes : ByteArray) (maxL : Nat) (ret : Option FieldType) (f lo : Nat) (D : va_G) (z : zT) (av : List Value) (ws : va_W) (tys : tyL) (v : Value) : Prop :=
  Met l y (Cond.code y bytes maxL ret :: lw_g) (rmq f lo) (va_Pc av (PR D z ws tys)) (k2_QcV v) 0 0 (fun _ => False)
/-- a method that changes its world ws into w1 and answers v (none: void); it makes nothing -/
def qcU (v : Option Value) (D : va_G) (w1 : va_W) (A : Nat → Prop) : Array Value → State → Outcome → State → Prop := fun _ st oc t => (oc = .returned v ∧ va_P D classes w1 t.heap ∧ va_D A w1) ∧ va_F A st t
def MU (l : Launch) (y : MethodName) (bytes : ByteArray) (maxL : Nat) (ret : Option FieldType) (f lo : Nat) (D : va_G) (z : zT) (av : List Value) (ws : va_W) (tys : tyL) (sz : Nat) (v : Option Value) (w1 : va_W) : Prop :=
  Met l y (Cond.code y bytes maxL ret :: lw_g) (rmq f lo) (va_Pc av (PU D z ws tys sz)) (qcU v D w1 (va_A ws sz)) 0 0 (va_A ws sz)
/-- what the tables say of a method that is called by invokevirtual, and of a static one -/
def YV (y : MethodName) (bytes : ByteArray) (maxL : Nat) (ret : Option FieldType) (n : Nat) : Prop := Cond.code y bytes maxL ret ∈ lw_g ∧ Cond.initialized y.cls ∈ lw_g ∧ Cond.instanceMethod y ∈ lw_g ∧ Cond.selects y.cls y y ∈ lw_g ∧ y.cls ≠ "java/lang/invoke/MethodHandle" ∧ y.cls ≠ "java/lang/invoke/VarHandle" ∧ (parseMethodDescriptor y.desc).map (fun d => d.parameters.length) = some n
def YS (y : MethodName) (bytes : ByteArray) (maxL : Nat) (ret : Option FieldType) (n : Nat) : Prop := Cond.code y bytes maxL ret ∈ lw_g ∧ Cond.initialized y.cls ∈ lw_g ∧ Cond.static y ∈ lw_g ∧ y.cls ≠ "java/lang/invoke/MethodHandle" ∧ y.cls ≠ "java/lang/invoke/VarHandle" ∧ (parseMethodDescriptor y.desc).map (fun d => d.parameters.length) = some n
theorem good_tbl : ∀ w ∈ lw_g, goodWord w = true := fun _ h => (List.mem_filter.mp h).2
theorem gd {b : Cond} (hb : b ∈ lw_g) : GoodIn lw_g (b :: lw_g) := fun w hw => by
  rcases List.mem_cons.mp hw with rfl | h
  · exact ⟨hb, good_of_word (good_tbl _ hb)⟩
  · exact ⟨h, good_of_word (good_tbl _ h)⟩
theorem PR.calling {D : va_G} {z : zT} {ws : va_W} {tys : tyL} {av : List Value} : FrameBlind (va_Pc av (PR D z ws tys)) := fun a U g mk q => ⟨q.1, q.2.1, va_K.moved (u := U) (U := U.calling g mk a) (Vm.Alike.refl U.vm) q.2.2.1, q.2.2.2.calling g mk a⟩
theorem PU.calling {D : va_G} {z : zT} {ws : va_W} {tys : tyL} {sz : Nat} {av : List Value} : FrameBlind (va_Pc av (PU D z ws tys sz)) := fun a U g mk q => ⟨q.1, q.2.1, q.2.2.1, va_K.moved (u := U) (U := U.calling g mk a) (Vm.Alike.refl U.vm) q.2.2.2.1, q.2.2.2.2.1, q.2.2.2.2.2.calling g mk a⟩
section Base2
variable {l : Launch} {y : MethodName} {bytes : ByteArray} {maxL : Nat} {ret : Option FieldType} {f lo : Nat} {D : va_G} {z : zT} {av : List Value} {ws : va_W} {tys : tyL} {sz : Nat}
theorem metR {v : Value} (hy : plainName y.cls = true) (hn : (lg_sl av).length ≤ maxL)
    (body : ∀ (p : Program) (e : Env) (s : State) (m : MethodId) (below : List Frame) (meth : Method) (c : Code) (ls : Array Slot), p.tables.exec = Jvm.exec → c.code = bytes → meth.sig.returnType = ret → meth.locks = false → c.maxLocals = maxL → s.vm.findClass y.cls = some m.cls → (∀ w ∈ lw_g, w.before av.toArray s = true) → lv_has ls maxL (lv_args 0 av) → va_P D classes ws s.heap → va_K D classes tys s → SS z (fun _ => False) s s.heap →
      W p l e (rmq f lo) s m av.toArray below meth c s.heap [] 0 0 (MQ below (k2_QcV v) av.toArray s 0 0 (fun _ => False)) (F0 m 0 ls [])) : MR l y bytes maxL ret f lo D z av ws tys v := by
  refine Met.ofW (cc := bytes) (maxL := maxL) (ret := ret) hy rfl ?_
  intro p e s m args below meth c s₁ B hml hv
  obtain ⟨rfl, hP, hK, hSS⟩ := hv
  have hts := atoms_spec (ws := Cond.code y bytes maxL ret :: lw_g) B.pre
  have hl := lv_entry av (n := maxL) hn
  rw [lg_entry_eq]
  generalize (lg_sl av ++ List.replicate (maxL - (lg_sl av).length) Slot.unset).toArray = ls at hl ⊢
  exact body p e s m below meth c ls B.exec B.bytes B.returns B.notSynchronized hml (findClass_of_methodNamed B.named) (fun w hw => hts w (List.mem_cons_of_mem _ hw)) hl hP hK hSS
theorem metU {v : Option Value} {w1 : va_W} (hy : plainName y.cls = true) (hn : (lg_sl av).length ≤ maxL)
    (body : ∀ (p : Program) (e : Env) (s : State) (m : MethodId) (below : List Frame) (meth : Method) (c : Code) (ls : Array Slot) (A : Nat → Prop), p.tables.exec = Jvm.exec → c.code = bytes → meth.sig.returnType = ret → meth.locks = false → c.maxLocals = maxL → s.vm.findClass y.cls = some m.cls → (∀ w ∈ lw_g, w.before av.toArray s = true) → lv_has ls maxL (lv_args 0 av) → va_P D classes ws s.heap → va_K D classes tys s → SS z A s s.heap → va_D A ws → va_S A s.heap s.heap [] → (∀ q : Nat, s.heap.size ≤ q → A q) →
      W p l e (rmq f lo) s m av.toArray below meth c s.heap [] 0 0 (MQ below (qcU v D w1 A) av.toArray s 0 0 A) (F0 m 0 ls [])) : MU l y bytes maxL ret f lo D z av ws tys sz v w1 := by
  refine Met.ofW (cc := bytes) (maxL := maxL) (ret := ret) hy rfl ?_
  intro p e s m args below meth c s₁ B hml hv
  obtain ⟨rfl, rfl, hP, hK, hD, hSS⟩ := hv
  have hts := atoms_spec (ws := Cond.code y bytes maxL ret :: lw_g) B.pre
  have hl := lv_entry av (n := maxL) hn
  rw [lg_entry_eq]
  generalize (lg_sl av ++ List.replicate (maxL - (lg_sl av).length) Slot.unset).toArray = ls at hl ⊢
  exact body p e s m below meth c ls (va_A ws s.heap.size) B.exec B.bytes B.returns B.notSynchronized hml (findClass_of_methodNamed B.named) (fun w hw => hts w (List.mem_cons_of_mem _ hw)) hl hP hK hSS hD.self va_S.rf (fun q h => Or.inr h)
end Base2
section Base3
variable {p : Program} {l : Launch} {e : Env} {R : Room} {s : State} {m : MethodId} {args : Array Value} {below : List Frame} {meth : Method} {c : Code} {H : Heap} {locs : List Loc} {cells slots : Nat} {Q : State → Prop} {pc : Nat} {ls : Array Slot} {rest st0 : List Value}
variable {own : String} {index : Nat} {y : MethodName} {bytes cc : ByteArray} {maxL nL n : Nat} {ret : Option FieldType} {f lo : Nat} {D : va_G} {z : zT} {ws wc wr w1 : va_W} {tys tc : tyL} {b : Nat} {As : List Value} {A : Nat → Prop} {lv : List (Nat × Value)}
theorem rV {v : Value} {cn : vw_C} {fs : List Value} (hx : p.tables.exec = Jvm.exec) (hb : c.code = cc) (hml : c.maxLocals = nL) (hown : s.vm.findClass own = some m.cls) (ht : ∀ w ∈ lw_g, w.before args s = true)
    (hM : MR l y bytes maxL ret f lo D z (.ref b :: As) wc tc v) (hY : YV y bytes maxL ret n) (hlink : Cond.methodLink own index y ∈ lw_g)
    (hf : f + 1 ≤ R.frames) (hlo : 8 + (maxL + 11) + lo ≤ R.locals) (hP : va_P D classes ws H) (hK : va_K D classes tys s) (hSS : SS z A s s.heap) (hS : va_S A s.heap H locs)
    (isC isT : List Nat) (hC : isC.filterMap (fun i => ws[i]?) = wc) (hT : isT.filterMap (fun i => tys[i]?) = tc)
    (q0 ci : Nat) (hc : classes[ci]? = some cn) (hcn : cn.1 = y.cls) (he : ws[q0]? = some (b, .inr (ci, fs)))
    (hl : lv_has ls nL lv) (hn : As.length = n) (hst : st0 = As.reverse ++ .ref b :: rest) (hW : (rest.map fun v => v.category).sum ≤ 8) (hcl : cells ≤ R.cells) (hsl : slots ≤ R.slots)
    (hdg : decode cc pc = .ok (.invokevirtual index, 3))
    (kk : W p l e R s m args below meth c H locs cells slots Q (F0 m (pc + 3) ls (v :: rest))) : W p l e R s m args below meth c H locs cells slots Q (F0 m pc ls st0) := by
  obtain ⟨y1, y2, y3, y4, y5, y6, y7⟩ := hY
  refine W.callV (W.runV (As := As) (rest := rest) (b := b) (C := y.cls) ⟨hx, hb, hml, hown, ht⟩ hM ⟨callB_of n ht (gd y1) rfl rfl rfl (ht _ y2) (ht _ hlink) ⟨y5, y6, y7⟩ ⟨hf, hlo⟩, ht _ y3, ht _ y4⟩ ⟨PR.calling, by rw [← hcn]; exact va_recv hK hP hc he, ?_⟩ rfl hn hl.1 hst (lv_room hW) hdg ⟨hcl, hsl⟩) kk
  exact fun U hU hWm => ⟨rfl, by rw [hU]; exact hP.sub isC hC, va_K.moved hWm.alike (hK.sub isT hT), hSS.to hS (fun _ h => h.elim) hU hWm⟩
theorem rS {v : Value} (hx : p.tables.exec = Jvm.exec) (hb : c.code = cc) (hml : c.maxLocals = nL) (hown : s.vm.findClass own = some m.cls) (ht : ∀ w ∈ lw_g, w.before args s = true)
    (hM : MR l y bytes maxL ret f lo D z As wc tc v) (hY : YS y bytes maxL ret n) (hlink : Cond.methodLink own index y ∈ lw_g)
    (hf : f + 1 ≤ R.frames) (hlo : 8 + (maxL + 11) + lo ≤ R.locals) (hP : va_P D classes ws H) (hK : va_K D classes tys s) (hSS : SS z A s s.heap) (hS : va_S A s.heap H locs)
    (isC isT : List Nat) (hC : isC.filterMap (fun i => ws[i]?) = wc) (hT : isT.filterMap (fun i => tys[i]?) = tc)
    (hl : lv_has ls nL lv) (hn : As.length = n) (hst : st0 = As.reverse ++ rest) (hW : (rest.map fun v => v.category).sum ≤ 8) (hcl : cells ≤ R.cells) (hsl : slots ≤ R.slots)
    (hdg : decode cc pc = .ok (.invokestatic index, 3))
    (kk : W p l e R s m args below meth c H locs cells slots Q (F0 m (pc + 3) ls (v :: rest))) : W p l e R s m args below meth c H locs cells slots Q (F0 m pc ls st0) := by
  obtain ⟨y1, y2, y3, y5, y6, y7⟩ := hY
  refine W.callV (W.runS (As := As) (rest := rest) ⟨hx, hb, hml, hown, ht⟩ hM ⟨callB_of n ht (gd y1) rfl rfl rfl (ht _ y2) (ht _ hlink) ⟨y5, y6, y7⟩ ⟨hf, hlo⟩, ht _ y3⟩ ⟨PR.calling, ?_⟩ rfl hn hl.1 hst (lv_room hW) hdg ⟨hcl, hsl⟩) kk
  exact fun U hU hWm => ⟨rfl, by rw [hU]; exact hP.sub isC hC, va_K.moved hWm.alike (hK.sub isT hT), hSS.to hS (fun _ h => h.elim) hU hWm⟩
theorem callU {v : Option Value} {a : Array Value} {A1 : Nat → Prop} (hr : va_Run p l e R s m args below meth c H locs cells slots 0 0 (F0 m pc ls st0) rest (qcU v D w1 A1 a) A1) (hS : va_S A s.heap H locs) (hf : ∀ q, A1 q → A q)
    (kk : ∀ (H1 : Heap) (locs1 : List Loc), va_P D classes w1 H1 → va_D A1 w1 → (∀ q : Nat, q < H.size → ¬ A1 q → H1[q]? = H[q]?) → va_S A s.heap H1 locs1 → W p l e R s m args below meth c H1 locs1 cells slots Q (F0 m (pc + 3) ls (v.toList ++ rest))) : W p l e R s m args below meth c H locs cells slots Q (F0 m pc ls st0) := by
  intro T hT X
  obtain ⟨v', st₀, t, T', L, h0, X', hL, e1, e2, ⟨⟨hv, hp, hd⟩, hz, hk⟩, st⟩ := hr T hT X
  cases hv
  rw [h0] at hz hk
  obtain ⟨t2, a1, b1⟩ := kk T'.heap (locs ++ L) (by rw [e1]; exact hp) hd (fun q h1 h2 => by rw [e1]; exact hk q h1 h2)
    ⟨Nat.le_trans hS.1 (by rw [e1]; exact hz), fun q h1 h2 => by rw [e1, hk q (Nat.lt_of_lt_of_le h1 hS.1) (fun w => h2 (hf q w))]; exact hS.2.1 q h1 h2, fun q hq => by
      rcases List.mem_append.mp hq with h | h
      · exact hS.2.2 q h
      · exact hf _ (hL q h)⟩ T' rfl X'
  exact ⟨t2, st t2 a1, b1⟩
theorem uV {v : Option Value} {cn : vw_C} {fs : List Value} (hx : p.tables.exec = Jvm.exec) (hb : c.code = cc) (hml : c.maxLocals = nL) (hown : s.vm.findClass own = some m.cls) (ht : ∀ w ∈ lw_g, w.before args s = true)
    (hM : MU l y bytes maxL ret f lo D z (.ref b :: As) wc tc H.size v w1) (hY : YV y bytes maxL ret n) (hlink : Cond.methodLink own index y ∈ lw_g)
    (hf : f + 1 ≤ R.frames) (hlo : 8 + (maxL + 11) + lo ≤ R.locals) (hP : va_P D classes ws H) (hK : va_K D classes tys s) (hSS : SS z A s s.heap) (hD : va_D A ws) (hS : va_S A s.heap H locs) (hA : ∀ q : Nat, s.heap.size ≤ q → A q)
    (isC isR isT : List Nat) (hC : isC.map (fun i => ws[i]?) = wc.map some) (hC2 : isC.filterMap (fun i => ws[i]?) = wc) (hnC : va_nd isC = true) (hR : isR.map (fun i => ws[i]?) = wr.map some) (hnR : va_nd isR = true) (hdis : ∀ i ∈ isR, i ∉ isC) (hT : isT.filterMap (fun i => tys[i]?) = tc)
    (q0 ci : Nat) (hc : classes[ci]? = some cn) (hcn : cn.1 = y.cls) (he : ws[q0]? = some (b, .inr (ci, fs)))
    (hl : lv_has ls nL lv) (hn : As.length = n) (hst : st0 = As.reverse ++ .ref b :: rest) (hW : (rest.map fun v => v.category).sum ≤ 8) (hcl : cells ≤ R.cells) (hsl : slots ≤ R.slots)
    (hdg : decode cc pc = .ok (.invokevirtual index, 3))
    (kk : ∀ (H1 : Heap) (locs1 : List Loc), va_P D classes (wr ++ w1) H1 → va_D A (wr ++ w1) → va_S A s.heap H1 locs1 → W p l e R s m args below meth c H1 locs1 cells slots Q (F0 m (pc + 3) ls (v.toList ++ rest))) : W p l e R s m args below meth c H locs cells slots Q (F0 m pc ls st0) := by
  obtain ⟨y1, y2, y3, y4, y5, y6, y7⟩ := hY
  have hFc := va_free (wc := wc) hD hS hA isC hC
  have hDc : va_D A wc := hD.sub isC hnC hC
  refine callU (va_runV (As := As) (rest := rest) (b := b) (C := y.cls) ⟨hx, hb, hml, hown, ht⟩ hM ⟨callB_of n ht (gd y1) rfl rfl rfl (ht _ y2) (ht _ hlink) ⟨y5, y6, y7⟩ ⟨hf, hlo⟩, ht _ y3, ht _ y4⟩ ⟨PU.calling, by rw [← hcn]; exact va_recv hK hP hc he, ?_⟩ rfl hn hl.1 hst (lv_room hW) hdg ⟨hcl, hsl⟩) hS hFc (fun H1 locs1 hP1 hD1 hk1 hS1 => ?_)
  · exact fun U hU hWm => ⟨rfl, by rw [hU], by rw [hU]; exact hP.sub isC hC2, va_K.moved hWm.alike (hK.sub isT hT), hDc.weaken (fun _ _ _ _ => trivial), hSS.to hS hFc hU hWm⟩
  · obtain ⟨hP2, hD2⟩ := va_join (wr := wr) (w1 := w1) hP hD isC isR hC hR hnR hdis hk1 hFc hP1 hD1
    exact kk H1 locs1 hP2 hD2 hS1
theorem uS {v : Option Value} (hx : p.tables.exec = Jvm.exec) (hb : c.code = cc) (hml : c.maxLocals = nL) (hown : s.vm.findClass own = some m.cls) (ht : ∀ w ∈ lw_g, w.before args s = true)
    (hM : MU l y bytes maxL ret f lo D z As wc tc H.size v w1) (hY : YS y bytes maxL ret n) (hlink : Cond.methodLink own index y ∈ lw_g)
    (hf : f + 1 ≤ R.frames) (hlo : 8 + (maxL + 11) + lo ≤ R.locals) (hP : va_P D classes ws H) (hK : va_K D classes tys s) (hSS : SS z A s s.heap) (hD : va_D A ws) (hS : va_S A s.heap H locs) (hA : ∀ q : Nat, s.heap.size ≤ q → A q)
    (isC isR isT : List Nat) (hC : isC.map (fun i => ws[i]?) = wc.map some) (hC2 : isC.filterMap (fun i => ws[i]?) = wc) (hnC : va_nd isC = true) (hR : isR.map (fun i => ws[i]?) = wr.map some) (hnR : va_nd isR = true) (hdis : ∀ i ∈ isR, i ∉ isC) (hT : isT.filterMap (fun i => tys[i]?) = tc)
    (hl : lv_has ls nL lv) (hn : As.length = n) (hst : st0 = As.reverse ++ rest) (hW : (rest.map fun v => v.category).sum ≤ 8) (hcl : cells ≤ R.cells) (hsl : slots ≤ R.slots)
    (hdg : decode cc pc = .ok (.invokestatic index, 3))
    (kk : ∀ (H1 : Heap) (locs1 : List Loc), va_P D classes (wr ++ w1) H1 → va_D A (wr ++ w1) → va_S A s.heap H1 locs1 → W p l e R s m args below meth c H1 locs1 cells slots Q (F0 m (pc + 3) ls (v.toList ++ rest))) : W p l e R s m args below meth c H locs cells slots Q (F0 m pc ls st0) := by
  obtain ⟨y1, y2, y3, y5, y6, y7⟩ := hY
  have hFc := va_free (wc := wc) hD hS hA isC hC
  have hDc : va_D A wc := hD.sub isC hnC hC
  refine callU (va_runS (As := As) (rest := rest) ⟨hx, hb, hml, hown, ht⟩ hM ⟨callB_of n ht (gd y1) rfl rfl rfl (ht _ y2) (ht _ hlink) ⟨y5, y6, y7⟩ ⟨hf, hlo⟩, ht _ y3⟩ ⟨PU.calling, ?_⟩ rfl hn hl.1 hst (lv_room hW) hdg ⟨hcl, hsl⟩) hS hFc (fun H1 locs1 hP1 hD1 hk1 hS1 => ?_)
  · exact fun U hU hWm => ⟨rfl, by rw [hU], by rw [hU]; exact hP.sub isC hC2, va_K.moved hWm.alike (hK.sub isT hT), hDc.weaken (fun _ _ _ _ => trivial), hSS.to hS hFc hU hWm⟩
  · obtain ⟨hP2, hD2⟩ := va_join (wr := wr) (w1 := w1) hP hD isC isR hC hR hnR hdis hk1 hFc hP1 hD1
    exact kk H1 locs1 hP2 hD2 hS1
/-- ends -/
theorem eRi {x y : Int32} (hx : p.tables.exec = Jvm.exec) (hb : c.code = cc) (hr : meth.sig.returnType = some .int) (hlocks : meth.locks = false) (hd : decode cc pc = .ok (.ireturn, 1)) (h : x = y) : W p l e R s m args below meth c s.heap [] 0 0 (MQ below (k2_QcV (.int y)) args s 0 0 (fun _ => False)) (F0 m pc ls [.int x]) := by
  subst h
  exact W.iret hx hb hr (fun t ht _ => ⟨rfl, ht⟩) (fun _ h => by cases h) hd
theorem eRz {x y : Int32} {ty : FieldType} (hx : p.tables.exec = Jvm.exec) (hb : c.code = cc) (hr : meth.sig.returnType = some ty) (hlocks : meth.locks = false) (hn : narrow ty (.int x) = .int x) (hd : decode cc pc = .ok (.ireturn, 1)) (h : x = y) : W p l e R s m args below meth c s.heap [] 0 0 (MQ below (k2_QcV (.int y)) args s 0 0 (fun _ => False)) (F0 m pc ls [.int x]) := by
  subst h
  exact W.zret hx hb hr hn (fun t ht _ => ⟨rfl, ht⟩) (fun _ h => by cases h) hd
theorem eRa {q : Nat} {nm : String} (hx : p.tables.exec = Jvm.exec) (hb : c.code = cc) (hr : meth.sig.returnType = some (.object nm)) (hlocks : meth.locks = false) (hd : decode cc pc = .ok (.areturn, 1)) : W p l e R s m args below meth c s.heap [] 0 0 (MQ below (k2_QcV (.ref q)) args s 0 0 (fun _ => False)) (F0 m pc ls [.ref q]) :=
  W.aret hx hb hr (Or.inl ⟨nm, rfl⟩) (Or.inr ⟨q, rfl⟩) (fun t ht _ => ⟨rfl, ht⟩) (fun _ h => by cases h) hd
theorem eUv (hx : p.tables.exec = Jvm.exec) (hb : c.code = cc) (hr : meth.sig.returnType = none) (hlocks : meth.locks = false) (hP : va_P D classes ws H) (hD : va_D A ws) (hS : va_S A s.heap H locs) (is : List Nat) (hi : is.map (fun i => ws[i]?) = w1.map some) (hi2 : is.filterMap (fun i => ws[i]?) = w1) (hni : va_nd is = true) (hd : decode cc pc = .ok (.return_, 1)) : W p l e R s m args below meth c H locs 0 0 (MQ below (qcU none D w1 A) args s 0 0 A) (F0 m pc ls []) :=
  W.vret hx hb hr (fun t ht _ => ⟨⟨rfl, by rw [ht]; exact hP.sub is hi2, hD.sub is hni hi⟩, hS.F ht⟩) hS.2.2 hd
theorem eUi {x y : Int32} (hx : p.tables.exec = Jvm.exec) (hb : c.code = cc) (hr : meth.sig.returnType = some .int) (hlocks : meth.locks = false) (hP : va_P D classes ws H) (hD : va_D A ws) (hS : va_S A s.heap H locs) (is : List Nat) (hi : is.map (fun i => ws[i]?) = w1.map some) (hi2 : is.filterMap (fun i => ws[i]?) = w1) (hni : va_nd is = true) (hd : decode cc pc = .ok (.ireturn, 1)) (h : x = y) : W p l e R s m args below meth c H locs 0 0 (MQ below (qcU (some (.int y)) D w1 A) args s 0 0 A) (F0 m pc ls [.int x]) := by
  subst h
  exact W.iret hx hb hr (fun t ht _ => ⟨⟨rfl, by rw [ht]; exact hP.sub is hi2, hD.sub is hni hi⟩, hS.F ht⟩) hS.2.2 hd
theorem eUz {x y : Int32} {ty : FieldType} (hx : p.tables.exec = Jvm.exec) (hb : c.code = cc) (hr : meth.sig.returnType = some ty) (hlocks : meth.locks = false) (hn : narrow ty (.int x) = .int x) (hP : va_P D classes ws H) (hD : va_D A ws) (hS : va_S A s.heap H locs) (is : List Nat) (hi : is.map (fun i => ws[i]?) = w1.map some) (hi2 : is.filterMap (fun i => ws[i]?) = w1) (hni : va_nd is = true) (hd : decode cc pc = .ok (.ireturn, 1)) (h : x = y) : W p l e R s m args below meth c H locs 0 0 (MQ below (qcU (some (.int y)) D w1 A) args s 0 0 A) (F0 m pc ls [.int x]) := by
  subst h
  exact W.zret hx hb hr hn (fun t ht _ => ⟨⟨rfl, by rw [ht]; exact hP.sub is hi2, hD.sub is hni hi⟩, hS.F ht⟩) hS.2.2 hd
/-- arrays of small numbers -/
theorem ldI {cA : ClassId} {N k t0 q0 a : Nat} {g : Nat → Nat} (hx : p.tables.exec = Jvm.exec) (hb : c.code = cc) (hd : decode cc pc = .ok (.iaload, 1)) (hK : va_K D classes tys s) (hP : va_P D classes ws H) (ha : ws[q0]? = some (a, .inl (cA, N, .inl (iN g)))) (ht : tys[t0]? = some (cA, .int)) (hk : k < N) (hN : N < 2147483648)
    (kk : W p l e R s m args below meth c H locs cells slots Q (F0 m (pc + 1) ls (.int (nI (g k)) :: rest))) : W p l e R s m args below meth c H locs cells slots Q (F0 m pc ls (.int (nI k) :: .ref a :: rest)) := by
  refine va_iald hx hb hK hP q0 t0 ha ht (vin hk hN) hd ?_
  rw [clp (by omega)]
  exact kk
theorem ldC {cA : ClassId} {N k t0 q0 a : Nat} {g : Nat → Nat} (hx : p.tables.exec = Jvm.exec) (hb : c.code = cc) (hd : decode cc pc = .ok (.caload, 1)) (hK : va_K D classes tys s) (hP : va_P D classes ws H) (ha : ws[q0]? = some (a, .inl (cA, N, .inl (iN g)))) (ht : tys[t0]? = some (cA, .char)) (hk : k < N) (hN : N < 2147483648)
    (kk : W p l e R s m args below meth c H locs cells slots Q (F0 m (pc + 1) ls (.int (nI (g k)) :: rest))) : W p l e R s m args below meth c H locs cells slots Q (F0 m pc ls (.int (nI k) :: .ref a :: rest)) := by
  refine va_cald hx hb hK hP q0 t0 ha ht (vin hk hN) hd ?_
  rw [clp (by omega)]
  exact kk
theorem ldZ {cA : ClassId} {N k t0 q0 a : Nat} {g : Nat → Bool} (hx : p.tables.exec = Jvm.exec) (hb : c.code = cc) (hd : decode cc pc = .ok (.baload, 1)) (hK : va_K D classes tys s) (hP : va_P D classes ws H) (ha : ws[q0]? = some (a, .inl (cA, N, .inl (zN g)))) (ht : tys[t0]? = some (cA, .boolean)) (hk : k < N) (hN : N < 2147483648)
    (kk : W p l e R s m args below meth c H locs cells slots Q (F0 m (pc + 1) ls (.int (bI (g k)) :: rest))) : W p l e R s m args below meth c H locs cells slots Q (F0 m pc ls (.int (nI k) :: .ref a :: rest)) := by
  refine va_zald hx hb hK hP q0 t0 ha ht (vin hk hN) hd ?_
  rw [clp (by omega)]
  exact kk
theorem stI {cA : ClassId} {N k v t0 q0 a : Nat} {g : Nat → Nat} (hx : p.tables.exec = Jvm.exec) (hb : c.code = cc) (hd : decode cc pc = .ok (.iastore, 1)) (hK : va_K D classes tys s) (hP : va_P D classes ws H) (hD : va_D A ws) (hS : va_S A s.heap H locs) (ha : ws[q0]? = some (a, .inl (cA, N, .inl (iN g)))) (ht : tys[t0]? = some (cA, .int)) (hk : k < N) (hN : N < 2147483648) (hw : ws.set q0 (a, .inl (cA, N, .inl (iN (updN g k v)))) = w1)
    (kk : ∀ (H1 : Heap) (locs1 : List Loc), va_P D classes w1 H1 → va_D A w1 → va_S A s.heap H1 locs1 → W p l e R s m args below meth c H1 locs1 cells slots Q (F0 m (pc + 1) ls rest)) : W p l e R s m args below meth c H locs cells slots Q (F0 m pc ls (.int (nI v) :: .int (nI k) :: .ref a :: rest)) := by
  subst hw
  refine va_iast hx hb hK hP hD hS q0 t0 ha ht (vin hk hN) hd (fun H1 locs1 h1 h2 h3 => ?_)
  rw [clp (by omega), iN_upd] at h1 h2
  exact kk H1 locs1 h1 h2 h3
theorem stX {cA : ClassId} {N k t0 q0 a : Nat} {g : Nat → Int32} {x : Int32} (hx : p.tables.exec = Jvm.exec) (hb : c.code = cc) (hd : decode cc pc = .ok (.iastore, 1)) (hK : va_K D classes tys s) (hP : va_P D classes ws H) (hD : va_D A ws) (hS : va_S A s.heap H locs) (ha : ws[q0]? = some (a, .inl (cA, N, .inl g))) (ht : tys[t0]? = some (cA, .int)) (hk : k < N) (hN : N < 2147483648) (hw : ws.set q0 (a, .inl (cA, N, .inl (upd g k x))) = w1)
    (kk : ∀ (H1 : Heap) (locs1 : List Loc), va_P D classes w1 H1 → va_D A w1 → va_S A s.heap H1 locs1 → W p l e R s m args below meth c H1 locs1 cells slots Q (F0 m (pc + 1) ls rest)) : W p l e R s m args below meth c H locs cells slots Q (F0 m pc ls (.int x :: .int (nI k) :: .ref a :: rest)) := by
  subst hw
  refine va_iast hx hb hK hP hD hS q0 t0 ha ht (vin hk hN) hd (fun H1 locs1 h1 h2 h3 => ?_)
  rw [clp (by omega)] at h1 h2
  exact kk H1 locs1 h1 h2 h3
theorem ldX {cA : ClassId} {N k t0 q0 a : Nat} {g : Nat → Int32} (hx : p.tables.exec = Jvm.exec) (hb : c.code = cc) (hd : decode cc pc = .ok (.iaload, 1)) (hK : va_K D classes tys s) (hP : va_P D classes ws H) (ha : ws[q0]? = some (a, .inl (cA, N, .inl g))) (ht : tys[t0]? = some (cA, .int)) (hk : k < N) (hN : N < 2147483648)
    (kk : W p l e R s m args below meth c H locs cells slots Q (F0 m (pc + 1) ls (.int (g k) :: rest))) : W p l e R s m args below meth c H locs cells slots Q (F0 m pc ls (.int (nI k) :: .ref a :: rest)) := by
  refine va_iald hx hb hK hP q0 t0 ha ht (vin hk hN) hd ?_
  rw [clp (by omega)]
  exact kk
theorem char_nar {v : Nat} (h : v < 65536) : vp_nar .char (nI v) = nI v := by
  rw [vp_nar_char]
  apply Int32.toBitVec_inj.mp
  apply BitVec.eq_of_toNat_eq
  simp [nI]
  omega
theorem stC {cA : ClassId} {N k v t0 q0 a : Nat} {g : Nat → Nat} (hx : p.tables.exec = Jvm.exec) (hb : c.code = cc) (hd : decode cc pc = .ok (.castore, 1)) (hK : va_K D classes tys s) (hP : va_P D classes ws H) (hD : va_D A ws) (hS : va_S A s.heap H locs) (ha : ws[q0]? = some (a, .inl (cA, N, .inl (iN g)))) (ht : tys[t0]? = some (cA, .char)) (hk : k < N) (hN : N < 2147483648) (hv : v < 65536) (hw : ws.set q0 (a, .inl (cA, N, .inl (iN (updN g k v)))) = w1)
    (kk : ∀ (H1 : Heap) (locs1 : List Loc), va_P D classes w1 H1 → va_D A w1 → va_S A s.heap H1 locs1 → W p l e R s m args below meth c H1 locs1 cells slots Q (F0 m (pc + 1) ls rest)) : W p l e R s m args below meth c H locs cells slots Q (F0 m pc ls (.int (nI v) :: .int (nI k) :: .ref a :: rest)) := by
  subst hw
  refine va_cast hx hb hK hP hD hS q0 t0 ha ht (vin hk hN) hd (fun H1 locs1 h1 h2 h3 => ?_)
  rw [clp (by omega), char_nar hv, iN_upd] at h1 h2
  exact kk H1 locs1 h1 h2 h3
theorem stZ {cA : ClassId} {N k t0 q0 a : Nat} {v : Bool} {g : Nat → Bool} (hx : p.tables.exec = Jvm.exec) (hb : c.code = cc) (hd : decode cc pc = .ok (.bastore, 1)) (hK : va_K D classes tys s) (hP : va_P D classes ws H) (hD : va_D A ws) (hS : va_S A s.heap H locs) (ha : ws[q0]? = some (a, .inl (cA, N, .inl (zN g)))) (ht : tys[t0]? = some (cA, .boolean)) (hk : k < N) (hN : N < 2147483648) (hw : ws.set q0 (a, .inl (cA, N, .inl (zN (updB g k v)))) = w1)
    (kk : ∀ (H1 : Heap) (locs1 : List Loc), va_P D classes w1 H1 → va_D A w1 → va_S A s.heap H1 locs1 → W p l e R s m args below meth c H1 locs1 cells slots Q (F0 m (pc + 1) ls rest)) : W p l e R s m args below meth c H locs cells slots Q (F0 m pc ls (.int (bI v) :: .int (nI k) :: .ref a :: rest)) := by
  subst hw
  refine va_zast hx hb hK hP hD hS q0 t0 ha ht (vin hk hN) hd (fun H1 locs1 h1 h2 h3 => ?_)
  rw [clp (by omega), bI_nar, zN_upd] at h1 h2
  exact kk H1 locs1 h1 h2 h3
end Base3
theorem yv_Co_append : YV y_Co_append b_Co_append 4 (some .int) 2 := ⟨k_117, k_1, k_115, k_116, by decide, by decide, by decide⟩
theorem yv_Co_enter : YV y_Co_enter b_Co_enter 2 (some .boolean) 1 := ⟨k_129, k_1, k_127, k_128, by decide, by decide, by decide⟩
theorem yv_Co_clear : YV y_Co_clear b_Co_clear 1 none 0 := ⟨k_141, k_1, k_139, k_140, by decide, by decide, by decide⟩
theorem yv_Co_size : YV y_Co_size b_Co_size 1 (some .int) 0 := ⟨k_153, k_1, k_151, k_152, by decide, by decide, by decide⟩
theorem yv_Co_byteAt : YV y_Co_byteAt b_Co_byteAt 2 (some .int) 1 := ⟨k_157, k_1, k_155, k_156, by decide, by decide, by decide⟩
theorem yv_Co_entry : YV y_Co_entry b_Co_entry 2 (some .int) 1 := ⟨k_166, k_1, k_164, k_165, by decide, by decide, by decide⟩
theorem yv_Co_length : YV y_Co_length b_Co_length 2 (some .int) 1 := ⟨k_170, k_1, k_168, k_169, by decide, by decide, by decide⟩
theorem yv_Co_reach : YV y_Co_reach b_Co_reach 1 (some .int) 0 := ⟨k_195, k_1, k_193, k_194, by decide, by decide, by decide⟩
theorem yv_Co_reached : YV y_Co_reached b_Co_reached 2 (some .boolean) 1 := ⟨k_239, k_1, k_237, k_238, by decide, by decide, by decide⟩
theorem yv_Co_body : YV y_Co_body b_Co_body 2 (some .int) 1 := ⟨k_247, k_1, k_245, k_246, by decide, by decide, by decide⟩
theorem yv_Co_sweep : YV y_Co_sweep b_Co_sweep 4 (some .int) 0 := ⟨k_251, k_1, k_249, k_250, by decide, by decide, by decide⟩
theorem yv_Co_list : YV y_Co_list b_Co_list 2 (some .int) 0 := ⟨k_258, k_1, k_256, k_257, by decide, by decide, by decide⟩
theorem yv_Co_textLength : YV y_Co_textLength b_Co_textLength 1 (some .int) 0 := ⟨k_374, k_1, k_372, k_373, by decide, by decide, by decide⟩
theorem yv_Co_charAt : YV y_Co_charAt b_Co_charAt 2 (some .int) 1 := ⟨k_378, k_1, k_376, k_377, by decide, by decide, by decide⟩
theorem yv_Co_type : YV y_Co_type b_Co_type 3 (some .boolean) 2 := ⟨k_386, k_1, k_384, k_385, by decide, by decide, by decide⟩
theorem yv_Co_assemble : YV y_Co_assemble b_Co_assemble 1 (some .int) 0 := ⟨k_391, k_1, k_389, k_390, by decide, by decide, by decide⟩
theorem yv_Co_made : YV y_Co_made b_Co_made 2 (some .int) 1 := ⟨k_484, k_1, k_482, k_483, by decide, by decide, by decide⟩
theorem yv_Co_isEntry : YV y_Co_isEntry b_Co_isEntry 3 (some .boolean) 1 := ⟨k_137, k_1, k_136, kp_Co_isEntry, by decide, by decide, by decide⟩
theorem yv_Co_walkFromEntries : YV y_Co_walkFromEntries b_Co_walkFromEntries 2 none 0 := ⟨k_199, k_1, k_198, kp_Co_walkFromEntries, by decide, by decide, by decide⟩
theorem yv_Co_listLine : YV y_Co_listLine b_Co_listLine 3 (some .int) 1 := ⟨k_262, k_1, k_261, kp_Co_listLine, by decide, by decide, by decide⟩
theorem yv_Mo_append : YV y_Mo_append b_Mo_append 4 (some .int) 2 := ⟨k_531, k_6, k_529, k_530, by decide, by decide, by decide⟩
theorem yv_Mo_has : YV y_Mo_has b_Mo_has 2 (some .boolean) 1 := ⟨k_539, k_6, k_538, kp_Mo_has, by decide, by decide, by decide⟩
theorem yv_Mo_enter : YV y_Mo_enter b_Mo_enter 3 (some .boolean) 1 := ⟨k_535, k_6, k_533, k_534, by decide, by decide, by decide⟩
theorem yv_Mo_clear : YV y_Mo_clear b_Mo_clear 1 none 0 := ⟨k_543, k_6, k_541, k_542, by decide, by decide, by decide⟩
theorem yv_Mo_size : YV y_Mo_size b_Mo_size 1 (some .int) 0 := ⟨k_547, k_6, k_545, k_546, by decide, by decide, by decide⟩
theorem yv_Mo_byteAt : YV y_Mo_byteAt b_Mo_byteAt 2 (some .int) 1 := ⟨k_551, k_6, k_549, k_550, by decide, by decide, by decide⟩
theorem yv_Mo_entry : YV y_Mo_entry b_Mo_entry 2 (some .int) 1 := ⟨k_555, k_6, k_553, k_554, by decide, by decide, by decide⟩
theorem ys_Mo_longOf : YS y_Mo_longOf b_Mo_longOf 2 (some .int) 1 := ⟨k_562, k_6, k_561, by decide, by decide, by decide⟩
theorem yv_Mo_length : YV y_Mo_length b_Mo_length 3 (some .int) 1 := ⟨k_559, k_6, k_557, k_558, by decide, by decide, by decide⟩
theorem yv_Mo_set : YV y_Mo_set b_Mo_set 2 (some .boolean) 1 := ⟨k_583, k_6, k_582, kp_Mo_set, by decide, by decide, by decide⟩
theorem yv_Mo_follow : YV y_Mo_follow b_Mo_follow 6 (some .boolean) 2 := ⟨k_578, k_6, k_577, kp_Mo_follow, by decide, by decide, by decide⟩
theorem yv_Mo_close : YV y_Mo_close b_Mo_close 5 (some .int) 1 := ⟨k_574, k_6, k_573, kp_Mo_close, by decide, by decide, by decide⟩
theorem yv_Mo_wipe : YV y_Mo_wipe b_Mo_wipe 2 none 0 := ⟨k_570, k_6, k_569, kp_Mo_wipe, by decide, by decide, by decide⟩
theorem yv_Mo_reach : YV y_Mo_reach b_Mo_reach 2 (some .int) 0 := ⟨k_566, k_6, k_564, k_565, by decide, by decide, by decide⟩
theorem yv_Mo_reached : YV y_Mo_reached b_Mo_reached 3 (some .boolean) 1 := ⟨k_587, k_6, k_585, k_586, by decide, by decide, by decide⟩
theorem yv_Mo_body : YV y_Mo_body b_Mo_body 2 (some .int) 1 := ⟨k_592, k_6, k_590, k_591, by decide, by decide, by decide⟩
theorem yv_Mo_sweep : YV y_Mo_sweep b_Mo_sweep 4 (some .int) 0 := ⟨k_596, k_6, k_594, k_595, by decide, by decide, by decide⟩
theorem yv_Mo_put : YV y_Mo_put b_Mo_put 2 none 1 := ⟨k_612, k_6, k_611, kp_Mo_put, by decide, by decide, by decide⟩
theorem yv_Mo_name : YV y_Mo_name b_Mo_name 4 none 3 := ⟨k_608, k_6, k_607, kp_Mo_name, by decide, by decide, by decide⟩
theorem yv_Mo_number : YV y_Mo_number b_Mo_number 3 none 1 := ⟨k_616, k_6, k_615, kp_Mo_number, by decide, by decide, by decide⟩
theorem yv_Mo_register : YV y_Mo_register b_Mo_register 2 none 1 := ⟨k_628, k_6, k_627, kp_Mo_register, by decide, by decide, by decide⟩
theorem yv_Mo_front : YV y_Mo_front b_Mo_front 3 none 1 := ⟨k_624, k_6, k_623, kp_Mo_front, by decide, by decide, by decide⟩
theorem yv_Mo_print : YV y_Mo_print b_Mo_print 3 none 2 := ⟨k_620, k_6, k_619, kp_Mo_print, by decide, by decide, by decide⟩
theorem yv_Mo_data : YV y_Mo_data b_Mo_data 2 none 1 := ⟨k_604, k_6, k_603, kp_Mo_data, by decide, by decide, by decide⟩
theorem yv_Mo_list : YV y_Mo_list b_Mo_list 8 (some .int) 0 := ⟨k_600, k_6, k_598, k_599, by decide, by decide, by decide⟩
theorem yv_Mo_textLength : YV y_Mo_textLength b_Mo_textLength 1 (some .int) 0 := ⟨k_632, k_6, k_630, k_631, by decide, by decide, by decide⟩
theorem yv_Mo_charAt : YV y_Mo_charAt b_Mo_charAt 2 (some .int) 1 := ⟨k_636, k_6, k_634, k_635, by decide, by decide, by decide⟩
theorem yv_Mo_type : YV y_Mo_type b_Mo_type 3 (some .boolean) 2 := ⟨k_640, k_6, k_638, k_639, by decide, by decide, by decide⟩
theorem yv_Mo_begins : YV y_Mo_begins b_Mo_begins 3 (some .boolean) 1 := ⟨k_656, k_6, k_655, kp_Mo_begins, by decide, by decide, by decide⟩
theorem yv_Mo_here : YV y_Mo_here b_Mo_here 3 (some .boolean) 1 := ⟨k_652, k_6, k_651, kp_Mo_here, by decide, by decide, by decide⟩
theorem yv_Mo_understand : YV y_Mo_understand b_Mo_understand 7 (some .int) 1 := ⟨k_648, k_6, k_647, kp_Mo_understand, by decide, by decide, by decide⟩
theorem yv_Mo_assemble : YV y_Mo_assemble b_Mo_assemble 10 (some .int) 0 := ⟨k_644, k_6, k_642, k_643, by decide, by decide, by decide⟩
theorem yv_Mo_made : YV y_Mo_made b_Mo_made 2 (some .int) 1 := ⟨k_662, k_6, k_660, k_661, by decide, by decide, by decide⟩
theorem yv_As_count : YV y_As_count b_As_count 1 (some .int) 0 := ⟨k_472, k_5, k_470, k_471, by decide, by decide, by decide⟩
theorem yv_As_copyTo : YV y_As_copyTo b_As_copyTo 2 none 1 := ⟨k_476, k_5, k_474, k_475, by decide, by decide, by decide⟩
theorem yv_As_read : YV y_As_read b_As_read 3 (some .boolean) 1 := ⟨k_395, k_5, k_393, k_394, by decide, by decide, by decide⟩
theorem yv_As_readLine : YV y_As_readLine b_As_readLine 5 none 1 := ⟨k_407, k_5, k_406, kp_As_readLine, by decide, by decide, by decide⟩
theorem ys_As_readRegisters : YS y_As_readRegisters b_As_readRegisters 4 (some .int) 2 := ⟨k_419, k_5, k_418, by decide, by decide, by decide⟩
theorem ys_As_readNumber : YS y_As_readNumber b_As_readNumber 3 (some .int) 2 := ⟨k_435, k_5, k_434, by decide, by decide, by decide⟩
theorem yv_As_addBytes : YV y_As_addBytes b_As_addBytes 4 none 3 := ⟨k_459, k_5, k_458, kp_As_addBytes, by decide, by decide, by decide⟩
theorem yv_As_addByte : YV y_As_addByte b_As_addByte 2 none 1 := ⟨k_464, k_5, k_463, kp_As_addByte, by decide, by decide, by decide⟩
theorem yv_Im_count : YV y_Im_count b_Im_count 1 (some .int) 0 := ⟨k_121, k_2, k_119, k_120, by decide, by decide, by decide⟩
theorem yv_Im_holds : YV y_Im_holds b_Im_holds 2 (some .boolean) 1 := ⟨k_133, k_2, k_131, k_132, by decide, by decide, by decide⟩
theorem yv_Im_at : YV y_Im_at b_Im_at 2 (some .int) 1 := ⟨k_161, k_2, k_159, k_160, by decide, by decide, by decide⟩
theorem yv_Im_add : YV y_Im_add b_Im_add 2 none 1 := ⟨k_125, k_2, k_123, k_124, by decide, by decide, by decide⟩
theorem yv_Im_drop : YV y_Im_drop b_Im_drop 1 none 0 := ⟨k_145, k_2, k_143, k_144, by decide, by decide, by decide⟩
theorem yv_Im_codeKind : YV y_Im_codeKind b_Im_codeKind 3 (some .int) 1 := ⟨k_178, k_2, k_176, k_177, by decide, by decide, by decide⟩
theorem yv_Im_codeLength : YV y_Im_codeLength b_Im_codeLength 3 (some .int) 1 := ⟨k_174, k_2, k_172, k_173, by decide, by decide, by decide⟩
theorem yv_Im_number : YV y_Im_number b_Im_number 3 (some .int) 2 := ⟨k_228, k_2, k_226, k_227, by decide, by decide, by decide⟩
theorem ys_Ki_ofFirst : YS y_Ki_ofFirst b_Ki_ofFirst 3 (some .int) 1 := ⟨k_182, k_7, k_181, by decide, by decide, by decide⟩
theorem ys_Ki_first : YS y_Ki_first b_Ki_first 1 (some .int) 1 := ⟨k_363, k_7, k_362, by decide, by decide, by decide⟩
theorem ys_Ki_registers : YS y_Ki_registers b_Ki_registers 1 (some .int) 1 := ⟨k_344, k_7, k_343, by decide, by decide, by decide⟩
theorem ys_Ki_number : YS y_Ki_number b_Ki_number 1 (some .int) 1 := ⟨k_231, k_7, k_230, by decide, by decide, by decide⟩
theorem ys_Ki_bytes : YS y_Ki_bytes b_Ki_bytes 1 (some .int) 1 := ⟨k_189, k_7, k_188, by decide, by decide, by decide⟩
theorem ys_Ki_lowest : YS y_Ki_lowest b_Ki_lowest 1 (some .int) 1 := ⟨k_439, k_7, k_438, by decide, by decide, by decide⟩
theorem ys_Ki_highest : YS y_Ki_highest b_Ki_highest 1 (some .int) 1 := ⟨k_442, k_7, k_441, by decide, by decide, by decide⟩
theorem ys_Ki_fallsThrough : YS y_Ki_fallsThrough b_Ki_fallsThrough 1 (some .boolean) 1 := ⟨k_223, k_7, k_222, by decide, by decide, by decide⟩
theorem ys_Ki_opening : YS y_Ki_opening b_Ki_opening 1 (some (.object "java/lang/String")) 1 := ⟨k_270, k_7, k_269, by decide, by decide, by decide⟩
theorem yv_Te_count : YV y_Te_count b_Te_count 1 (some .int) 0 := ⟨k_369, k_4, k_367, k_368, by decide, by decide, by decide⟩
theorem yv_Te_at : YV y_Te_at b_Te_at 2 (some .int) 1 := ⟨k_382, k_4, k_380, k_381, by decide, by decide, by decide⟩
theorem yv_Te_drop : YV y_Te_drop b_Te_drop 1 none 0 := ⟨k_149, k_4, k_147, k_148, by decide, by decide, by decide⟩
theorem yv_Te_put : YV y_Te_put b_Te_put 3 none 2 := ⟨k_340, k_4, k_338, k_339, by decide, by decide, by decide⟩
theorem yv_Te_addLine : YV y_Te_addLine b_Te_addLine 7 none 3 := ⟨k_267, k_4, k_265, k_266, by decide, by decide, by decide⟩
theorem yv_Te_add : YV y_Te_add b_Te_add 2 none 1 := ⟨k_336, k_4, k_335, kp_Te_add, by decide, by decide, by decide⟩
theorem yv_Te_addComma : YV y_Te_addComma b_Te_addComma 2 none 1 := ⟨k_348, k_4, k_347, kp_Te_addComma, by decide, by decide, by decide⟩
theorem yv_Te_addDigit : YV y_Te_addDigit b_Te_addDigit 2 none 1 := ⟨k_352, k_4, k_351, kp_Te_addDigit, by decide, by decide, by decide⟩
theorem yv_Te_addNumber : YV y_Te_addNumber b_Te_addNumber 4 none 1 := ⟨k_357, k_4, k_356, kp_Te_addNumber, by decide, by decide, by decide⟩
theorem yv_Te_startReading : YV y_Te_startReading b_Te_startReading 1 none 0 := ⟨k_399, k_4, k_397, k_398, by decide, by decide, by decide⟩
theorem yv_Te_isRight : YV y_Te_isRight b_Te_isRight 1 (some .boolean) 0 := ⟨k_468, k_4, k_466, k_467, by decide, by decide, by decide⟩
theorem yv_Te_hasMore : YV y_Te_hasMore b_Te_hasMore 1 (some .boolean) 0 := ⟨k_403, k_4, k_401, k_402, by decide, by decide, by decide⟩
theorem yv_Te_take : YV y_Te_take b_Te_take 2 none 1 := ⟨k_428, k_4, k_426, k_427, by decide, by decide, by decide⟩
theorem yv_Te_takeComma : YV y_Te_takeComma b_Te_takeComma 2 none 1 := ⟨k_424, k_4, k_422, k_423, by decide, by decide, by decide⟩
theorem yv_Te_takeKind : YV y_Te_takeKind b_Te_takeKind 3 (some .int) 0 := ⟨k_411, k_4, k_409, k_410, by decide, by decide, by decide⟩
theorem yv_Te_goesOnWith : YV y_Te_goesOnWith b_Te_goesOnWith 3 (some .boolean) 1 := ⟨k_415, k_4, k_414, kp_Te_goesOnWith, by decide, by decide, by decide⟩
theorem yv_Te_takeRegister : YV y_Te_takeRegister b_Te_takeRegister 2 (some .int) 0 := ⟨k_432, k_4, k_430, k_431, by decide, by decide, by decide⟩
theorem yv_Te_takeNumber : YV y_Te_takeNumber b_Te_takeNumber 6 (some .int) 2 := ⟨k_447, k_4, k_445, k_446, by decide, by decide, by decide⟩
theorem yv_Te_takeAmount : YV y_Te_takeAmount b_Te_takeAmount 4 (some .int) 0 := ⟨k_451, k_4, k_450, kp_Te_takeAmount, by decide, by decide, by decide⟩
theorem ys_Te_isDigit : YS y_Te_isDigit b_Te_isDigit 1 (some .boolean) 1 := ⟨k_454, k_4, k_453, by decide, by decide, by decide⟩
theorem yv_Wa_count : YV y_Wa_count b_Wa_count 1 (some .int) 0 := ⟨k_235, k_3, k_233, k_234, by decide, by decide, by decide⟩
theorem yv_Wa_start : YV y_Wa_start b_Wa_start 3 none 1 := ⟨k_203, k_3, k_201, k_202, by decide, by decide, by decide⟩
theorem yv_Wa_cameTo : YV y_Wa_cameTo b_Wa_cameTo 2 (some .boolean) 1 := ⟨k_243, k_3, k_241, k_242, by decide, by decide, by decide⟩
theorem yv_Wa_comeTo : YV y_Wa_comeTo b_Wa_comeTo 2 none 1 := ⟨k_210, k_3, k_208, k_209, by decide, by decide, by decide⟩
theorem yv_Wa_follow : YV y_Wa_follow b_Wa_follow 4 none 2 := ⟨k_214, k_3, k_212, k_213, by decide, by decide, by decide⟩
theorem yv_Wa_comeToSuccessors : YV y_Wa_comeToSuccessors b_Wa_comeToSuccessors 6 none 3 := ⟨k_218, k_3, k_217, kp_Wa_comeToSuccessors, by decide, by decide, by decide⟩
theorem yv_St_length : YV y_St_length b_St_length 1 (some .int) 0 := ⟨k_288, k_9, k_286, k_287, by decide, by decide, by decide⟩
theorem yv_St_coder : YV y_St_coder b_St_coder 1 (some .byte) 0 := ⟨k_292, k_9, k_290, k_291, by decide, by decide, by decide⟩
theorem yv_St_charAt : YV y_St_charAt b_St_charAt 2 (some .char) 1 := ⟨k_298, k_9, k_296, k_297, by decide, by decide, by decide⟩
theorem yv_St_isLatin1 : YV y_St_isLatin1 b_St_isLatin1 1 (some .boolean) 0 := ⟨k_302, k_9, k_300, k_301, by decide, by decide, by decide⟩
theorem ys_Sl_charAt : YS y_Sl_charAt b_Sl_charAt 2 (some .char) 2 := ⟨k_305, k_10, k_304, by decide, by decide, by decide⟩
theorem ys_St_checkIndex : YS y_St_checkIndex b_St_checkIndex 2 none 2 := ⟨k_308, k_9, k_307, by decide, by decide, by decide⟩
theorem ys_Pr_checkIndex : YS y_Pr_checkIndex b_Pr_checkIndex 3 (some .int) 3 := ⟨k_313, k_11, k_312, by decide, by decide, by decide⟩
