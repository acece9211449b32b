def qcX {S : Type} (v : S → Option Value) (D : va_G) (post : S → Prop) (w1 : S → va_W) (A : Nat → Prop) : Array Value → State → Outcome → State → Prop := fun _ st oc t => (∃ u : S, oc = .returned (v u) ∧ post u ∧ va_P D classes (w1 u) t.heap ∧ va_D A (w1 u)) ∧ va_F A st t
def MX {S : Type} (l : Launch) (y : MethodName) (bytes : ByteArray) (maxL : Nat) (ret : Option FieldType) (f lo : Nat) (D : va_G) (z : zT) (av : List Value) (ws : va_W) (tys : tyL) (sz : Nat) (v : S → Option Value) (post : S → Prop) (w1 : S → va_W) : Prop :=
  Met l y (Cond.code y bytes maxL ret :: lw_g) (rmq f lo) (va_Pc av (PU D z ws tys sz)) (qcX v D post w1 (va_A ws sz)) 0 0 (va_A ws sz)
section Base4
variable {l : Launch} {y : MethodName} {bytes : ByteArray} {maxL : Nat} {ret : Option FieldType} {f lo : Nat} {D : va_G} {z : zT} {av : List Value} {ws : va_W} {tys : tyL} {sz : Nat}
theorem metX {S : Type} {v : S → Option Value} {post : S → Prop} {w1 : S → va_W} (hy : plainName y.cls = true) (hn : (lg_sl av).length ≤ maxL)
    (body : ∀ (p : Program) (e : Env) (s : State) (m : MethodId) (below : List Frame) (meth : Method) (c : Code) (ls : Array Slot) (A : Nat → Prop), p.tables.exec = Jvm.exec → c.code = bytes → meth.sig.returnType = ret → meth.locks = false → c.maxLocals = maxL → s.vm.findClass y.cls = some m.cls → (∀ w ∈ lw_g, w.before av.toArray s = true) → lv_has ls maxL (lv_args 0 av) → va_P D classes ws s.heap → va_K D classes tys s → SS z A s s.heap → va_D A ws → va_S A s.heap s.heap [] → (∀ q : Nat, s.heap.size ≤ q → A q) →
      W p l e (rmq f lo) s m av.toArray below meth c s.heap [] 0 0 (MQ below (qcX v D post w1 A) av.toArray s 0 0 A) (F0 m 0 ls [])) : MX l y bytes maxL ret f lo D z av ws tys sz v post w1 := by
  refine Met.ofW (cc := bytes) (maxL := maxL) (ret := ret) hy rfl ?_
  intro p e s m args below meth c s₁ B hml hv
  obtain ⟨rfl, rfl, hP, hK, hD, hSS⟩ := hv
  have hts := atoms_spec (ws := Cond.code y bytes maxL ret :: lw_g) B.pre
  have hl := lv_entry av (n := maxL) hn
  rw [lg_entry_eq]
  generalize (lg_sl av ++ List.replicate (maxL - (lg_sl av).length) Slot.unset).toArray = ls at hl ⊢
  exact body p e s m below meth c ls (va_A ws s.heap.size) B.exec B.bytes B.returns B.notSynchronized hml (findClass_of_methodNamed B.named) (fun w hw => hts w (List.mem_cons_of_mem _ hw)) hl hP hK hSS hD.self va_S.rf (fun q h => Or.inr h)
end Base4
section Base5
variable {p : Program} {l : Launch} {e : Env} {R : Room} {s : State} {m : MethodId} {args : Array Value} {below : List Frame} {meth : Method} {c : Code} {H : Heap} {locs : List Loc} {cells slots : Nat} {Q : State → Prop} {pc : Nat} {ls : Array Slot} {rest st0 : List Value}
variable {own : String} {index : Nat} {y : MethodName} {bytes cc : ByteArray} {maxL nL n : Nat} {ret : Option FieldType} {f lo : Nat} {D : va_G} {z : zT} {ws wc wr : va_W} {tys tc : tyL} {b : Nat} {As : List Value} {A : Nat → Prop} {lv : List (Nat × Value)}
theorem callX {S : Type} {v : S → Option Value} {post : S → Prop} {w1 : S → va_W} {a : Array Value} {A1 : Nat → Prop} (hr : va_Run p l e R s m args below meth c H locs cells slots 0 0 (F0 m pc ls st0) rest (qcX v D post w1 A1 a) A1) (hS : va_S A s.heap H locs) (hf : ∀ q, A1 q → A q)
    (kk : ∀ (u : S) (H1 : Heap) (locs1 : List Loc), post u → va_P D classes (w1 u) H1 → va_D A1 (w1 u) → (∀ q : Nat, q < H.size → ¬ A1 q → H1[q]? = H[q]?) → va_S A s.heap H1 locs1 → W p l e R s m args below meth c H1 locs1 cells slots Q (F0 m (pc + 3) ls ((v u).toList ++ rest))) : W p l e R s m args below meth c H locs cells slots Q (F0 m pc ls st0) := by
  intro T hT X
  obtain ⟨v', st₀, t, T', L, h0, X', hL, e1, e2, ⟨⟨u, hv, hq, hp, hd⟩, hz, hk⟩, st⟩ := hr T hT X
  cases hv
  rw [h0] at hz hk
  obtain ⟨t2, a1, b1⟩ := kk u T'.heap (locs ++ L) hq (by rw [e1]; exact hp) hd (fun q h1 h2 => by rw [e1]; exact hk q h1 h2)
    ⟨Nat.le_trans hS.1 (by rw [e1]; exact hz), fun q h1 h2 => by rw [e1, hk q (Nat.lt_of_lt_of_le h1 hS.1) (fun w => h2 (hf q w))]; exact hS.2.1 q h1 h2, fun q hq => by
      rcases List.mem_append.mp hq with h | h
      · exact hS.2.2 q h
      · exact hf _ (hL q h)⟩ T' rfl X'
  exact ⟨t2, st t2 a1, b1⟩
theorem xV {S : Type} {v : S → Option Value} {post : S → Prop} {w1 : S → va_W} {cn : vw_C} {fs : List Value} (hx : p.tables.exec = Jvm.exec) (hb : c.code = cc) (hml : c.maxLocals = nL) (hown : s.vm.findClass own = some m.cls) (ht : ∀ w ∈ lw_g, w.before args s = true)
    (hM : MX l y bytes maxL ret f lo D z (.ref b :: As) wc tc H.size v post w1) (hY : YV y bytes maxL ret n) (hlink : Cond.methodLink own index y ∈ lw_g)
    (hf : f + 1 ≤ R.frames) (hlo : 8 + (maxL + 11) + lo ≤ R.locals) (hP : va_P D classes ws H) (hK : va_K D classes tys s) (hSS : SS z A s s.heap) (hD : va_D A ws) (hS : va_S A s.heap H locs) (hA : ∀ q : Nat, s.heap.size ≤ q → A q)
    (isC isR isT : List Nat) (hC : isC.map (fun i => ws[i]?) = wc.map some) (hC2 : isC.filterMap (fun i => ws[i]?) = wc) (hnC : va_nd isC = true) (hR : isR.map (fun i => ws[i]?) = wr.map some) (hnR : va_nd isR = true) (hdis : ∀ i ∈ isR, i ∉ isC) (hT : isT.filterMap (fun i => tys[i]?) = tc)
    (q0 ci : Nat) (hc : classes[ci]? = some cn) (hcn : cn.1 = y.cls) (he : ws[q0]? = some (b, .inr (ci, fs)))
    (hl : lv_has ls nL lv) (hn : As.length = n) (hst : st0 = As.reverse ++ .ref b :: rest) (hW : (rest.map fun v => v.category).sum ≤ 8) (hcl : cells ≤ R.cells) (hsl : slots ≤ R.slots)
    (hdg : decode cc pc = .ok (.invokevirtual index, 3))
    (kk : ∀ (u : S) (H1 : Heap) (locs1 : List Loc), post u → va_P D classes (wr ++ w1 u) H1 → va_D A (wr ++ w1 u) → va_S A s.heap H1 locs1 → W p l e R s m args below meth c H1 locs1 cells slots Q (F0 m (pc + 3) ls ((v u).toList ++ rest))) : W p l e R s m args below meth c H locs cells slots Q (F0 m pc ls st0) := by
  obtain ⟨y1, y2, y3, y4, y5, y6, y7⟩ := hY
  have hFc := va_free (wc := wc) hD hS hA isC hC
  have hDc : va_D A wc := hD.sub isC hnC hC
  refine callX (va_runV (As := As) (rest := rest) (b := b) (C := y.cls) ⟨hx, hb, hml, hown, ht⟩ hM ⟨callB_of n ht (gd y1) rfl rfl rfl (ht _ y2) (ht _ hlink) ⟨y5, y6, y7⟩ ⟨hf, hlo⟩, ht _ y3, ht _ y4⟩ ⟨PU.calling, by rw [← hcn]; exact va_recv hK hP hc he, ?_⟩ rfl hn hl.1 hst (lv_room hW) hdg ⟨hcl, hsl⟩) hS hFc (fun u H1 locs1 hq hP1 hD1 hk1 hS1 => ?_)
  · exact fun U hU hWm => ⟨rfl, by rw [hU], by rw [hU]; exact hP.sub isC hC2, va_K.moved hWm.alike (hK.sub isT hT), hDc.weaken (fun _ _ _ _ => trivial), hSS.to hS hFc hU hWm⟩
  · obtain ⟨hP2, hD2⟩ := va_join (wr := wr) (w1 := w1 u) hP hD isC isR hC hR hnR hdis hk1 hFc hP1 hD1
    exact kk u H1 locs1 hq hP2 hD2 hS1
theorem eXv {S : Type} {v : S → Option Value} {post : S → Prop} {w1 : S → va_W} (u : S) (hx : p.tables.exec = Jvm.exec) (hb : c.code = cc) (hr : meth.sig.returnType = none) (hlocks : meth.locks = false) (hq : post u) (hv : v u = none) (hP : va_P D classes ws H) (hD : va_D A ws) (hS : va_S A s.heap H locs) (is : List Nat) (hi : is.map (fun i => ws[i]?) = (w1 u).map some) (hi2 : is.filterMap (fun i => ws[i]?) = w1 u) (hni : va_nd is = true) (hd : decode cc pc = .ok (.return_, 1)) : W p l e R s m args below meth c H locs 0 0 (MQ below (qcX v D post w1 A) args s 0 0 A) (F0 m pc ls []) :=
  W.vret hx hb hr (fun t ht _ => ⟨⟨u, by rw [hv], hq, by rw [ht]; exact hP.sub is hi2, hD.sub is hni hi⟩, hS.F ht⟩) hS.2.2 hd
theorem eXi {S : Type} {v : S → Option Value} {post : S → Prop} {w1 : S → va_W} {x : Int32} (u : S) (hx : p.tables.exec = Jvm.exec) (hb : c.code = cc) (hr : meth.sig.returnType = some .int) (hlocks : meth.locks = false) (hq : post u) (hv : v u = some (.int x)) (hP : va_P D classes ws H) (hD : va_D A ws) (hS : va_S A s.heap H locs) (is : List Nat) (hi : is.map (fun i => ws[i]?) = (w1 u).map some) (hi2 : is.filterMap (fun i => ws[i]?) = w1 u) (hni : va_nd is = true) (hd : decode cc pc = .ok (.ireturn, 1)) : W p l e R s m args below meth c H locs 0 0 (MQ below (qcX v D post w1 A) args s 0 0 A) (F0 m pc ls [.int x]) :=
  W.iret hx hb hr (fun t ht _ => ⟨⟨u, by rw [hv], hq, by rw [ht]; exact hP.sub is hi2, hD.sub is hni hi⟩, hS.F ht⟩) hS.2.2 hd
end Base5
theorem atZ_o {b : Nat → Nat} {n i : Nat} (h : n ≤ i) : atZ b n ((i : Nat) : Int) = -1 := by
  unfold atZ
  rw [if_neg (by omega)]
theorem fr_len {f : Nat} (h : f < 120) : (frL f).length ≤ 9 ∧ ∀ c ∈ frL f, c < 256 := by
  have q : ∀ f, f < 120 → (frL f).length ≤ 9 ∧ ∀ c ∈ frL f, c < 256 := by decide +kernel
  exact q f h
theorem mnu_c {v : Int} (h1 : -65536 ≤ v) (h2 : v ≤ 65536) : ∀ c ∈ mnu v, c < 256 := by
  intro c hc
  unfold mnu at hc
  simp only [List.mem_append] at hc
  have hu : v.natAbs ≤ 65536 := by omega
  rcases hc with hc | hc | hc | hc | hc | hc
  all_goals first
    | (split at hc
       · simp only [List.mem_cons, List.not_mem_nil, or_false] at hc
         omega
       · cases hc)
    | (simp only [List.mem_cons, List.not_mem_nil, or_false] at hc; omega)
theorem pr_len {f : Nat} {v : Int} (h : f < 120) (h1 : -65536 ≤ v) (h2 : v ≤ 65536) : (prL f v).length ≤ 15 ∧ ∀ c ∈ prL f v, c < 256 := by
  have a := fr_len h
  have b := mnu_len h1 h2
  have d := mnu_c h1 h2
  unfold prL
  split
  · refine ⟨by rw [List.length_append]; omega, fun c hc => ?_⟩
    rcases List.mem_append.mp hc with q | q
    · exact a.2 c q
    · exact d c q
  · rw [List.append_nil]
    exact ⟨by omega, a.2⟩
theorem da_len {u : Nat} (h : u < 256) : (daL u).length ≤ 12 ∧ ∀ c ∈ daL u, c < 256 := by
  have b := mnu_len (v := (u : Int)) (by omega) (by omega)
  have d := mnu_c (v := (u : Int)) (by omega) (by omega)
  unfold daL
  refine ⟨by rw [List.length_append]; show 6 + _ ≤ 12; omega, fun c hc => ?_⟩
  rcases List.mem_append.mp hc with q | q
  · simp only [List.mem_cons, List.not_mem_nil, or_false] at q
    omega
  · exact d c q
theorem getD_lt {l : List Nat} (h : ∀ c ∈ l, c < 256) (i : Nat) : l.getD i 0 < 256 := by
  rw [List.getD_eq_getElem?_getD]
  cases q : l[i]? with
  | none => simp
  | some c => exact h c (List.mem_of_getElem? q)
theorem ap_dr_len (L : txT) (l : List Nat) : (ap (dr L) l).2 = l.length := by
  rw [ap_len]
  show 0 + l.length = _
  omega
theorem ap_dr_c {L : txT} {l : List Nat} (h : ∀ c ∈ l, c < 256) : ∀ i, i < (ap (dr L) l).2 → (ap (dr L) l).1 i < 256 := by
  intro i hi
  rw [ap_dr_len] at hi
  have q := (ap_get l (dr L) i).2 hi
  have e : (dr L).2 + i = i := by show 0 + i = i; omega
  rw [e] at q
  rw [q]
  exact getD_lt h i
theorem ap1_c {L : txT} (h : ∀ i, i < L.2 → L.1 i < 256) : ∀ i, i < (ap1 L 10).2 → (ap1 L 10).1 i < 256 := by
  intro i hi
  have hi : i < L.2 + 1 := hi
  show updN L.1 L.2 10 i < 256
  unfold updN
  split
  · omega
  · exact h i (by omega)
theorem mBg_10 (t L : txT) (l : List Nat) (p : Nat) : mBg t (ap1 (ap (dr L) l) 10) p = mL t.1 t.2 p (l ++ [10]) := by
  have e : ap1 (ap (dr L) l) 10 = ap (dr L) (l ++ [10]) := by
    rw [ap_app]
    rfl
  rw [e, mBg_mL]
def encU (o : Option (Nat × Int)) : Int := match o with
  | none => -1
  | some w => (w.1 : Int) + 1024 * (w.2 + 200)
theorem und_D {t : Nat → Nat} {n p u : Nat} (h : unD t n p 256 0 = some u) : und t n p = some (300, (u : Int)) := by
  unfold und
  rw [h]
theorem und_F {t : Nat → Nat} {n p : Nat} (h : unD t n p 256 0 = none) : und t n p = unF t n p 120 0 := by
  unfold und
  rw [h]
theorem unF_y {t : Nat → Nat} {n p j f : Nat} {v : Int} (h : unO t n p f = some v) : unF t n p (j + 1) f = some (f, v) := by
  simp only [unF]
  rw [h]
theorem unF_n {t : Nat → Nat} {n p j f : Nat} (h : unO t n p f = none) : unF t n p (j + 1) f = unF t n p j (f + 1) := by
  simp only [unF]
  rw [h]
theorem unO_0 {t : Nat → Nat} {n p f : Nat} (h : lgO f = 0) : unO t n p f = none := by
  unfold unO
  rw [if_pos h]
theorem unO_1y {t : Nat → Nat} {n p f : Nat} (h : lgO f = 1) (h2 : mL t n p (frL f ++ [10]) = true) : unO t n p f = some 0 := by
  unfold unO
  rw [if_neg (by omega), if_pos h, if_pos h2]
theorem unO_1n {t : Nat → Nat} {n p f : Nat} (h : lgO f = 1) (h2 : mL t n p (frL f ++ [10]) = false) : unO t n p f = none := by
  unfold unO
  rw [if_neg (by omega), if_pos h, if_neg (by rw [h2]; decide)]
theorem unO_n {t : Nat → Nat} {n p f : Nat} (h : 1 < lgO f) (h2 : mL t n p (frL f) = false) : unO t n p f = none := by
  unfold unO
  rw [if_neg (by omega), if_neg (by omega), if_neg (by rw [h2]; decide)]
theorem unO_v {t : Nat → Nat} {n p f : Nat} (h : 1 < lgO f) (h2 : mL t n p (frL f) = true) : unO t n p f = unV t n p f (moV f - leV f + 1).toNat (leV f) := by
  unfold unO
  rw [if_neg (by omega), if_neg (by omega), if_pos h2]
theorem mll_D (u : Nat) : mll 300 (u : Int) = (daL u).length := by
  unfold mll
  rw [if_pos rfl, Int.toNat_natCast]
theorem mll_P {f : Nat} {v : Int} (h : f < 120) : mll f v = (prL f v).length := by
  unfold mll
  rw [if_neg (by omega)]
theorem prL_1 {f : Nat} {v : Int} (h : lgO f = 1) : prL f v = frL f := by
  unfold prL
  rw [if_neg (by omega), List.append_nil]
theorem leV_in (f : Nat) : -128 ≤ leV f ∧ leV f ≤ 0 ∧ 127 ≤ moV f ∧ moV f ≤ 65535 := by
  unfold leV moV
  refine ⟨?_, ?_, ?_, ?_⟩ <;> (repeat' split) <;> omega
