def ab1 (k g : Nat) (s : abT) : abT := if k = 13 then s else adB s (nI (kF k + g))
def ab2 (k : Nat) (v : Int) (s : abT) : abT := if kN k = 3 then adB s (iI v >>> ((8 : Int32) &&& 31)) else s
def ab3 (k : Nat) (v : Int) (s : abT) : abT := if kN k = 0 then s else adB s (iI v &&& 255)
theorem adBs_e (k g : Nat) (v : Int) (s : abT) : adBs k g v s = ab3 k v (ab2 k v (ab1 k g s)) := rfl
theorem adBs_len (k g : Nat) (v : Int) (s : abT) : (adBs k g v s).2 ≤ s.2 + 3 := by
  have h : ∀ (s : abT) (x : Int32), (adB s x).2 = s.2 + 1 := fun _ _ => rfl
  rw [adBs_e]
  have h1 : (ab1 k g s).2 ≤ s.2 + 1 := by
    unfold ab1
    split
    · omega
    · rw [h]; omega
  have h2 : (ab2 k v (ab1 k g s)).2 ≤ (ab1 k g s).2 + 1 := by
    unfold ab2
    split
    · rw [h]; omega
    · omega
  have h3 : (ab3 k v (ab2 k v (ab1 k g s))).2 ≤ (ab2 k v (ab1 k g s)).2 + 1 := by
    unfold ab3
    split
    · omega
    · rw [h]; omega
  omega
theorem rdRF_in {t : Nat → Nat} {n : Nat} : ∀ (j k : Nat) (r : rdT) (g : Nat), r.1 ≤ n → g < 4 ^ k → k + j ≤ 2 → (rdRF t n j k r g).1.1 ≤ n ∧ (rdRF t n j k r g).2 < 16 := by
  intro j
  induction j with
  | zero =>
    intro k r g h1 h2 h3
    refine ⟨h1, ?_⟩
    have : (4 : Nat) ^ k ≤ 4 ^ 2 := Nat.pow_le_pow_right (by omega) (by omega)
    show g < 16
    omega
  | succ j ih =>
    intro k r g h1 h2 h3
    simp only [rdRF]
    have hc := tkC_le (t := t) (k := k) h1
    have hr := tkR_le (t := t) hc
    exact ih (k + 1) _ _ hr.1 (by rw [Nat.pow_succ]; omega) (by omega)
theorem rdR_in {t : Nat → Nat} {n k : Nat} {r : rdT} (h : r.1 ≤ n) : (rdR t n k r).1.1 ≤ n ∧ (rdR t n k r).2 < 16 := rdRF_in _ 0 r 0 h (by decide) (by have := kR_le k; omega)
theorem rdN_le {t : Nat → Nat} {n k : Nat} {r : rdT} (h : r.1 ≤ n) : (rdN2 t n k r).1 ≤ n := by
  unfold rdN2
  split
  · exact h
  · exact tkN_le (tkC_le h)
theorem rdL_n {t : Nat → Nat} {n : Nat} {r : rdT} {a : abT} (e : tkK1 t n r = none) : rdLr t n r = tkK2 t n r ∧ rdLs t n r a = a := by
  unfold rdLr rdLs
  rw [e]
  exact ⟨rfl, rfl⟩
theorem rdL_y {t : Nat → Nat} {n k : Nat} {r : rdT} {a : abT} (e : tkK1 t n r = some k) : rdLr t n r = tk t n 10 (rdN2 t n k (rdR t n k (tkK2 t n r)).1) ∧ rdLs t n r a = adBs k (rdR t n k (tkK2 t n r)).2 (rdN1 t n k (rdR t n k (tkK2 t n r)).1) a := by
  unfold rdLr rdLs
  rw [e]
  exact ⟨rfl, rfl⟩
theorem rdLr_le {t : Nat → Nat} {n : Nat} {r : rdT} (h : r.1 ≤ n) : (rdLr t n r).1 ≤ n := by
  cases e : tkK1 t n r with
  | none => rw [(rdL_n (a := (fun _ => 0, 0)) e).1]; exact tkK_le h
  | some k => rw [(rdL_y (a := (fun _ => 0, 0)) e).1]; exact tk_le (rdN_le (rdR_in (tkK_le h)).1)
theorem rdLs_le {t : Nat → Nat} {n : Nat} {r : rdT} {a : abT} : (rdLs t n r a).2 ≤ a.2 + 3 := by
  cases e : tkK1 t n r with
  | none => rw [(rdL_n (a := a) e).2]; omega
  | some k => rw [(rdL_y (a := a) e).2]; exact adBs_len _ _ _ _
theorem min_160 {k : Nat} (h : k ≤ 160) : (if nI 160 < nI k then nI 160 else nI k) = nI k := if_neg (nI_nlt h (by decide))
theorem min_160b {k : Nat} (h : k ≤ 160) : (if nI k < nI 160 then nI k else nI 160) = nI k := by
  by_cases q : k = 160
  · subst q
    rw [if_neg (nI_nlt (Nat.le_refl _) (by decide))]
  · rw [if_pos (nI_lt (by omega) (by decide))]
section CpI
variable {p : Program} {l : Launch} {e : Env} {R : Room} {s : State} {m : MethodId} {args : Array Value} {below : List Frame} {meth : Method} {c : Code} {H : Heap} {locs : List Loc} {cells slots : Nat} {Q : State → Prop} {pc : Nat} {ls : Array Slot} {rest : List Value} {cc : ByteArray} {D : va_G} {tys : tyL} {ws w1 : va_W} {A : Nat → Prop} {nL : Nat} {lv : List (Nat × Value)}
theorem cpI {own : String} {index q0 q1 t0 t1 a a0 k : Nat} {c0 c1 : ClassId} {f g : Nat → Int32} (hx : p.tables.exec = Jvm.exec) (hb : c.code = cc) (hml : c.maxLocals = nL) (hl : lv_has ls nL lv) (hown : s.vm.findClass own = some m.cls) (ht : ∀ w ∈ lw_g, w.before args s = true) (k1 : Cond.methodLink own index arraycopyName ∈ lw_g) (k2 : Cond.native arraycopyName ∈ lw_g) (k3 : Cond.static arraycopyName ∈ lw_g) (k4 : Cond.initialized "java/lang/System" ∈ lw_g)
    (hK : va_K D classes tys s) (hP : va_P D classes ws H) (hD : va_D A ws) (hS : va_S A s.heap H locs) (ha0 : ws[q0]? = some (a0, .inl (c0, 160, .inl f))) (ha1 : ws[q1]? = some (a, .inl (c1, 160, .inl g))) (ht0 : tys[t0]? = some (c0, .int)) (ht1 : tys[t1]? = some (c1, .int)) (hk : k ≤ 160)
    (hframes : 1 ≤ R.frames) (hlocals : (rest.map fun v => v.category).sum + (nativeFrameWords "java/lang/System" "arraycopy" 5 + 11) ≤ R.locals) (hdg : decode cc pc = .ok (.invokestatic index, 3)) (hw : ws.set q1 (a, .inl (c1, 160, .inl (va_cpy f g 0 0 k))) = w1)
    (kk : ∀ (H1 : Heap) (locs1 : List Loc), va_P D classes w1 H1 → va_D A w1 → va_S A s.heap H1 locs1 → W p l e R s m args below meth c H1 locs1 cells slots Q (F0 m (pc + 3) ls rest)) : W p l e R s m args below meth c H locs cells slots Q (F0 m pc ls (.int (nI k) :: .int (nI 0) :: .ref a :: .int (nI 0) :: .ref a0 :: rest)) := by
  subst hw
  have e0 : (nI 0).toNatClampNeg = 0 := by decide
  have ek : (nI k).toNatClampNeg = k := clp (by omega)
  refine va_copyi hx hb (hml.trans hl.1.symm) hown (ht _ k1) (ht _ k2) (ht _ k3) (ht _ k4) hK hP hD hS q0 q1 t0 t1 ha0 ha1 ht0 ht1 rfl (by decide) (by decide) (nI_pos (by omega)) (by rw [e0, ek]; omega) (by rw [e0, ek]; omega) (fun i _ => rfl) hframes hlocals hdg (fun H1 locs1 h1 h2 h3 => ?_)
  rw [e0, ek] at h1 h2
  exact kk H1 locs1 h1 h2 h3
end CpI
theorem loN_in (m : Nat) : -65536 ≤ loN m ∧ loN m ≤ 65536 ∧ -65536 ≤ hiN m ∧ hiN m ≤ 65536 := by
  unfold loN hiN
  refine ⟨?_, ?_, ?_, ?_⟩ <;> (repeat' split) <;> omega
