/-! Reading a line: what the class takes is a line that it would write, and of those it finds each. -/
theorem mL_nil (t : Nat → Nat) (n p : Nat) : mL t n p [] = true := rfl
theorem mL_cons (t : Nat → Nat) (n p c : Nat) (l : List Nat) : mL t n p (c :: l) = true ↔ (atZ t n (p : Int) = (c : Int) ∧ mL t n (p + 1) l = true) := by
  simp only [mL]
  by_cases h : atZ t n (p : Int) = (c : Int)
  · rw [if_pos h]
    exact ⟨fun q => ⟨h, q⟩, fun q => q.2⟩
  · rw [if_neg h]
    exact ⟨fun q => (by cases q), fun q => absurd q.1 h⟩
theorem mL_app (t : Nat → Nat) (n : Nat) : ∀ (l1 l2 : List Nat) (p : Nat), mL t n p (l1 ++ l2) = true ↔ (mL t n p l1 = true ∧ mL t n (p + l1.length) l2 = true) := by
  intro l1
  induction l1 with
  | nil =>
    intro l2 p
    exact ⟨fun h => ⟨rfl, h⟩, fun h => h.2⟩
  | cons c l ih =>
    intro l2 p
    rw [List.cons_append, mL_cons, mL_cons, ih, and_assoc]
    have e : p + 1 + l.length = p + (c :: l).length := by simp; omega
    rw [e]
def clash : List Nat → List Nat → Bool
  | [], _ => false
  | _ :: _, [] => false
  | a :: x, b :: y => if a = b then clash x y else true
theorem clash_no {t : Nat → Nat} {n : Nat} : ∀ (l1 l2 : List Nat) (p : Nat), mL t n p l1 = true → mL t n p l2 = true → clash l1 l2 = false := by
  intro l1
  induction l1 with
  | nil => intro l2 p _ _; rfl
  | cons a x ih =>
    intro l2 p h1 h2
    cases l2 with
    | nil => rfl
    | cons b y =>
      rw [mL_cons] at h1 h2
      have e : a = b := by
        have := h1.1.symm.trans h2.1
        omega
      simp only [clash]
      rw [if_pos e]
      exact ih y (p + 1) h1.2 h2.2
theorem op_clash : ∀ j, j < 14 → ∀ k, k < 14 → j ≠ k → clash (opL j) (opL k) = true := by decide +kernel
theorem tkKF_some {t : Nat → Nat} {n p : Nat} : ∀ (j k k' : Nat), tkKF t n p j k = some k' → k' < k + j ∧ mL t n p (opL k') = true := by
  intro j
  induction j with
  | zero => intro k k' h; cases h
  | succ j ih =>
    intro k k' h
    simp only [tkKF] at h
    by_cases q : mL t n p (opL k) = true
    · rw [if_pos q] at h
      cases h
      exact ⟨by omega, q⟩
    · rw [if_neg q] at h
      obtain ⟨a, b⟩ := ih (k + 1) k' h
      exact ⟨by omega, b⟩
theorem tkKF_find {t : Nat → Nat} {n p k0 : Nat} (h0 : k0 < 14) (h : mL t n p (opL k0) = true) : ∀ (j k : Nat), k + j = 14 → k ≤ k0 → tkKF t n p j k = some k0 := by
  intro j
  induction j with
  | zero => intro k h1 h2; omega
  | succ j ih =>
    intro k h1 h2
    simp only [tkKF]
    by_cases q : mL t n p (opL k) = true
    · rw [if_pos q]
      by_cases e : k = k0
      · rw [e]
      · have a := op_clash k (by omega) k0 h0 e
        rw [clash_no _ _ p q h] at a
        cases a
    · rw [if_neg q]
      by_cases e : k = k0
      · rw [e] at q
        exact absurd h q
      · exact ih (k + 1) (by omega) (by omega)
theorem tk_true {t : Nat → Nat} {n c : Nat} {r : rdT} (h : (tk t n c r).2 = true) : r.2 = true ∧ mL t n r.1 [c] = true ∧ (tk t n c r).1 = r.1 + 1 := by
  unfold tk at h ⊢
  by_cases q : atZ t n (r.1 : Int) = (c : Int)
  · rw [if_pos q] at h ⊢
    exact ⟨h, (mL_cons _ _ _ _ _).mpr ⟨q, rfl⟩, rfl⟩
  · rw [if_neg q] at h
    cases h
theorem tk_of {t : Nat → Nat} {n c p : Nat} (h : mL t n p [c] = true) : tk t n c (p, true) = (p + 1, true) := if_pos ((mL_cons _ _ _ _ _).mp h).1
theorem tkC_true {t : Nat → Nat} {n k : Nat} {r : rdT} (h : (tkC t n k r).2 = true) : r.2 = true ∧ mL t n r.1 (cmL k) = true ∧ (tkC t n k r).1 = r.1 + (cmL k).length := by
  unfold tkC cmL at *
  by_cases q : 0 < k
  · rw [if_pos q] at h ⊢
    rw [if_pos q]
    exact tk_true h
  · rw [if_neg q] at h ⊢
    rw [if_neg q]
    exact ⟨h, rfl, rfl⟩
theorem tkC_of {t : Nat → Nat} {n k p : Nat} (h : mL t n p (cmL k) = true) : tkC t n k (p, true) = (p + (cmL k).length, true) := by
  unfold tkC cmL at *
  by_cases q : 0 < k
  · rw [if_pos q] at h ⊢
    rw [if_pos q]
    exact tk_of h
  · rw [if_neg q, if_neg q]
    rfl
theorem tkR_true {t : Nat → Nat} {n : Nat} {r : rdT} (h : (tkR2 t n r).2 = true) : r.2 = true ∧ tkR1 t n r < 4 ∧ mL t n r.1 [114, 48 + tkR1 t n r] = true ∧ (tkR2 t n r).1 = r.1 + 2 := by
  unfold tkR2 at h ⊢
  unfold tkR1
  by_cases q : atZ t n ((tk t n 114 r).1 : Int) - 48 < 0 ∨ 3 < atZ t n ((tk t n 114 r).1 : Int) - 48
  · rw [if_pos q] at h
    cases h
  · rw [if_neg q] at h ⊢
    rw [if_neg q]
    obtain ⟨a1, a2, a3⟩ := tk_true (c := 114) h
    rw [a3] at q ⊢
    refine ⟨a1, by omega, ?_, by omega⟩
    rw [mL_cons] at a2 ⊢
    refine ⟨a2.1, ?_⟩
    rw [mL_cons]
    exact ⟨by omega, rfl⟩
theorem tkR_of {t : Nat → Nat} {n p g : Nat} (hg : g < 4) (h : mL t n p [114, 48 + g] = true) : tkR1 t n (p, true) = g ∧ tkR2 t n (p, true) = (p + 2, true) := by
  rw [mL_cons, mL_cons] at h
  have e : tk t n 114 (p, true) = (p + 1, true) := if_pos h.1
  have e2 : atZ t n (((p + 1, true) : rdT).1 : Int) = ((48 + g : Nat) : Int) := h.2.1
  unfold tkR1 tkR2
  rw [e, e2, if_neg (by omega), if_neg (by omega)]
  exact ⟨by omega, rfl⟩
theorem kR_cases (k : Nat) (hk : k < 14) : kR k = 0 ∨ kR k = 1 ∨ kR k = 2 := by
  have : ∀ k, k < 14 → kR k = 0 ∨ kR k = 1 ∨ kR k = 2 := by decide +kernel
  exact this k hk
theorem rdR_true {t : Nat → Nat} {n k : Nat} {r : rdT} (hk : k < 14) (h : (rdR t n k r).1.2 = true) : r.2 = true ∧ (rdR t n k r).2 < kC k ∧ mL t n r.1 (rgL k (rdR t n k r).2) = true ∧ (rdR t n k r).1.1 = r.1 + (rgL k (rdR t n k r).2).length := by
  unfold rdR rgL kC at *
  rcases kR_cases k hk with e | e | e
  · rw [e] at h ⊢
    exact ⟨h, by show 0 < 4 ^ 0; decide, rfl, rfl⟩
  · rw [e] at h ⊢
    simp only [rdRF] at h ⊢
    have e0 : tkC t n 0 r = r := rfl
    rw [e0] at h ⊢
    obtain ⟨a1, a2, a3, a4⟩ := tkR_true h
    refine ⟨a1, by omega, ?_, ?_⟩
    · show mL t n r.1 [114, 48 + (4 * 0 + tkR1 t n r) / 4 ^ 0 % 4] = true
      have e1 : (4 * 0 + tkR1 t n r) / 4 ^ 0 % 4 = tkR1 t n r := by simp; omega
      rw [e1]
      exact a3
    · rw [a4]
      rfl
  · rw [e] at h ⊢
    simp only [rdRF] at h ⊢
    have e0 : tkC t n 0 r = r := rfl
    rw [e0] at h ⊢
    obtain ⟨a1, a2, a3, a4⟩ := tkR_true h
    obtain ⟨b1, b2, b3⟩ := tkC_true a1
    obtain ⟨c1, c2, c3, c4⟩ := tkR_true b1
    generalize hg2 : tkR1 t n (tkC t n (0 + 1) (tkR2 t n r)) = g2 at *
    generalize hg1 : tkR1 t n r = g1 at *
    refine ⟨c1, by show _ < 16; omega, ?_, ?_⟩
    · show mL t n r.1 ([114, 48 + (4 * (4 * 0 + g1) + g2) / 4 ^ 1 % 4] ++ ([44] ++ [114, 48 + (4 * (4 * 0 + g1) + g2) / 4 ^ 0 % 4])) = true
      have e1 : (4 * (4 * 0 + g1) + g2) / 4 ^ 1 % 4 = g1 := by simp; omega
      have e2 : (4 * (4 * 0 + g1) + g2) / 4 ^ 0 % 4 = g2 := by simp; omega
      rw [e1, e2, mL_app, mL_app]
      refine ⟨c3, ?_, ?_⟩
      · rw [c4] at b2
        exact b2
      · rw [b3, c4] at a3
        exact a3
    · rw [a4, b3, c4]
      rfl
theorem rdR_of {t : Nat → Nat} {n k p g : Nat} (hk : k < 14) (hg : g < kC k) (h : mL t n p (rgL k g) = true) : rdR t n k (p, true) = ((p + (rgL k g).length, true), g) := by
  unfold rdR rgL kC at *
  rcases kR_cases k hk with e | e | e
  · rw [e] at hg ⊢
    have : g = 0 := by
      have : g < 4 ^ 0 := hg
      simp at this
      exact this
    subst this
    rfl
  · rw [e] at hg h ⊢
    have hg4 : g < 4 := hg
    have h' : mL t n p [114, 48 + g / 4 ^ 0 % 4] = true := h
    have e1 : g / 4 ^ 0 % 4 = g := by simp; omega
    rw [e1] at h'
    obtain ⟨a1, a2⟩ := tkR_of hg4 h'
    simp only [rdRF]
    have e0 : tkC t n 0 (p, true) = (p, true) := rfl
    rw [e0, a1, a2]
    simp only [Nat.mul_zero, Nat.zero_add]
    rfl
  · rw [e] at hg h ⊢
    have hg4 : g < 16 := hg
    have h' : mL t n p ([114, 48 + g / 4 ^ 1 % 4] ++ ([44] ++ [114, 48 + g / 4 ^ 0 % 4])) = true := h
    have e1 : g / 4 ^ 1 % 4 = g / 4 := by simp; omega
    have e2 : g / 4 ^ 0 % 4 = g % 4 := by simp
    rw [e1, e2, mL_app, mL_app] at h'
    obtain ⟨a1, a2⟩ := tkR_of (by omega) h'.1
    obtain ⟨c1, c2⟩ : tkR1 t n (p + 2 + 1, true) = g % 4 ∧ tkR2 t n (p + 2 + 1, true) = (p + 2 + 1 + 2, true) := tkR_of (by omega) h'.2.2
    simp only [rdRF]
    have e0 : tkC t n 0 (p, true) = (p, true) := rfl
    have e3 : tkC t n (0 + 1) (p + 2, true) = (p + 2 + 1, true) := tkC_of (k := 1) h'.2.1
    rw [e0, a1, a2, e3, c1, c2]
    have e4 : 4 * (4 * 0 + g / 4) + g % 4 = g := by omega
    rw [e4]
    rfl
/-! numbers -/
def vl (D : List Nat) (acc : Nat) : Nat := D.foldl (fun a c => 10 * a + c - 48) acc
def dig (D : List Nat) : Prop := ∀ c ∈ D, 48 ≤ c ∧ c ≤ 57
theorem tkAF_of {t : Nat → Nat} {n : Nat} : ∀ (D : List Nat) (j p acc : Nat), dig D → mL t n p D = true → D.length ≤ j → (D.length = j ∨ ¬ (48 ≤ atZ t n ((p + D.length : Nat) : Int) ∧ atZ t n ((p + D.length : Nat) : Int) ≤ 57)) → tkAF t n j p acc = (p + D.length, vl D acc) := by
  intro D
  induction D with
  | nil =>
    intro j p acc _ _ _ h
    cases j with
    | zero => rfl
    | succ j =>
      simp only [tkAF]
      rcases h with h | h
      · cases h
      · have h : ¬ (48 ≤ atZ t n (p : Int) ∧ atZ t n (p : Int) ≤ 57) := h
        rw [if_neg h]
        rfl
  | cons c D ih =>
    intro j p acc hd hm hl h
    rw [mL_cons] at hm
    have hc := hd c List.mem_cons_self
    simp only [List.length_cons] at hl h ⊢
    cases j with
    | zero => omega
    | succ j =>
      simp only [tkAF]
      rw [if_pos (by omega), ih j (p + 1) _ (fun x hx => hd x (List.mem_cons_of_mem _ hx)) hm.2 (by omega) (by
        have e : p + 1 + D.length = p + (D.length + 1) := by omega
        rw [e]
        rcases h with h | h
        · exact Or.inl (by omega)
        · exact Or.inr h)]
      have e : (atZ t n (p : Int)).toNat = c := by omega
      rw [e]
      have e2 : p + 1 + D.length = p + (D.length + 1) := by omega
      rw [e2]
      rfl
theorem tkAF_is {t : Nat → Nat} {n : Nat} : ∀ (j p acc : Nat), ∃ D : List Nat, dig D ∧ D.length ≤ j ∧ mL t n p D = true ∧ tkAF t n j p acc = (p + D.length, vl D acc) := by
  intro j
  induction j with
  | zero => intro p acc; exact ⟨[], (fun _ h => by cases h), Nat.le_refl _, rfl, rfl⟩
  | succ j ih =>
    intro p acc
    simp only [tkAF]
    by_cases q : 48 ≤ atZ t n (p : Int) ∧ atZ t n (p : Int) ≤ 57
    · rw [if_pos q]
      obtain ⟨D, a1, a2, a3, a4⟩ := ih (p + 1) (10 * acc + (atZ t n (p : Int)).toNat - 48)
      refine ⟨(atZ t n (p : Int)).toNat :: D, ?_, by simp; omega, (mL_cons _ _ _ _ _).mpr ⟨by omega, a3⟩, ?_⟩
      · intro c hc
        rcases List.mem_cons.mp hc with rfl | hc
        · omega
        · exact a1 c hc
      · rw [a4]
        have e2 : p + 1 + D.length = p + ((atZ t n (p : Int)).toNat :: D).length := by simp; omega
        rw [e2]
        rfl
    · rw [if_neg q]
      exact ⟨[], (fun _ h => by cases h), Nat.zero_le _, rfl, rfl⟩
theorem nuF_5 (a : Nat) : nuF a 5 = dgL a 10000 ++ (dgL a 1000 ++ (dgL a 100 ++ (dgL a 10 ++ (dgL a 1 ++ [])))) := rfl
theorem dgL_y {a u : Nat} (h : u ≤ a ∨ u = 1) : dgL a u = [48 + a / u % 10] := if_pos h
theorem dgL_n {a u : Nat} (h : ¬ (u ≤ a ∨ u = 1)) : dgL a u = [] := if_neg h
/-- the digits of a number: one, two .. five -/
theorem nuF_d {a : Nat} (ha : a < 100000) : (a < 10 ∧ nuF a 5 = [48 + a]) ∨ (10 ≤ a ∧ a < 100 ∧ nuF a 5 = [48 + a / 10, 48 + a % 10]) ∨ (100 ≤ a ∧ a < 1000 ∧ nuF a 5 = [48 + a / 100, 48 + a / 10 % 10, 48 + a % 10]) ∨ (1000 ≤ a ∧ a < 10000 ∧ nuF a 5 = [48 + a / 1000, 48 + a / 100 % 10, 48 + a / 10 % 10, 48 + a % 10]) ∨ (10000 ≤ a ∧ nuF a 5 = [48 + a / 10000, 48 + a / 1000 % 10, 48 + a / 100 % 10, 48 + a / 10 % 10, 48 + a % 10]) := by
  rw [nuF_5]
  have e1 : a / 1 % 10 = a % 10 := by omega
  by_cases h1 : a < 10
  · refine Or.inl ⟨h1, ?_⟩
    rw [dgL_n (by omega), dgL_n (by omega), dgL_n (by omega), dgL_n (by omega), dgL_y (Or.inr rfl), e1, show a % 10 = a by omega]
    rfl
  · by_cases h2 : a < 100
    · refine Or.inr (Or.inl ⟨by omega, h2, ?_⟩)
      rw [dgL_n (by omega), dgL_n (by omega), dgL_n (by omega), dgL_y (Or.inl (by omega)), dgL_y (Or.inr rfl), e1, show a / 10 % 10 = a / 10 by omega]
      rfl
    · by_cases h3 : a < 1000
      · refine Or.inr (Or.inr (Or.inl ⟨by omega, h3, ?_⟩))
        rw [dgL_n (by omega), dgL_n (by omega), dgL_y (Or.inl (by omega)), dgL_y (Or.inl (by omega)), dgL_y (Or.inr rfl), e1, show a / 100 % 10 = a / 100 by omega]
        rfl
      · by_cases h4 : a < 10000
        · refine Or.inr (Or.inr (Or.inr (Or.inl ⟨by omega, h4, ?_⟩)))
          rw [dgL_n (by omega), dgL_y (Or.inl (by omega)), dgL_y (Or.inl (by omega)), dgL_y (Or.inl (by omega)), dgL_y (Or.inr rfl), e1, show a / 1000 % 10 = a / 1000 by omega]
          rfl
        · refine Or.inr (Or.inr (Or.inr (Or.inr ⟨by omega, ?_⟩)))
          rw [dgL_y (Or.inl (by omega)), dgL_y (Or.inl (by omega)), dgL_y (Or.inl (by omega)), dgL_y (Or.inl (by omega)), dgL_y (Or.inr rfl), e1, show a / 10000 % 10 = a / 10000 by omega]
          rfl
theorem nuF_ok {a : Nat} (ha : a < 100000) : dig (nuF a 5) ∧ vl (nuF a 5) 0 = a ∧ 1 ≤ (nuF a 5).length ∧ (nuF a 5).length ≤ 5 := by
  rcases nuF_d ha with ⟨h, e⟩ | ⟨h, h', e⟩ | ⟨h, h', e⟩ | ⟨h, h', e⟩ | ⟨h, e⟩ <;> rw [e] <;> refine ⟨?_, ?_, by simp, by simp⟩
  all_goals first | (intro c hc; simp only [List.mem_cons, List.not_mem_nil, or_false] at hc; omega) | (simp only [vl, List.foldl_cons, List.foldl_nil]; omega)
/-- digits without a first 0 (but 0 itself) are the number's own -/
theorem nuF_of {D : List Nat} (hd : dig D) (h1 : 1 ≤ D.length) (h5 : D.length ≤ 5) (h0 : D.length = 1 ∨ D.head? ≠ some 48) : nuF (vl D 0) 5 = D ∧ vl D 0 < 100000 := by
  match D, hd, h1, h5, h0 with
  | [x], hd, _, _, _ =>
    have hx := hd x (by simp)
    have e : vl [x] 0 = x - 48 := by simp [vl]
    rw [e]
    rcases nuF_d (a := x - 48) (by omega) with ⟨h, e⟩ | ⟨h, h', e⟩ | ⟨h, h', e⟩ | ⟨h, h', e⟩ | ⟨h, e⟩ <;> first | omega | skip
    rw [e]
    exact ⟨by congr 1; omega, by omega⟩
  | [x, y], hd, _, _, h0 =>
    have hx := hd x (by simp)
    have hy := hd y (by simp)
    have hx0 : x ≠ 48 := by
      rcases h0 with h0 | h0
      · simp at h0
      · simpa using h0
    have e : vl [x, y] 0 = 10 * (x - 48) + (y - 48) := by simp [vl]; omega
    rw [e]
    generalize hv : 10 * (x - 48) + (y - 48) = v
    rcases nuF_d (a := v) (by omega) with ⟨h, e⟩ | ⟨h, h', e⟩ | ⟨h, h', e⟩ | ⟨h, h', e⟩ | ⟨h, e⟩ <;> first | omega | skip
    rw [e, show 48 + v / 10 = x by omega, show 48 + v % 10 = y by omega]
    exact ⟨rfl, by omega⟩
  | [x, y, z], hd, _, _, h0 =>
    have hx := hd x (by simp)
    have hy := hd y (by simp)
    have hz := hd z (by simp)
    have hx0 : x ≠ 48 := by
      rcases h0 with h0 | h0
      · simp at h0
      · simpa using h0
    have e : vl [x, y, z] 0 = 100 * (x - 48) + 10 * (y - 48) + (z - 48) := by simp [vl]; omega
    rw [e]
    generalize hv : 100 * (x - 48) + 10 * (y - 48) + (z - 48) = v
    rcases nuF_d (a := v) (by omega) with ⟨h, e⟩ | ⟨h, h', e⟩ | ⟨h, h', e⟩ | ⟨h, h', e⟩ | ⟨h, e⟩ <;> first | omega | skip
    rw [e, show 48 + v / 100 = x by omega, show 48 + v / 10 % 10 = y by omega, show 48 + v % 10 = z by omega]
    exact ⟨rfl, by omega⟩
  | [x, y, z, w], hd, _, _, h0 =>
    have hx := hd x (by simp)
    have hy := hd y (by simp)
    have hz := hd z (by simp)
    have hw := hd w (by simp)
    have hx0 : x ≠ 48 := by
      rcases h0 with h0 | h0
      · simp at h0
      · simpa using h0
    have e : vl [x, y, z, w] 0 = 1000 * (x - 48) + 100 * (y - 48) + 10 * (z - 48) + (w - 48) := by simp [vl]; omega
    rw [e]
    generalize hv : 1000 * (x - 48) + 100 * (y - 48) + 10 * (z - 48) + (w - 48) = v
    rcases nuF_d (a := v) (by omega) with ⟨h, e⟩ | ⟨h, h', e⟩ | ⟨h, h', e⟩ | ⟨h, h', e⟩ | ⟨h, e⟩ <;> first | omega | skip
    rw [e, show 48 + v / 1000 = x by omega, show 48 + v / 100 % 10 = y by omega, show 48 + v / 10 % 10 = z by omega, show 48 + v % 10 = w by omega]
    exact ⟨rfl, by omega⟩
  | [x, y, z, w, u], hd, _, _, h0 =>
    have hx := hd x (by simp)
    have hy := hd y (by simp)
    have hz := hd z (by simp)
    have hw := hd w (by simp)
    have hu := hd u (by simp)
    have hx0 : x ≠ 48 := by
      rcases h0 with h0 | h0
      · simp at h0
      · simpa using h0
    have e : vl [x, y, z, w, u] 0 = 10000 * (x - 48) + 1000 * (y - 48) + 100 * (z - 48) + 10 * (w - 48) + (u - 48) := by simp [vl]; omega
    rw [e]
    generalize hv : 10000 * (x - 48) + 1000 * (y - 48) + 100 * (z - 48) + 10 * (w - 48) + (u - 48) = v
    rcases nuF_d (a := v) (by omega) with ⟨h, e⟩ | ⟨h, h', e⟩ | ⟨h, h', e⟩ | ⟨h, h', e⟩ | ⟨h, e⟩ <;> first | omega | skip
    rw [e, show 48 + v / 10000 = x by omega, show 48 + v / 1000 % 10 = y by omega, show 48 + v / 100 % 10 = z by omega, show 48 + v / 10 % 10 = w by omega, show 48 + v % 10 = u by omega]
    exact ⟨rfl, by omega⟩
theorem nuF_h {a : Nat} (ha : a < 100000) (h : 1 < (nuF a 5).length) : ∃ c l, nuF a 5 = c :: l ∧ c ≠ 48 := by
  rcases nuF_d ha with ⟨q, e⟩ | ⟨q, q', e⟩ | ⟨q, q', e⟩ | ⟨q, q', e⟩ | ⟨q, e⟩
  · rw [e] at h
    simp at h
  · exact ⟨_, _, e, by omega⟩
  · exact ⟨_, _, e, by omega⟩
  · exact ⟨_, _, e, by omega⟩
  · exact ⟨_, _, e, by omega⟩
theorem tkA_true {t : Nat → Nat} {n : Nat} {r : rdT} (h : (tkA2 t n r).2 = true) : r.2 = true ∧ tkA1 t n r < 100000 ∧ mL t n r.1 (nuF (tkA1 t n r) 5) = true ∧ (tkA2 t n r).1 = r.1 + (nuF (tkA1 t n r) 5).length := by
  obtain ⟨D, d1, d2, d3, d4⟩ := tkAF_is (t := t) (n := n) 5 r.1 0
  unfold tkA2 at h ⊢
  unfold tkA1
  rw [d4] at h ⊢
  simp only at h ⊢
  by_cases q : r.1 + D.length - r.1 = 0 ∨ (1 < r.1 + D.length - r.1 ∧ atZ t n (r.1 : Int) = 48)
  · rw [if_pos q] at h
    cases h
  · rw [if_neg q] at h
    have hl : 1 ≤ D.length := by omega
    obtain ⟨e1, e2⟩ := nuF_of d1 hl d2 (by
      by_cases w : D.length = 1
      · exact Or.inl w
      · refine Or.inr (fun z => q (Or.inr ⟨by omega, ?_⟩))
        cases D with
        | nil => cases z
        | cons c D =>
          simp only [List.head?_cons, Option.some.injEq] at z
          subst z
          exact ((mL_cons _ _ _ _ _).mp d3).1)
    rw [e1]
    exact ⟨h, e2, d3, rfl⟩
theorem tkA_of {t : Nat → Nat} {n p a : Nat} (ha : a < 100000) (h : mL t n p (nuF a 5) = true) (hx : ¬ (48 ≤ atZ t n ((p + (nuF a 5).length : Nat) : Int) ∧ atZ t n ((p + (nuF a 5).length : Nat) : Int) ≤ 57)) : tkA1 t n (p, true) = a ∧ tkA2 t n (p, true) = (p + (nuF a 5).length, true) := by
  obtain ⟨o1, o2, o3, o4⟩ := nuF_ok ha
  have e := tkAF_of (nuF a 5) 5 p 0 o1 h o4 (Or.inr hx)
  unfold tkA1 tkA2
  simp only
  rw [e]
  simp only
  refine ⟨o2, ?_⟩
  rw [if_neg]
  rintro (z | ⟨z, z2⟩)
  · omega
  · obtain ⟨c, l, e2, hc⟩ := nuF_h ha (by omega)
    rw [e2, mL_cons] at h
    have := h.1
    omega
theorem tkN_true {t : Nat → Nat} {n : Nat} {lo hi : Int} {r : rdT} (h : (tkN2 t n lo hi r).2 = true) : r.2 = true ∧ lo ≤ tkN1 t n r ∧ tkN1 t n r ≤ hi ∧ mL t n r.1 (nuL (tkN1 t n r)) = true ∧ (tkN2 t n lo hi r).1 = r.1 + (nuL (tkN1 t n r)).length := by
  unfold tkN2 at h ⊢
  simp only at h ⊢
  by_cases q : (atZ t n (r.1 : Int) = 45 ∧ tkA1 t n (tkNs t n r) = 0) ∨ tkN1 t n r < lo ∨ hi < tkN1 t n r
  · rw [if_pos q] at h
    cases h
  · rw [if_neg q] at h
    obtain ⟨a1, a2, a3, a4⟩ := tkA_true h
    have b1 : lo ≤ tkN1 t n r := by omega
    have b2 : tkN1 t n r ≤ hi := by omega
    by_cases ng : atZ t n (r.1 : Int) = 45
    · have e : tkNs t n r = (r.1 + 1, r.2) := if_pos ng
      have e2 : tkN1 t n r = -(tkA1 t n (tkNs t n r) : Int) := if_pos ng
      have hne : tkA1 t n (tkNs t n r) ≠ 0 := fun z => q (Or.inl ⟨ng, z⟩)
      have e3 : nuL (tkN1 t n r) = [45] ++ nuF (tkA1 t n (tkNs t n r)) 5 := by
        unfold nuL
        rw [e2, if_pos (by omega)]
        congr 2
        omega
      rw [e] at a1 a3 a4 e3
      rw [e3, e]
      refine ⟨a1, b1, b2, ?_, ?_⟩
      · rw [mL_app]
        exact ⟨(mL_cons _ _ _ _ _).mpr ⟨ng, rfl⟩, a3⟩
      · rw [a4]
        simp
        omega
    · have e : tkNs t n r = r := if_neg ng
      have e2 : tkN1 t n r = (tkA1 t n (tkNs t n r) : Int) := if_neg ng
      have e3 : nuL (tkN1 t n r) = nuF (tkA1 t n (tkNs t n r)) 5 := by
        unfold nuL
        rw [e2, if_neg (by omega)]
        rfl
      rw [e3, e]
      rw [e] at a1 a3 a4
      exact ⟨a1, b1, b2, a3, a4⟩
theorem tkN_of {t : Nat → Nat} {n p : Nat} {lo hi v : Int} (h1 : lo ≤ v) (h2 : v ≤ hi) (hv : -100000 < v ∧ v < 100000) (h : mL t n p (nuL v) = true) (hx : ¬ (48 ≤ atZ t n ((p + (nuL v).length : Nat) : Int) ∧ atZ t n ((p + (nuL v).length : Nat) : Int) ≤ 57)) : tkN1 t n (p, true) = v ∧ tkN2 t n lo hi (p, true) = (p + (nuL v).length, true) := by
  have hl : v.natAbs < 100000 := by omega
  by_cases ng : v < 0
  · have e : nuL v = [45] ++ nuF v.natAbs 5 := by
      unfold nuL
      rw [if_pos ng]
    rw [e, mL_app, mL_cons] at h
    have eq : atZ t n (p : Int) = 45 := h.1.1
    have es : tkNs t n (p, true) = (p + 1, true) := if_pos eq
    have el : p + (nuL v).length = p + 1 + (nuF v.natAbs 5).length := by
      rw [e]
      simp
      omega
    rw [el] at hx ⊢
    have h2' : mL t n (p + 1) (nuF v.natAbs 5) = true := h.2
    obtain ⟨a1, a2⟩ := tkA_of hl h2' hx
    have e1 : tkN1 t n (p, true) = v := by
      have : tkN1 t n (p, true) = -(tkA1 t n (tkNs t n (p, true)) : Int) := if_pos eq
      rw [this, es, a1]
      omega
    refine ⟨e1, ?_⟩
    unfold tkN2
    rw [e1, es, a1, a2, if_neg (by omega)]
  · have e : nuL v = nuF v.natAbs 5 := by
      unfold nuL
      rw [if_neg ng]
      rfl
    rw [e] at h hx ⊢
    obtain ⟨o1, o2, o3, o4⟩ := nuF_ok hl
    have eq : ¬ atZ t n (p : Int) = 45 := by
      intro z
      cases hD : nuF v.natAbs 5 with
      | nil =>
        rw [hD] at o3
        simp at o3
      | cons c l =>
        rw [hD] at h o1
        rw [mL_cons] at h
        have := o1 c List.mem_cons_self
        have := h.1
        omega
    have es : tkNs t n (p, true) = (p, true) := if_neg eq
    obtain ⟨a1, a2⟩ := tkA_of hl h hx
    have e1 : tkN1 t n (p, true) = v := by
      have : tkN1 t n (p, true) = (tkA1 t n (tkNs t n (p, true)) : Int) := if_neg eq
      rw [this, es, a1]
      omega
    refine ⟨e1, ?_⟩
    unfold tkN2
    rw [e1, es, a1, a2, if_neg (by simp only at eq ⊢; omega)]
def okL (k g : Nat) (v : Int) : Prop := k < 14 ∧ g < kC k ∧ (kN k = 0 → v = 0) ∧ (kN k ≠ 0 → loN (kN k) ≤ v ∧ v ≤ hiN (kN k))
theorem loN_hiN (m : Nat) : -128 ≤ loN m ∧ hiN m ≤ 65535 := by
  unfold loN hiN
  constructor
  · split <;> omega
  · split
    · omega
    · split <;> omega
theorem tkK_some {t : Nat → Nat} {n p k : Nat} (h : tkK1 t n (p, true) = some k) : tkK2 t n (p, true) = (p + (opL k).length, true) := by
  unfold tkK2
  rw [h]
theorem line_true {t : Nat → Nat} {n p : Nat} (h : (rdLr t n (p, true)).2 = true) : ∃ (k g : Nat) (v : Int), okL k g v ∧ mL t n p (lnL k g v) = true ∧ (rdLr t n (p, true)).1 = p + (lnL k g v).length ∧ ∀ s, rdLs t n (p, true) s = adBs k g v s := by
  unfold rdLr at h ⊢
  unfold rdLs
  cases hk : tkK1 t n (p, true) with
  | none =>
    rw [hk] at h
    simp only at h
    unfold tkK2 at h
    rw [hk] at h
    cases h
  | some k =>
    rw [hk] at h
    simp only at h ⊢
    obtain ⟨k1, k2⟩ := tkKF_some 14 0 k hk
    rw [tkK_some hk] at h ⊢
    obtain ⟨a1, a2, a3⟩ := tk_true h
    rw [a3]
    generalize hr : rdR t n k (p + (opL k).length, true) = q at *
    have fin : ∀ (v : Int) (N : List Nat), q.1.2 = true → mL t n q.1.1 N = true → (rdN2 t n k q.1).1 = q.1.1 + N.length → lnL k q.2 v = opL k ++ rgL k q.2 ++ N ++ [10] → q.2 < kC k ∧ mL t n p (lnL k q.2 v) = true ∧ (rdN2 t n k q.1).1 + 1 = p + (lnL k q.2 v).length := by
      intro v N b1 b2 b3 b4
      have c := rdR_true (t := t) (n := n) (k := k) (r := (p + (opL k).length, true)) (by omega) (by rw [hr]; exact b1)
      rw [hr] at c
      obtain ⟨-, c2, c3, c4⟩ := c
      have c4' : q.1.1 = p + (opL k).length + (rgL k q.2).length := c4
      refine ⟨c2, ?_, ?_⟩
      · rw [b4, mL_app, mL_app, mL_app]
        rw [b3] at a2
        refine ⟨⟨⟨k2, c3⟩, ?_⟩, ?_⟩
        · rw [c4'] at b2
          simp only [List.length_append]
          rw [← Nat.add_assoc]
          exact b2
        · rw [c4'] at a2
          simp only [List.length_append]
          have e : p + ((opL k).length + (rgL k q.2).length + N.length) = p + (opL k).length + (rgL k q.2).length + N.length := by omega
          rw [e]
          exact a2
      · rw [b3, b4, c4']
        simp only [List.length_append, List.length_cons, List.length_nil]
        omega
    by_cases hN : kN k = 0
    · have e1 : rdN2 t n k q.1 = q.1 := if_pos hN
      have e2 : rdN1 t n k q.1 = 0 := if_pos hN
      rw [e1] at a1
      obtain ⟨f1, f2, f3⟩ := fin 0 [] a1 rfl (by rw [e1]; rfl) (by unfold lnL; rw [if_pos hN])
      exact ⟨k, q.2, 0, ⟨by omega, f1, fun _ => rfl, fun z => absurd hN z⟩, f2, f3, fun s => by rw [e2]⟩
    · have e1 : rdN2 t n k q.1 = tkN2 t n (loN (kN k)) (hiN (kN k)) (tkC t n (kR k) q.1) := if_neg hN
      have e2 : rdN1 t n k q.1 = tkN1 t n (tkC t n (kR k) q.1) := if_neg hN
      rw [e1] at a1
      obtain ⟨b1, b2, b3, b4, b5⟩ := tkN_true a1
      obtain ⟨c1, c2, c3⟩ := tkC_true b1
      obtain ⟨f1, f2, f3⟩ := fin (rdN1 t n k q.1) (cmL (kR k) ++ nuL (rdN1 t n k q.1)) c1 (by rw [mL_app, e2, ← c3]; exact ⟨c2, b4⟩) (by rw [e1, b5, c3, e2]; simp only [List.length_append]; omega) (by unfold lnL; rw [if_neg hN])
      exact ⟨k, q.2, rdN1 t n k q.1, ⟨by omega, f1, fun z => absurd z hN, fun _ => by rw [e2]; exact ⟨b2, b3⟩⟩, f2, f3, fun s => rfl⟩
theorem line_of {t : Nat → Nat} {n p k g : Nat} {v : Int} (ok : okL k g v) (h : mL t n p (lnL k g v) = true) : rdLr t n (p, true) = (p + (lnL k g v).length, true) ∧ ∀ s, rdLs t n (p, true) s = adBs k g v s := by
  obtain ⟨o1, o2, o3, o4⟩ := ok
  have h' := h
  unfold lnL at h'
  rw [mL_app, mL_app, mL_app] at h'
  obtain ⟨⟨⟨m1, m2⟩, m3⟩, m4⟩ := h'
  simp only [List.length_append] at m3 m4
  have hk : tkK1 t n (p, true) = some k := tkKF_find o1 m1 14 0 rfl (Nat.zero_le _)
  unfold rdLr rdLs
  rw [hk]
  simp only
  rw [tkK_some hk, rdR_of o1 o2 m2]
  simp only
  by_cases hN : kN k = 0
  · have e1 : ∀ r, rdN2 t n k r = r := fun r => if_pos hN
    have e2 : ∀ r, rdN1 t n k r = 0 := fun r => if_pos hN
    rw [if_pos hN] at m4
    rw [e1, e2, o3 hN]
    refine ⟨?_, fun s => rfl⟩
    have m4' : mL t n (p + (opL k).length + (rgL k g).length) [10] = true := by
      rw [Nat.add_assoc]
      exact m4
    rw [tk_of m4']
    unfold lnL
    rw [if_pos hN]
    simp only [List.length_append, List.length_cons, List.length_nil]
    congr 1
    omega
  · rw [if_neg hN] at m3 m4
    have m3' : mL t n (p + (opL k).length + (rgL k g).length) (cmL (kR k) ++ nuL v) = true := by
      rw [Nat.add_assoc]
      exact m3
    rw [mL_app] at m3'
    simp only [List.length_append] at m4
    have m4' : mL t n (p + (opL k).length + (rgL k g).length + (cmL (kR k)).length + (nuL v).length) [10] = true := by
      have e : p + (opL k).length + (rgL k g).length + (cmL (kR k)).length + (nuL v).length = p + ((opL k).length + (rgL k g).length + ((cmL (kR k)).length + (nuL v).length)) := by omega
      rw [e]
      exact m4
    have hl := loN_hiN (kN k)
    obtain ⟨q1, q2⟩ := o4 hN
    obtain ⟨w1, w2⟩ := tkN_of q1 q2 (by omega) m3'.2 (by
      have := ((mL_cons _ _ _ _ _).mp m4').1
      rw [this]
      omega)
    have e1 : rdN2 t n k (p + (opL k).length + (rgL k g).length, true) = (p + (opL k).length + (rgL k g).length + (cmL (kR k)).length + (nuL v).length, true) := by
      have : rdN2 t n k (p + (opL k).length + (rgL k g).length, true) = tkN2 t n (loN (kN k)) (hiN (kN k)) (tkC t n (kR k) (p + (opL k).length + (rgL k g).length, true)) := if_neg hN
      rw [this, tkC_of m3'.1, w2]
    have e2 : rdN1 t n k (p + (opL k).length + (rgL k g).length, true) = v := by
      have : rdN1 t n k (p + (opL k).length + (rgL k g).length, true) = tkN1 t n (tkC t n (kR k) (p + (opL k).length + (rgL k g).length, true)) := if_neg hN
      rw [this, tkC_of m3'.1, w1]
    rw [e1, e2, tk_of m4']
    refine ⟨?_, fun s => rfl⟩
    unfold lnL
    rw [if_neg hN]
    simp only [List.length_append, List.length_cons, List.length_nil]
    congr 1
    omega
