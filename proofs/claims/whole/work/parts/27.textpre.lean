theorem bn_one {P : Prop} [Decidable P] (h : P) : nI 1 = bI (decide P) := by rw [decide_eq_true h]; decide
theorem bn_zero {P : Prop} [Decidable P] (h : ¬ P) : nI 0 = bI (decide P) := by rw [decide_eq_false h]; decide
theorem atZ_nat {t : Nat → Nat} {n p c : Nat} (h : atZ t n (p : Int) = (c : Int)) : p < n := by
  unfold atZ at h
  by_cases q : (0 : Int) ≤ (p : Int) ∧ (p : Int) < (n : Int)
  · omega
  · rw [if_neg q] at h
    omega
theorem tk_le {t : Nat → Nat} {n c : Nat} {r : rdT} (h : r.1 ≤ n) : (tk t n c r).1 ≤ n := by
  unfold tk
  by_cases q : atZ t n (r.1 : Int) = (c : Int)
  · rw [if_pos q]
    have := atZ_nat q
    show r.1 + 1 ≤ n
    omega
  · rw [if_neg q]
    exact h
theorem tkC_le {t : Nat → Nat} {n k : Nat} {r : rdT} (h : r.1 ≤ n) : (tkC t n k r).1 ≤ n := by
  unfold tkC
  split
  · exact tk_le h
  · exact h
theorem tkR_le {t : Nat → Nat} {n : Nat} {r : rdT} (h : r.1 ≤ n) : (tkR2 t n r).1 ≤ n ∧ tkR1 t n r < 4 := by
  have h1 := tk_le (t := t) (c := 114) h
  unfold tkR2 tkR1
  by_cases q : atZ t n ((tk t n 114 r).1 : Int) - 48 < 0 ∨ 3 < atZ t n ((tk t n 114 r).1 : Int) - 48
  · rw [if_pos q, if_pos q]
    exact ⟨h1, by omega⟩
  · rw [if_neg q, if_neg q]
    have e : atZ t n ((tk t n 114 r).1 : Int) = (((atZ t n ((tk t n 114 r).1 : Int)).toNat : Nat) : Int) := by omega
    have := atZ_nat e
    exact ⟨by show (tk t n 114 r).1 + 1 ≤ n; omega, by omega⟩
theorem mL_le {t : Nat → Nat} {n : Nat} : ∀ (l : List Nat) (p : Nat), p ≤ n → mL t n p l = true → p + l.length ≤ n := by
  intro l
  induction l with
  | nil => intro p h _; exact h
  | cons c l ih =>
    intro p h hm
    rw [mL_cons] at hm
    have := ih (p + 1) (by have := atZ_nat hm.1; omega) hm.2
    simp only [List.length_cons]
    omega
theorem tkK_y {t : Nat → Nat} {n k : Nat} {r : rdT} (h : tkK1 t n r = some k) : tkK2 t n r = (r.1 + (opL k).length, r.2) := by
  unfold tkK2
  rw [h]
theorem tkK_n {t : Nat → Nat} {n : Nat} {r : rdT} (h : tkK1 t n r = none) : tkK2 t n r = (r.1, false) := by
  unfold tkK2
  rw [h]
theorem tkK_le {t : Nat → Nat} {n : Nat} {r : rdT} (h : r.1 ≤ n) : (tkK2 t n r).1 ≤ n := by
  cases hk : tkK1 t n r with
  | none => rw [tkK_n hk]; exact h
  | some k =>
    rw [tkK_y hk]
    exact mL_le _ _ h (tkKF_some 14 0 k hk).2
theorem tkK_lt {t : Nat → Nat} {n k : Nat} {r : rdT} (h : tkK1 t n r = some k) : k < 14 := by
  have := (tkKF_some 14 0 k h).1
  omega
theorem vl_lt : ∀ (D : List Nat) (acc B : Nat), dig D → acc < B → vl D acc < B * 10 ^ D.length := by
  intro D
  induction D with
  | nil => intro acc B _ h; simpa [vl] using h
  | cons c D ih =>
    intro acc B hd h
    have hc := hd c List.mem_cons_self
    have := ih (10 * acc + c - 48) (10 * B) (fun x hx => hd x (List.mem_cons_of_mem _ hx)) (by omega)
    show vl D (10 * acc + c - 48) < B * 10 ^ (D.length + 1)
    have e : B * 10 ^ (D.length + 1) = 10 * B * 10 ^ D.length := by
      rw [Nat.pow_succ, Nat.mul_comm (10 ^ D.length) 10, ← Nat.mul_assoc, Nat.mul_comm B 10]
    rw [e]
    exact this
theorem tkA_lt {t : Nat → Nat} {n : Nat} {r : rdT} : tkA1 t n r < 100000 := by
  obtain ⟨D, d1, d2, d3, d4⟩ := tkAF_is (t := t) (n := n) 5 r.1 0
  unfold tkA1
  rw [d4]
  have h := vl_lt D 0 1 d1 (by omega)
  have h2 : (10 : Nat) ^ D.length ≤ 10 ^ 5 := Nat.pow_le_pow_right (by omega) d2
  show vl D 0 < 100000
  omega
theorem tkA_le {t : Nat → Nat} {n : Nat} {r : rdT} (h : r.1 ≤ n) : (tkA2 t n r).1 ≤ n := by
  obtain ⟨D, d1, d2, d3, d4⟩ := tkAF_is (t := t) (n := n) 5 r.1 0
  unfold tkA2
  rw [d4]
  exact mL_le _ _ h d3
theorem tkNs_le {t : Nat → Nat} {n : Nat} {r : rdT} (h : r.1 ≤ n) : (tkNs t n r).1 ≤ n := by
  unfold tkNs
  by_cases q : atZ t n (r.1 : Int) = 45
  · rw [if_pos q]
    have := atZ_nat (c := 45) q
    show r.1 + 1 ≤ n
    omega
  · rw [if_neg q]
    exact h
theorem tkN1_in {t : Nat → Nat} {n : Nat} {r : rdT} : -100000 < tkN1 t n r ∧ tkN1 t n r < 100000 := by
  have := tkA_lt (t := t) (n := n) (r := tkNs t n r)
  unfold tkN1
  split <;> omega
theorem tkN_le {t : Nat → Nat} {n : Nat} {lo hi : Int} {r : rdT} (h : r.1 ≤ n) : (tkN2 t n lo hi r).1 ≤ n := tkA_le (tkNs_le h)
theorem tkA2_y {t : Nat → Nat} {n p a : Nat} {r : rdT} (e : tkAF t n 5 r.1 0 = (p, a)) (h : p - r.1 = 0 ∨ (1 < p - r.1 ∧ atZ t n (r.1 : Int) = 48)) : tkA2 t n r = (p, false) := by
  unfold tkA2
  rw [e]
  exact congrArg (Prod.mk p) (if_pos h)
theorem tkA2_n {t : Nat → Nat} {n p a : Nat} {r : rdT} (e : tkAF t n 5 r.1 0 = (p, a)) (h : ¬ (p - r.1 = 0 ∨ (1 < p - r.1 ∧ atZ t n (r.1 : Int) = 48))) : tkA2 t n r = (p, r.2) := by
  unfold tkA2
  rw [e]
  exact congrArg (Prod.mk p) (if_neg h)
theorem tkA1_e {t : Nat → Nat} {n p a : Nat} {r : rdT} (e : tkAF t n 5 r.1 0 = (p, a)) : tkA1 t n r = a := by
  unfold tkA1
  rw [e]
theorem tkN2_y {t : Nat → Nat} {n : Nat} {lo hi : Int} {r r1 : rdT} (e : r1 = tkNs t n r) (h : (atZ t n (r.1 : Int) = 45 ∧ tkA1 t n r1 = 0) ∨ tkN1 t n r < lo ∨ hi < tkN1 t n r) : tkN2 t n lo hi r = ((tkA2 t n r1).1, false) := by
  subst e
  exact congrArg (Prod.mk _) (if_pos h)
theorem tkN2_n {t : Nat → Nat} {n : Nat} {lo hi : Int} {r r1 : rdT} (e : r1 = tkNs t n r) (h : ¬ ((atZ t n (r.1 : Int) = 45 ∧ tkA1 t n r1 = 0) ∨ tkN1 t n r < lo ∨ hi < tkN1 t n r)) : tkN2 t n lo hi r = ((tkA2 t n r1).1, (tkA2 t n r1).2) := by
  subst e
  exact congrArg (Prod.mk _) (if_neg h)
theorem tkN1_y {t : Nat → Nat} {n : Nat} {r r1 : rdT} (e : r1 = tkNs t n r) (h : atZ t n (r.1 : Int) = 45) : tkN1 t n r = -(tkA1 t n r1 : Int) := by
  subst e
  exact if_pos h
theorem tkN1_n {t : Nat → Nat} {n : Nat} {r r1 : rdT} (e : r1 = tkNs t n r) (h : ¬ atZ t n (r.1 : Int) = 45) : tkN1 t n r = (tkA1 t n r1 : Int) := by
  subst e
  exact if_neg h
