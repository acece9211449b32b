/-! list: the reference's lines are the class's -/
def mlk (b : Nat → Nat) (n : Nat) (m : Nat → Bool) (a : Nat) : Nat := if m a = true then mLen b n (a : Int) else 0
def msec (b : Nat → Nat) (a k : Nat) : Nat := if 1 < k then b (a + 1) else 0
def mnm (b : Nat → Nat) (a k : Nat) : Int := if k = 3 then ((256 * msec b a k + b (a + 2) : Nat) : Int) else if 96 ≤ b a then sx8 (msec b a k) else (msec b a k : Int)
def mlL (b : Nat → Nat) (n : Nat) (m : Nat → Bool) (a : Nat) : List Nat := if mlk b n m a = 0 then daL (b a) ++ [10] else prL (b a) (mnm b a (mlk b n m a)) ++ [10]
def mls (b : Nat → Nat) (n : Nat) (m : Nat → Bool) : Nat → Nat → Nat → txT → txT
  | 0, _, _, s => s
  | j + 1, a, sk, s => if 0 < sk then mls b n m j (a + 1) (sk - 1) s else mls b n m j (a + 1) (mlk b n m a - 1) (ap s (mlL b n m a))
theorem kn_all : ∀ k, k < 13 → (kN k = 0 ∧ kB k = 1) ∨ (kN k = 1 ∧ kB k = 2 ∧ kF k + kC k ≤ 96) ∨ (kN k = 2 ∧ kB k = 2 ∧ 96 ≤ kF k) ∨ (kN k = 3 ∧ kB k = 3) := by decide +kernel
theorem mnm_num {b : Nat → Nat} {a k : Nat} (hb : ∀ i, b i < 256) (h : kd (b a : Int) = some k) : mnm b a (kB k) = num b a k := by
  obtain ⟨h1, h2, -, -, -, -, h7, h8⟩ := kd_some (hb a) h
  unfold mnm msec num
  rcases kn_all k h1 with ⟨e1, e2⟩ | ⟨e1, e2, e3⟩ | ⟨e1, e2, e3⟩ | ⟨e1, e2⟩
  · rw [e1, e2]
    simp [sx8]
  · rw [e1, e2]
    simp only [show ¬ (2 = 3) by decide, if_false, if_true, show (1 < 2) = True by decide]
    rw [if_neg (by omega)]
  · rw [e1, e2]
    simp only [show ¬ (2 = 3) by decide, show ¬ (2 = 1) by decide, if_false, if_true, show (1 < 2) = True by decide]
    rw [if_pos (by omega)]
  · rw [e1, e2]
    rfl
theorem ckd_kd {b : Nat → Nat} {n a k : Nat} (ha : a < n) (h : ckd b n (a : Int) = some k) : kd (b a : Int) = some k ∧ a + kB k ≤ n := by
  unfold ckd atZ at h
  rw [if_pos (by omega)] at h
  simp only [Int.toNat_natCast] at h
  cases hk : kd ((b a : Nat) : Int) with
  | none => rw [hk] at h; cases h
  | some k' =>
    rw [hk] at h
    simp only at h
    by_cases q : (kB k' : Int) ≤ (n : Int) - (a : Int)
    · rw [if_pos q] at h
      cases h
      exact ⟨rfl, by omega⟩
    · rw [if_neg q] at h
      cases h
theorem mlL_lsL {b : Nat → Nat} {n a : Nat} {m : Nat → Bool} (hb : ∀ i, b i < 256) (ha : a < n) : mlL b n m a = lsL b n m a ∧ a + 1 + (mlk b n m a - 1) = a + max 1 (lsz b n m a) ∧ a + 1 + (mlk b n m a - 1) ≤ n := by
  unfold mlL lsL lsz mlk lk
  cases hm : m a with
  | false =>
    simp only [Bool.false_eq_true, if_false, if_true]
    exact ⟨daL_lnL (hb a), by omega, by omega⟩
  | true =>
    simp only [if_true]
    have e := cln_mLen (b := b) (n := n) (x := (a : Int)) hb
    rw [← e]
    unfold cln
    cases hk : ckd b n (a : Int) with
    | none =>
      simp only [if_true]
      exact ⟨daL_lnL (hb a), by omega, by omega⟩
    | some k =>
      obtain ⟨k1, k2⟩ := ckd_kd ha hk
      have hp := kB_pos k
      simp only
      rw [if_neg (by omega), mnm_num hb k1]
      have hv := num_in (a := a) (k := k) hb
      exact ⟨prL_lnL (hb a) k1 (by omega) (by omega), by omega, by omega⟩
theorem li_same {b : Nat → Nat} {n : Nat} {m : Nat → Bool} (hb : ∀ i, b i < 256) : ∀ (j a sk i : Nat) (s : txT), a + j = n → a + sk ≤ n → n < i + (a + sk) → mls b n m j a sk s = liF b n m i (a + sk) s := by
  intro j
  induction j with
  | zero =>
    intro a sk i s h1 h2 h3
    have e : a + sk = n := by omega
    rw [e]
    cases i with
    | zero => rfl
    | succ i =>
      simp only [liF]
      rw [if_neg (by omega)]
      rfl
  | succ j ih =>
    intro a sk i s h1 h2 h3
    simp only [mls]
    by_cases hs : 0 < sk
    · rw [if_pos hs, ih (a + 1) (sk - 1) i s (by omega) (by omega) (by omega)]
      congr 1
      omega
    · have e0 : sk = 0 := by omega
      subst e0
      obtain ⟨g1, g2, g3⟩ := mlL_lsL (m := m) hb (show a < n by omega)
      rw [if_neg hs]
      cases i with
      | zero => omega
      | succ i =>
        simp only [liF, Nat.add_zero]
        rw [if_pos (show a < n by omega), ih (a + 1) (mlk b n m a - 1) i _ (by omega) g3 (by omega), g1, g2]
/-! how long a line is -/
theorem nuL_len {v : Int} (h1 : -65536 ≤ v) (h2 : v ≤ 65536) : (nuL v).length ≤ 6 ∧ (0 ≤ v → v < 1000 → (nuL v).length ≤ 3) ∧ (0 ≤ v → (nuL v).length ≤ 5) ∧ (v < 0 → -1000 < v → (nuL v).length ≤ 4) := by
  unfold nuL
  have hs : (if v < 0 then [45] else ([] : List Nat)).length = if v < 0 then 1 else 0 := by
    split <;> rfl
  rw [List.length_append, hs]
  rcases nuF_d (a := v.natAbs) (by omega) with ⟨q, e⟩ | ⟨q, q', e⟩ | ⟨q, q', e⟩ | ⟨q, q', e⟩ | ⟨q, e⟩ <;> rw [e] <;> simp only [List.length_cons, List.length_nil] <;> split <;> omega
theorem op_len : ∀ k, k < 14 → ∀ g, g < kC k → (opL k).length + (rgL k g).length + 1 + (if kN k = 0 then 0 else (cmL (kR k)).length + (if kN k = 1 then 3 else if kN k = 2 then 4 else 5)) ≤ (if k = 13 then 10 else 10 * kB k) := by decide +kernel
theorem ln_len {k g : Nat} {v : Int} (ok : okL k g v) : (lnL k g v).length ≤ (if k = 13 then 10 else 10 * kB k) := by
  obtain ⟨o1, o2, o3, o4⟩ := ok
  have h := op_len k o1 g o2
  have hl := loN_hiN (kN k)
  unfold lnL
  simp only [List.length_append, List.length_cons, List.length_nil]
  by_cases q : kN k = 0
  · rw [if_pos q] at h ⊢
    simp only [List.length_nil]
    omega
  · obtain ⟨w1, w2⟩ := o4 q
    obtain ⟨n1, n2, n3, n4⟩ := nuL_len (v := v) (by omega) (by omega)
    rw [if_neg q] at h ⊢
    simp only [List.length_append]
    by_cases q1 : kN k = 1
    · rw [if_pos q1] at h
      have e1 : loN (kN k) = 0 := by rw [q1]; rfl
      have e2 : hiN (kN k) = 255 := by rw [q1]; rfl
      have := n2 (by omega) (by omega)
      omega
    · rw [if_neg q1] at h
      by_cases q2 : kN k = 2
      · rw [if_pos q2] at h
        have e1 : loN (kN k) = -128 := by rw [q2]; rfl
        have e2 : hiN (kN k) = 127 := by rw [q2]; rfl
        by_cases s : v < 0
        · have := n4 s (by omega)
          omega
        · have := n2 (by omega) (by omega)
          omega
      · rw [if_neg q2] at h
        have e1 : loN (kN k) = 0 := by unfold loN; rw [if_neg q2]
        have := n3 (by omega)
        omega
