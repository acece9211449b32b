theorem kB_pos (k : Nat) : 1 ≤ kB k ∧ kB k ≤ 3 := by
  unfold kB
  split
  · omega
  · split <;> omega
theorem shl_kC (k : Nat) (h : k < 14) : nI 1 <<< (nI (2 * kR k) &&& 31) = nI (kC k) := by
  have q : ∀ k, k < 14 → nI 1 <<< (nI (2 * kR k) &&& 31) = nI (kC k) := by decide +kernel
  exact q k h
theorem kF_lt (k : Nat) : kF k ≤ 116 := by
  by_cases h : k < 14
  · have q : ∀ k, k < 14 → kF k ≤ 116 := by decide +kernel
    exact q k h
  · unfold kF
    rw [List.getD_eq_getElem?_getD, List.getElem?_eq_none (by simp; omega)]
    exact Nat.zero_le _
theorem kR_le (k : Nat) : kR k ≤ 2 := by
  by_cases h : k < 14
  · have q : ∀ k, k < 14 → kR k ≤ 2 := by decide +kernel
    exact q k h
  · unfold kR
    rw [List.getD_eq_getElem?_getD, List.getElem?_eq_none (by simp; omega)]
    exact Nat.zero_le _
theorem kC_lt (k : Nat) : 1 ≤ kC k ∧ kC k ≤ 16 := by
  unfold kC
  have h := kR_le k
  rcases (show kR k = 0 ∨ kR k = 1 ∨ kR k = 2 by omega) with e | e | e <;> rw [e] <;> decide
theorem kN_cases (k : Nat) (h : k < 14) : kN k = 0 ∨ kN k = 1 ∨ kN k = 2 ∨ kN k = 3 := by
  have q : ∀ k, k < 14 → kN k = 0 ∨ kN k = 1 ∨ kN k = 2 ∨ kN k = 3 := by decide +kernel
  exact q k h
theorem kFind_lt {z : Int} : ∀ (j k k' : Nat), kFind z j k = some k' → k' < k + j := by
  intro j
  induction j with
  | zero => intro k k' h; cases h
  | succ j ih =>
    intro k k' h
    simp only [kFind] at h
    by_cases q : (kF k : Int) ≤ z ∧ z < ((kF k + kC k : Nat) : Int)
    · rw [if_pos q] at h
      cases h
      omega
    · rw [if_neg q] at h
      have := ih (k + 1) k' h
      omega
theorem kd_lt {z : Int} {k : Nat} (h : kd z = some k) : k < 13 := by
  have := kFind_lt 13 0 k h
  omega
theorem kd_m1 : kd (-1) = none := by decide +kernel
theorem kd_held {b : Nat → Nat} {n k : Nat} {x : Int} (h : kd (atZ b n x) = some k) : 0 ≤ x ∧ x < (n : Int) := by
  unfold atZ at h
  by_cases q : 0 ≤ x ∧ x < (n : Int)
  · exact q
  · rw [if_neg q, kd_m1] at h
    cases h
theorem atZ_in {b : Nat → Nat} {n M : Nat} {x : Int} (hb : ∀ i, b i < M) : -1 ≤ atZ b n x ∧ atZ b n x < (M : Int) := by
  have h0 := hb 0
  unfold atZ
  split
  · have := hb x.toNat
    omega
  · omega
theorem atZ_toInt {b : Nat → Nat} {n : Nat} {x : Int} (hb : ∀ i, b i < 256) : (iI (atZ b n x)).toInt = atZ b n x := by
  have := atZ_in (n := n) (x := x) hb
  exact iI_toInt (by omega) (by omega)
theorem atZ_n {b : Nat → Nat} {n i : Nat} (h : i < n) : atZ b n ((i : Nat) : Int) = (b i : Int) := by
  unfold atZ
  rw [if_pos (by omega), Int.toNat_natCast]
theorem i2b_n {v : Nat} (h : v < 256) : (nI v).toInt8.toInt32 = iI (sx8 v) := by
  have q : ∀ v, v < 256 → (nI v).toInt8.toInt32 = iI (sx8 v) := by decide +kernel
  exact q v h
theorem ckd_n {b : Nat → Nat} {n : Nat} {x : Int} (e : kd (atZ b n x) = none) : ckd b n x = none := by
  unfold ckd
  rw [e]
theorem ckd_y {b : Nat → Nat} {n k : Nat} {x : Int} (e : kd (atZ b n x) = some k) (h : (kB k : Int) ≤ (n : Int) - x) : ckd b n x = some k := by
  unfold ckd
  rw [e]
  exact if_pos h
theorem ckd_z {b : Nat → Nat} {n k : Nat} {x : Int} (e : kd (atZ b n x) = some k) (h : ¬ (kB k : Int) ≤ (n : Int) - x) : ckd b n x = none := by
  unfold ckd
  rw [e]
  exact if_neg h
theorem ckd_lt {b : Nat → Nat} {n k : Nat} {x : Int} (e : ckd b n x = some k) : k < 14 := by
  unfold ckd at e
  cases q : kd (atZ b n x) with
  | none => rw [q] at e; cases e
  | some k' =>
    rw [q] at e
    simp only at e
    have := kd_lt q
    by_cases w : (kB k' : Int) ≤ (n : Int) - x
    · rw [if_pos w] at e
      cases e
      omega
    · rw [if_neg w] at e
      cases e
def wok (s : wkT) : Prop := s.2.2 ≤ 160 ∧ ∀ i, i < s.2.2 → s.1 i < 160
theorem wk0_ok (fd : Nat → Nat) : wok (wk0 fd) := ⟨Nat.zero_le _, fun i h => absurd h (Nat.not_lt_zero _)⟩
theorem cm_y {ad : Nat} {s : wkT} {x : Int} (h : 0 ≤ x ∧ x < (ad : Int) ∧ s.2.1 x.toNat = false ∧ s.2.2 < 160) : cm ad s x = (updN s.1 s.2.2 x.toNat, updB s.2.1 x.toNat true, s.2.2 + 1) := if_pos h
theorem cm_n {ad : Nat} {s : wkT} {x : Int} (h : ¬ (0 ≤ x ∧ x < (ad : Int) ∧ s.2.1 x.toNat = false ∧ s.2.2 < 160)) : cm ad s x = s := if_neg h
theorem cm_ok {ad : Nat} {s : wkT} {x : Int} (ha : ad ≤ 160) (h : wok s) : wok (cm ad s x) := by
  by_cases q : 0 ≤ x ∧ x < (ad : Int) ∧ s.2.1 x.toNat = false ∧ s.2.2 < 160
  · rw [cm_y q]
    refine ⟨by show s.2.2 + 1 ≤ 160; omega, fun i hi => ?_⟩
    have hi : i < s.2.2 + 1 := hi
    show updN s.1 s.2.2 x.toNat i < 160
    unfold updN
    split
    · omega
    · exact h.2 i (by omega)
  · rw [cm_n q]
    exact h
theorem suc_ok {b : Nat → Nat} {n ad a : Nat} {cs : Bool} {s : wkT} (ha : ad ≤ 160) (h : wok s) : wok (suc b n ad cs a s) := by
  unfold suc
  cases ckd b n (a : Int) with
  | none => exact h
  | some k =>
    have h1 : wok (suc1 b ad a k s) := by
      unfold suc1
      split
      · exact cm_ok ha h
      · exact h
    have h2 : wok (suc2 b ad a k (suc1 b ad a k s)) := by
      unfold suc2
      split
      · exact cm_ok ha h1
      · exact h1
    show wok (suc3 b ad a k cs (suc2 b ad a k (suc1 b ad a k s)))
    unfold suc3
    split
    · exact cm_ok ha h2
    · exact h2
theorem clr_step {g : Nat → Bool} {k : Nat} (hg : ∀ i, i < k → g i = false) : ∀ i, i < k + 1 → updB g k false i = false := by
  intro i hi
  by_cases e : i = k
  · rw [e]
    simp [updB]
  · simp only [updB, if_neg e]
    exact hg i (by omega)
theorem min_n {n : Nat} (h : n ≤ 160) : (if nI 160 < nI n then nI 160 else nI n) = nI n := if_neg (nI_nlt h (by decide))
theorem ckd_in {b : Nat → Nat} {n a k : Nat} (e : ckd b n (a : Int) = some k) : k < 14 ∧ a + kB k ≤ n := by
  refine ⟨ckd_lt e, ?_⟩
  unfold ckd at e
  cases q : kd (atZ b n (a : Int)) with
  | none => rw [q] at e; cases e
  | some k' =>
    rw [q] at e
    simp only at e
    by_cases w : (kB k' : Int) ≤ (n : Int) - (a : Int)
    · rw [if_pos w] at e
      cases e
      omega
    · rw [if_neg w] at e
      cases e
theorem num_in {b : Nat → Nat} {a k : Nat} (hb : ∀ i, b i < 256) : -128 ≤ num b a k ∧ num b a k ≤ 65535 := by
  have h1 := hb (a + 1)
  have h2 := hb (a + 2)
  unfold num sx8
  split
  · omega
  · split
    · split <;> omega
    · split <;> omega
theorem suc_none {b : Nat → Nat} {n ad a : Nat} {cs : Bool} {s : wkT} (e : ckd b n (a : Int) = none) : suc b n ad cs a s = s := by
  unfold suc
  rw [e]
theorem suc_some {b : Nat → Nat} {n ad a k : Nat} {cs : Bool} {s : wkT} (e : ckd b n (a : Int) = some k) : suc b n ad cs a s = suc3 b ad a k cs (suc2 b ad a k (suc1 b ad a k s)) := by
  unfold suc
  rw [e]
def dr (s : txT) : txT := (s.1, 0)
def r00 : rdT := (0, true)
def pu (s : txT) (i v : Nat) : txT := (updN s.1 i v, max s.2 (i + 1))
theorem pu_add (s : txT) (v : Nat) : pu s s.2 v = ap1 s v := by
  unfold pu ap1
  rw [Nat.max_eq_right (by omega)]
theorem ap_cm_y {s : txT} {k : Nat} (h : 0 < k) : ap s (cmL k) = ap1 s 44 := by
  unfold cmL
  rw [if_pos h]
  rfl
theorem ap_cm_n {s : txT} {k : Nat} (h : ¬ 0 < k) : ap s (cmL k) = s := by
  unfold cmL
  rw [if_neg h]
  rfl
theorem max_n {a b : Nat} (ha : a < 2147483648) (hb : b < 2147483648) : (if nI a < nI b then nI b else nI a) = nI (max a b) := by
  by_cases h : a < b
  · rw [if_pos (nI_lt h hb), Nat.max_eq_right (by omega)]
  · rw [if_neg (nI_nlt (by omega) ha), Nat.max_eq_left (by omega)]
theorem i2c_n {n : Nat} (h : n < 65536) : ((nI n).toUInt32 % 65536).toInt32 = nI n := by
  rw [pk_char, pk_tn (by omega), Nat.mod_eq_of_lt h]
theorem abs_n {v : Int} (h1 : -65536 ≤ v) (h2 : v ≤ 65536) : (if 0 ≤ iI v then iI v else 0 - iI v) = nI v.natAbs := by
  have e0 : (0 : Int32) = iI 0 := by decide
  by_cases h : 0 ≤ v
  · rw [if_pos (by rw [zif0_ge, iI_toInt (by omega) (by omega)]; exact h), nI_iI]
    congr 1
    omega
  · rw [if_neg (by rw [zif0_ge, iI_toInt (by omega) (by omega)]; exact h), e0, iI_sub, nI_iI]
    congr 1
    omega
theorem ap_len (s : txT) (l : List Nat) : (ap s l).2 = s.2 + l.length := by
  induction l generalizing s with
  | nil => rfl
  | cons c l ih =>
    show (ap (ap1 s c) l).2 = _
    rw [ih]
    simp [ap1]
    omega
theorem ap_app (s : txT) (l1 l2 : List Nat) : ap s (l1 ++ l2) = ap (ap s l1) l2 := List.foldl_append
theorem ten_pow {j : Nat} (h : j ≤ 4) : 1 ≤ 10 ^ j ∧ 10 ^ j ≤ 10000 := by
  rcases (show j = 0 ∨ j = 1 ∨ j = 2 ∨ j = 3 ∨ j = 4 by omega) with e | e | e | e | e <;> subst e <;> decide
theorem ten_div (j : Nat) : 10 ^ (j + 1) / 10 = 10 ^ j := by
  rw [Nat.pow_succ]
  omega
theorem ap_dg_y {s : txT} {a u : Nat} {l : List Nat} (h : u ≤ a ∨ u = 1) : ap s (dgL a u ++ l) = ap (ap1 s (48 + a / u % 10)) l := by
  unfold dgL
  rw [if_pos h]
  rfl
theorem ap_dg_n {s : txT} {a u : Nat} {l : List Nat} (h : ¬ (u ≤ a ∨ u = 1)) : ap s (dgL a u ++ l) = ap s l := by
  unfold dgL
  rw [if_neg h]
  rfl
theorem drop_c {l : List Nat} {i : Nat} (h : i < l.length) : l.drop i = l.getD i 0 :: l.drop (i + 1) := by
  rw [List.drop_eq_getElem_cons h, List.getD_eq_getElem?_getD, List.getElem?_eq_getElem h]
  rfl
theorem op_bd : ∀ k, k < 14 → 3 ≤ (opL k).length ∧ (opL k).length ≤ 6 ∧ ∀ i, i < 6 → (opL k).getD i 0 < 128 := by decide +kernel
theorem shr3 {g e : Nat} (hg : g < 16) (he : e < 2) : nI g >>> (nI (2 * e) &&& 31) &&& nI 3 = nI (g / 4 ^ e % 4) := by
  have q : ∀ g, g < 16 → ∀ e, e < 2 → nI g >>> (nI (2 * e) &&& 31) &&& nI 3 = nI (g / 4 ^ e % 4) := by decide +kernel
  exact q g hg e he
theorem cm_len (k : Nat) : (cmL k).length ≤ 1 := by
  unfold cmL
  split <;> simp
