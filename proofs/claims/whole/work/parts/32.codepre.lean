def byW (w : Int32) (k : Nat) : Nat := ((w.toUInt32 >>> ((nI (24 - 8 * k)).toUInt32 &&& Int32.toUInt32 31)).toInt32 &&& 255).toInt.toNat
theorem byW_e (w : Int32) (k : Nat) : (w.toUInt32 >>> ((nI (24 - 8 * k)).toUInt32 &&& Int32.toUInt32 31)).toInt32 &&& nI 255 = nI (byW w k) := by
  obtain ⟨j, hj, e⟩ := pk_andE (w.toUInt32 >>> ((nI (24 - 8 * k)).toUInt32 &&& Int32.toUInt32 31)).toInt32 (m := 255) 8 (by decide)
  have e2 : byW w k = j := by
    unfold byW
    rw [e, tI_n (by omega)]
    omega
  rw [e2]
  exact e
theorem byW_lt (w : Int32) (k : Nat) : byW w k < 256 := by
  obtain ⟨j, hj, e⟩ := pk_andE (w.toUInt32 >>> ((nI (24 - 8 * k)).toUInt32 &&& Int32.toUInt32 31)).toInt32 (m := 255) 8 (by decide)
  unfold byW
  rw [e, tI_n (by omega)]
  omega
def apF (w : Int32) : Nat → Nat → txT → txT
  | 0, _, s => s
  | j + 1, k, s => apF w j (k + 1) (ap1 s (byW w k))
def apR (n : Nat) (y : Int) : Int := if 1 ≤ y ∧ y ≤ 4 then (if (n : Int) + y ≤ 160 then (n : Int) + y else -2) else -1
def apS (s : txT) (w : Int32) (y : Int) : txT := if (1 ≤ y ∧ y ≤ 4) ∧ (s.2 : Int) + y ≤ 160 then apF w y.toNat 0 s else s
theorem apF_len (w : Int32) : ∀ (j k : Nat) (s : txT), (apF w j k s).2 = s.2 + j := by
  intro j
  induction j with
  | zero => intro k s; rfl
  | succ j ih =>
    intro k s
    simp only [apF]
    rw [ih]
    show s.2 + 1 + j = _
    omega
def isEF (en : Nat → Nat) (y : Int) : Nat → Nat → Bool
  | 0, _ => false
  | j + 1, k => if (en k : Int) = y then true else isEF en y j (k + 1)
def isE (e : txT) (y : Int) : Bool := isEF e.1 y e.2 0
def enB (n : Nat) (e : txT) (y : Int) : Bool := decide ((0 ≤ y ∧ y < (n : Int)) ∧ isE e y = false ∧ e.2 < 16)
def enS (n : Nat) (e : txT) (y : Int) : txT := if (0 ≤ y ∧ y < (n : Int)) ∧ isE e y = false ∧ e.2 < 16 then ap1 e y.toNat else e
def mdZ (md : Nat → Int32) (mc : Nat) (y : Int) : Int32 := if 0 ≤ y ∧ y < (mc : Int) then md y.toNat else iI (-1)
def enF (en : Nat → Nat) (n : Nat) : Nat → Nat → wkT → wkT
  | 0, _, s => s
  | j + 1, k, s => enF en n j (k + 1) (cm n s (en k : Int))
def wkE (i e : txT) (fd : Nat → Nat) : wkT := fol i.1 i.2 i.2 true 160 0 (enF e.1 i.2 e.2 0 (wk0 fd))
def wkB (i : txT) (y : Int) (fd : Nat → Nat) : wkT := fol i.1 i.2 i.2 false 160 0 (cm i.2 (wk0 fd) y)
def tyB (s : txT) (y1 y2 : Int) : Bool := decide ((0 ≤ y1 ∧ y1 ≤ (s.2 : Int) ∧ y1 < 2400) ∧ 0 ≤ y2 ∧ y2 ≤ 255)
def tyS (s : txT) (y1 y2 : Int) : txT := if (0 ≤ y1 ∧ y1 ≤ (s.2 : Int) ∧ y1 < 2400) ∧ 0 ≤ y2 ∧ y2 ≤ 255 then pu s y1.toNat y2.toNat else s
def asR (q : rdT × abT) : Int := if q.1.2 = true then (if 160 < q.2.2 then -2 else (q.2.2 : Int)) else -1
def asM (q : rdT × abT) (md : Nat → Int32) : Nat → Int32 := if q.1.2 = true ∧ q.2.2 ≤ 160 then va_cpy q.2.1 md 0 0 q.2.2 else md
def asC (q : rdT × abT) (mc : Nat) : Nat := if q.1.2 = true ∧ q.2.2 ≤ 160 then q.2.2 else mc
theorem wkE_ok (i e : txT) (fd : Nat → Nat) : True := trivial
theorem max_1 {a : Nat} (h : a < 2147483648) : (if nI 1 < nI a then nI a else nI 1) = nI (max 1 a) := max_n (by decide) h
theorem cln_le3 (b : Nat → Nat) (n : Nat) (y : Int) : cln b n y ≤ 3 := by
  unfold cln
  cases ckd b n y with
  | none => exact Nat.zero_le _
  | some k => exact (kB_pos k).2
theorem lsz_le (b : Nat → Nat) (n : Nat) (m : Nat → Bool) (a : Nat) : 1 ≤ lsz b n m a ∧ lsz b n m a ≤ 3 := by
  unfold lsz
  cases lk b n m a with
  | none => exact ⟨Nat.le_refl 1, by show 1 ≤ 3; omega⟩
  | some k => exact kB_pos k
theorem lk_in {b : Nat → Nat} {n a k : Nat} {m : Nat → Bool} (hb : ∀ i, b i < 256) (ha : a < n) (e : lk b n m a = some k) : k < 13 ∧ a + kB k ≤ n ∧ kF k ≤ b a ∧ b a - kF k < kC k ∧ okL k (b a - kF k) (num b a k) := by
  unfold lk at e
  by_cases hm : m a = true
  · rw [if_pos hm] at e
    obtain ⟨k1, k2⟩ := ckd_kd ha e
    obtain ⟨h1, h2, -, -, -, -, h7, h8⟩ := kd_some (hb a) k1
    have hv := num_in (a := a) (k := k) hb
    refine ⟨h1, k2, h7, by omega, by omega, by omega, fun q => ?_, fun q => ?_⟩
    · unfold num
      rw [if_neg (by omega), if_neg (by omega), if_neg (by omega)]
    · have h3 := hb (a + 1)
      have h4 := hb (a + 2)
      rcases kn_all k h1 with ⟨e1, e2⟩ | ⟨e1, e2, e3⟩ | ⟨e1, e2, e3⟩ | ⟨e1, e2⟩
      · exact absurd e1 q
      · unfold num loN hiN
        rw [e1]
        simp
        omega
      · unfold num loN hiN sx8
        rw [e1]
        simp
        split <;> omega
      · unfold num loN hiN
        rw [e1]
        simp
        omega
  · rw [if_neg hm] at e
    cases e
theorem lsL_len {b : Nat → Nat} {n a : Nat} {m : Nat → Bool} (hb : ∀ i, b i < 256) (ha : a < n) : (lsL b n m a).length ≤ 10 * max 1 (lsz b n m a) := by
  have hl := (lsz_le b n m a).1
  rw [Nat.max_eq_right hl]
  unfold lsL lsz
  cases e : lk b n m a with
  | none =>
    have := hb a
    have h := ln_len (k := 13) (g := 0) (v := (b a : Int)) ⟨by decide, by decide, fun q => absurd q (by decide), fun _ => ⟨by show (0 : Int) ≤ _; omega, by show _ ≤ (255 : Int); omega⟩⟩
    simpa using h
  | some k =>
    obtain ⟨h1, -, -, -, h5⟩ := lk_in hb ha e
    have h := ln_len h5
    rw [if_neg (by omega)] at h
    exact h
theorem rdF_len {t : Nat → Nat} {n : Nat} : ∀ (j : Nat) (r : rdT) (s : abT), (rdF t n j r s).2.2 ≤ s.2 + 3 * j := by
  intro j
  induction j with
  | zero => intro r s; exact Nat.le_refl _
  | succ j ih =>
    intro r s
    simp only [rdF]
    split
    · have h1 := ih (rdLr t n r) (rdLs t n r s)
      have h2 := rdLs_le (t := t) (n := n) (r := r) (a := s)
      omega
    · show s.2 ≤ _
      omega
theorem rd_len (t : Nat → Nat) (n : Nat) (f : Nat → Int32) : (rd t n f).2.2 ≤ 7200 := by
  have := rdF_len (t := t) (n := n) 2400 (0, true) (f, 0)
  exact this
