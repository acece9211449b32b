/-! The reference's methods as functions of whole numbers, and how they agree with the class's. -/
def lgO (f : Nat) : Nat := if 119 < f then 0 else if f / 16 = 0 then (if f ≤ 2 then 1 else 0) else if f / 16 = 3 ∨ f / 16 = 4 then 1 else if f / 16 = 5 then (if f ≤ 85 then 3 else 0) else if f / 16 = 7 then 3 else if 3 < f % 16 then 0 else if f / 16 = 1 then 1 else 2
def mLen (b : Nat → Nat) (n : Nat) (x : Int) : Nat := if 0 ≤ x ∧ x < (n : Int) then (if x + (lgO (b x.toNat) : Int) ≤ (n : Int) then lgO (b x.toNat) else 0) else 0
def mfw (b : Nat → Nat) (a : Nat) : Int := ((256 * b (a + 1) + b (a + 2) : Nat) : Int)
def mtg (b : Nat → Nat) (n : Nat) (cs : Bool) (a : Nat) : List Int := if mLen b n (a : Int) = 0 then [] else (if b a ≠ 1 ∧ b a ≠ 2 ∧ b a ≠ 80 then [((a + mLen b n (a : Int) : Nat) : Int)] else []) ++ (if 80 ≤ b a ∧ b a ≤ 85 ∧ (b a ≠ 81 ∨ cs = true) then [mfw b a] else []) ++ (if 96 ≤ b a ∧ b a ≤ 99 then [((a + mLen b n (a : Int) : Nat) : Int) + sx8 (b (a + 1))] else [])
def kdOk (f : Nat) : Bool := match kd (f : Int) with
  | none => lgO f == 0
  | some k => decide (k < 13 ∧ kB k = lgO f ∧ (fallsB k = true ↔ (f ≠ 1 ∧ f ≠ 2 ∧ f ≠ 80)) ∧ (k = 10 ↔ (96 ≤ f ∧ f ≤ 99)) ∧ ((k = 7 ∨ k = 9) ↔ (80 ≤ f ∧ f ≤ 85 ∧ f ≠ 81)) ∧ (k = 8 ↔ f = 81) ∧ kF k ≤ f ∧ f < kF k + kC k)
theorem kd_all : ∀ f, f < 256 → kdOk f = true := by decide +kernel
theorem kd_none {f : Nat} (hf : f < 256) (h : kd (f : Int) = none) : lgO f = 0 := by
  have := kd_all f hf
  unfold kdOk at this
  rw [h] at this
  simpa using this
theorem kd_some {f k : Nat} (hf : f < 256) (h : kd (f : Int) = some k) : k < 13 ∧ kB k = lgO f ∧ (fallsB k = true ↔ (f ≠ 1 ∧ f ≠ 2 ∧ f ≠ 80)) ∧ (k = 10 ↔ (96 ≤ f ∧ f ≤ 99)) ∧ ((k = 7 ∨ k = 9) ↔ (80 ≤ f ∧ f ≤ 85 ∧ f ≠ 81)) ∧ (k = 8 ↔ f = 81) ∧ kF k ≤ f ∧ f < kF k + kC k := by
  have := kd_all f hf
  unfold kdOk at this
  rw [h] at this
  exact of_decide_eq_true this
theorem cln_mLen {b : Nat → Nat} {n : Nat} {x : Int} (hb : ∀ i, b i < 256) : cln b n x = mLen b n x := by
  unfold cln ckd mLen atZ
  by_cases h : 0 ≤ x ∧ x < (n : Int)
  · rw [if_pos h, if_pos h]
    cases hk : kd ((b x.toNat : Nat) : Int) with
    | none =>
      have := kd_none (hb _) hk
      simp [this]
    | some k =>
      have h2 := (kd_some (hb _) hk).2.1
      rw [← h2]
      by_cases h3 : (kB k : Int) ≤ (n : Int) - x
      · simp only [if_pos h3]
        rw [if_pos (by omega)]
      · simp only [if_neg h3]
        rw [if_neg (by omega)]
  · rw [if_neg h, if_neg h, kd_m1]
theorem mtg_tg {b : Nat → Nat} {n a : Nat} {cs : Bool} (hb : ∀ i, b i < 256) (ha : a < n) : mtg b n cs a = tg b n cs a := by
  have hc : ckd b n (a : Int) = match kd ((b a : Nat) : Int) with
      | none => none
      | some k => if (kB k : Int) ≤ (n : Int) - (a : Int) then some k else none := by
    unfold ckd
    rw [atZ_n ha]
    cases kd ((b a : Nat) : Int) <;> rfl
  unfold mtg
  rw [← cln_mLen hb]
  unfold tg cln
  rw [hc]
  cases hk : kd ((b a : Nat) : Int) with
  | none => rfl
  | some k =>
    obtain ⟨h1, h2, h3, h4, h5, h6, h7, h8⟩ := kd_some (hb _) hk
    by_cases hl : (kB k : Int) ≤ (n : Int) - (a : Int)
    · simp only [if_pos hl]
      have := kB_pos k
      rw [if_neg (by omega)]
      have c1 : (b a ≠ 1 ∧ b a ≠ 2 ∧ b a ≠ 80) ↔ fallsB k = true := h3.symm
      have c2 : (80 ≤ b a ∧ b a ≤ 85 ∧ (b a ≠ 81 ∨ cs = true)) ↔ (k = 7 ∨ k = 9 ∨ (k = 8 ∧ cs = true)) := by
        constructor
        · rintro ⟨q1, q2, q3⟩
          by_cases q : b a = 81
          · rcases q3 with q3 | q3
            · exact absurd q q3
            · exact Or.inr (Or.inr ⟨h6.mpr q, q3⟩)
          · rcases h5.mpr ⟨q1, q2, q⟩ with w | w
            · exact Or.inl w
            · exact Or.inr (Or.inl w)
        · rintro (w | w | ⟨w, w2⟩)
          · have := h5.mp (Or.inl w)
            exact ⟨this.1, this.2.1, Or.inl this.2.2⟩
          · have := h5.mp (Or.inr w)
            exact ⟨this.1, this.2.1, Or.inl this.2.2⟩
          · have := h6.mp w
            exact ⟨by omega, by omega, Or.inr w2⟩
      have c3 : (96 ≤ b a ∧ b a ≤ 99) ↔ k = 10 := h4.symm
      simp only [c1, c2, c3]
      by_cases w : k = 10
      · subst w
        have h10 : ¬ (10 = 7 ∨ 10 = 9 ∨ (10 = 8 ∧ cs = true)) := by simp
        simp only [if_neg h10, if_true, List.append_nil]
        rfl
      · rw [if_neg w, if_neg w]
        by_cases j : k = 7 ∨ k = 9 ∨ (k = 8 ∧ cs = true)
        · have hnum : num b a k = mfw b a := by
            rcases j with rfl | rfl | ⟨rfl, -⟩ <;> rfl
          rw [if_pos j, if_pos j, hnum, List.append_nil, List.append_nil]
        · rw [if_neg j, if_neg j]
    · simp only [if_neg hl]
      rfl

/-! sweep -/
def swF (b : Nat → Nat) (n : Nat) : Nat → Nat → Nat → Nat
  | 0, _, c => c
  | j + 1, a, c => if a < n then swF b n j (a + max 1 (cln b n (a : Int))) (if 0 < cln b n (a : Int) then c + 1 else c) else c
def msw (b : Nat → Nat) (n : Nat) : Nat → Nat → Nat → Nat → Nat
  | 0, _, _, c => c
  | j + 1, a, sk, c => if 0 < sk then msw b n j (a + 1) (sk - 1) c else if 0 < mLen b n (a : Int) then msw b n j (a + 1) (mLen b n (a : Int) - 1) (c + 1) else msw b n j (a + 1) 0 c
theorem cln_le {b : Nat → Nat} {n a : Nat} (ha : a < n) : a + cln b n (a : Int) ≤ n := by
  unfold cln ckd
  cases kd (atZ b n (a : Int)) with
  | none => simp; omega
  | some k =>
    simp only
    by_cases h : (kB k : Int) ≤ (n : Int) - (a : Int)
    · simp only [if_pos h]
      omega
    · simp only [if_neg h]
      omega
theorem sw_same {b : Nat → Nat} {n : Nat} (hb : ∀ i, b i < 256) : ∀ (j a sk c i : Nat), a + j = n → a + sk ≤ n → n < i + (a + sk) → msw b n j a sk c = swF b n i (a + sk) c := by
  intro j
  induction j with
  | zero =>
    intro a sk c i h1 h2 h3
    have e : a + sk = n := by omega
    rw [e]
    cases i with
    | zero => rfl
    | succ i =>
      simp only [swF]
      rw [if_neg (by omega)]
      rfl
  | succ j ih =>
    intro a sk c i h1 h2 h3
    simp only [msw]
    by_cases hs : 0 < sk
    · rw [if_pos hs, ih (a + 1) (sk - 1) c i (by omega) (by omega) (by omega)]
      congr 1
      omega
    · have e0 : sk = 0 := by omega
      subst e0
      rw [if_neg hs, ← cln_mLen hb]
      have hle := cln_le (b := b) (n := n) (a := a) (by omega)
      cases i with
      | zero => omega
      | succ i =>
        simp only [swF, Nat.add_zero]
        rw [if_pos (show a < n by omega)]
        by_cases hc : 0 < cln b n (a : Int)
        · rw [if_pos hc, if_pos hc, ih (a + 1) (cln b n (a : Int) - 1) (c + 1) i (by omega) (by omega) (by omega)]
          congr 1
          omega
        · rw [if_neg hc, if_neg hc, ih (a + 1) 0 c i (by omega) (by omega) (by omega)]
          congr 1
          omega
/-! list -/
def lk (b : Nat → Nat) (n : Nat) (m : Nat → Bool) (a : Nat) : Option Nat := if m a = true then ckd b n (a : Int) else none
def lsz (b : Nat → Nat) (n : Nat) (m : Nat → Bool) (a : Nat) : Nat := match lk b n m a with
  | none => 1
  | some k => kB k
def lsL (b : Nat → Nat) (n : Nat) (m : Nat → Bool) (a : Nat) : List Nat := match lk b n m a with
  | none => lnL 13 0 (b a : Int)
  | some k => lnL k (b a - kF k) (num b a k)
def liF (b : Nat → Nat) (n : Nat) (m : Nat → Bool) : Nat → Nat → txT → txT
  | 0, _, s => s
  | j + 1, a, s => if a < n then liF b n m j (a + max 1 (lsz b n m a)) (ap s (lsL b n m a)) else s
def mnu (v : Int) : List Nat := (if v < 0 then [45] else []) ++ ((if 9999 < v.natAbs then [48 + v.natAbs / 10000] else []) ++ ((if 999 < v.natAbs then [48 + v.natAbs / 1000 % 10] else []) ++ ((if 99 < v.natAbs then [48 + v.natAbs / 100 % 10] else []) ++ ((if 9 < v.natAbs then [48 + v.natAbs / 10 % 10] else []) ++ [48 + v.natAbs % 10]))))
theorem mnu_nuL {v : Int} (h1 : -65536 ≤ v) (h2 : v ≤ 65536) : mnu v = nuL v := by
  have hu : v.natAbs ≤ 65536 := by omega
  unfold mnu nuL
  congr 1
  generalize v.natAbs = u at hu
  show _ = dgL u 10000 ++ (dgL u 1000 ++ (dgL u 100 ++ (dgL u 10 ++ (dgL u 1 ++ []))))
  unfold dgL
  have e5 : u / 10000 % 10 = u / 10000 := by omega
  have e1 : u / 1 % 10 = u % 10 := by omega
  rw [e5, e1, if_pos (Or.inr rfl : 1 ≤ u ∨ 1 = 1)]
  have p (k m : Nat) (hk : k = m + 1) (hm : 1 ≤ m) : (k ≤ u ∨ k = 1) ↔ m < u := by omega
  simp only [p 10000 9999 rfl (by decide), p 1000 999 rfl (by decide), p 100 99 rfl (by decide), p 10 9 rfl (by decide), List.append_nil]
def nmL (a b c : Nat) : List Nat := [a, b] ++ (if 0 < c then [c] else [])
def rgM (r : Nat) : List Nat := [114, 48 + r]
def frL (f : Nat) : List Nat := if f / 16 = 0 then ((if f = 0 then [78, 79, 80] else []) ++ (if f = 1 then [72, 65, 76, 84] else []) ++ (if f = 2 then [82, 69, 84] else [])) else
  (if f / 16 = 1 then [73, 78, 67] else []) ++ (if f / 16 = 2 then [76, 68, 73] else []) ++ (if f / 16 = 3 then [77, 79, 86] else []) ++ (if f / 16 = 4 then [65, 68, 68] else []) ++ (if f = 80 then [74, 77, 80] else []) ++ (if f = 81 then [67, 65, 76, 76] else []) ++ (if 82 ≤ f ∧ f ≤ 85 then [74, 90] else []) ++ (if f / 16 = 6 then [66, 78, 90] else []) ++ (if 112 ≤ f ∧ f ≤ 115 then [76, 68] else []) ++ (if 116 ≤ f then [83, 84] else []) ++ [32] ++ (if f / 16 = 3 ∨ f / 16 = 4 then [114, 48 + f / 4 % 4, 44] else []) ++ (if 82 ≤ f ∧ f ≤ 85 then [114, 48 + (f - 82)] else if f / 16 = 5 then [] else [114, 48 + f % 4]) ++ (if 1 < lgO f ∧ f ≠ 80 ∧ f ≠ 81 then [44] else [])
def prL (f : Nat) (v : Int) : List Nat := frL f ++ (if 1 < lgO f then mnu v else [])
def daL (u : Nat) : List Nat := [46, 98, 121, 116, 101, 32] ++ mnu (u : Int)
def frOk (f : Nat) : Bool := match kd (f : Int) with
  | none => true
  | some k => decide (frL f = opL k ++ rgL k (f - kF k) ++ (if kN k = 0 then [] else cmL (kR k)) ∧ (1 < lgO f ↔ kN k ≠ 0) ∧ f - kF k < kC k ∧ f < 120)
theorem fr_all : ∀ f, f < 256 → frOk f = true := by decide +kernel
theorem fr_some {f k : Nat} (hf : f < 256) (h : kd (f : Int) = some k) : frL f = opL k ++ rgL k (f - kF k) ++ (if kN k = 0 then [] else cmL (kR k)) ∧ (1 < lgO f ↔ kN k ≠ 0) ∧ f - kF k < kC k ∧ f < 120 := by
  have := fr_all f hf
  unfold frOk at this
  rw [h] at this
  exact of_decide_eq_true this
theorem prL_lnL {f k : Nat} {v : Int} (hf : f < 256) (h : kd (f : Int) = some k) (h1 : -65536 ≤ v) (h2 : v ≤ 65536) : prL f v ++ [10] = lnL k (f - kF k) v := by
  obtain ⟨e1, e2, -⟩ := fr_some hf h
  unfold prL lnL
  rw [e1, mnu_nuL h1 h2]
  by_cases hk : kN k = 0
  · rw [if_pos hk, if_pos hk, if_neg (fun q => (e2.mp q) hk)]
    simp
  · rw [if_neg hk, if_neg hk, if_pos (e2.mpr hk)]
    simp
theorem daL_lnL {u : Nat} (hu : u < 256) : daL u ++ [10] = lnL 13 0 (u : Int) := by
  unfold daL
  rw [mnu_nuL (by omega) (by omega)]
  rfl
