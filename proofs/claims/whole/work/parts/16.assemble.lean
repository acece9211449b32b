/-! assemble: what the reference finds by trying is what the class reads -/
def unD (t : Nat → Nat) (n p : Nat) : Nat → Nat → Option Nat
  | 0, _ => none
  | j + 1, u => if mL t n p (daL u ++ [10]) = true then some u else unD t n p j (u + 1)
def unV (t : Nat → Nat) (n p f : Nat) : Nat → Int → Option Int
  | 0, _ => none
  | j + 1, v => if mL t n p (prL f v ++ [10]) = true then some v else unV t n p f j (v + 1)
def leV (f : Nat) : Int := if 96 ≤ f ∧ f ≤ 99 then -128 else 0
def moV (f : Nat) : Int := if lgO f = 3 then 65535 else if 96 ≤ f then 127 else 255
def unO (t : Nat → Nat) (n p f : Nat) : Option Int := if lgO f = 0 then none else if lgO f = 1 then (if mL t n p (frL f ++ [10]) = true then some 0 else none) else if mL t n p (frL f) = true then unV t n p f (moV f - leV f + 1).toNat (leV f) else none
def unF (t : Nat → Nat) (n p : Nat) : Nat → Nat → Option (Nat × Int)
  | 0, _ => none
  | j + 1, f => match unO t n p f with
    | some v => some (f, v)
    | none => unF t n p j (f + 1)
def und (t : Nat → Nat) (n p : Nat) : Option (Nat × Int) := match unD t n p 256 0 with
  | some u => some (300, (u : Int))
  | none => unF t n p 120 0
theorem unD_none {t : Nat → Nat} {n p : Nat} : ∀ (j u : Nat), unD t n p j u = none → ∀ w, u ≤ w → w < u + j → ¬ mL t n p (daL w ++ [10]) = true := by
  intro j
  induction j with
  | zero => intro u _ w h1 h2; omega
  | succ j ih =>
    intro u h w h1 h2
    simp only [unD] at h
    by_cases q : mL t n p (daL u ++ [10]) = true
    · rw [if_pos q] at h
      cases h
    · rw [if_neg q] at h
      by_cases e : w = u
      · rw [e]; exact q
      · exact ih (u + 1) h w (by omega) (by omega)
theorem unD_some {t : Nat → Nat} {n p : Nat} : ∀ (j u w : Nat), unD t n p j u = some w → u ≤ w ∧ w < u + j ∧ mL t n p (daL w ++ [10]) = true := by
  intro j
  induction j with
  | zero => intro u w h; cases h
  | succ j ih =>
    intro u w h
    simp only [unD] at h
    by_cases q : mL t n p (daL u ++ [10]) = true
    · rw [if_pos q] at h
      cases h
      exact ⟨Nat.le_refl _, by omega, q⟩
    · rw [if_neg q] at h
      obtain ⟨a, b, c⟩ := ih (u + 1) w h
      exact ⟨by omega, by omega, c⟩
theorem unV_none {t : Nat → Nat} {n p f : Nat} : ∀ (j : Nat) (u : Int), unV t n p f j u = none → ∀ w, u ≤ w → w < u + j → ¬ mL t n p (prL f w ++ [10]) = true := by
  intro j
  induction j with
  | zero => intro u _ w h1 h2; omega
  | succ j ih =>
    intro u h w h1 h2
    simp only [unV] at h
    by_cases q : mL t n p (prL f u ++ [10]) = true
    · rw [if_pos q] at h
      cases h
    · rw [if_neg q] at h
      by_cases e : w = u
      · rw [e]; exact q
      · exact ih (u + 1) h w (by omega) (by omega)
theorem unV_some {t : Nat → Nat} {n p f : Nat} : ∀ (j : Nat) (u w : Int), unV t n p f j u = some w → u ≤ w ∧ w < u + j ∧ mL t n p (prL f w ++ [10]) = true := by
  intro j
  induction j with
  | zero => intro u w h; cases h
  | succ j ih =>
    intro u w h
    simp only [unV] at h
    by_cases q : mL t n p (prL f u ++ [10]) = true
    · rw [if_pos q] at h
      cases h
      exact ⟨Int.le_refl _, by omega, q⟩
    · rw [if_neg q] at h
      obtain ⟨a, b, c⟩ := ih (u + 1) w h
      exact ⟨by omega, by omega, c⟩
theorem unF_none {t : Nat → Nat} {n p : Nat} : ∀ (j f : Nat), unF t n p j f = none → ∀ w, f ≤ w → w < f + j → unO t n p w = none := by
  intro j
  induction j with
  | zero => intro u _ w h1 h2; omega
  | succ j ih =>
    intro f h w h1 h2
    simp only [unF] at h
    cases q : unO t n p f with
    | some v => rw [q] at h; cases h
    | none =>
      rw [q] at h
      by_cases e : w = f
      · rw [e]; exact q
      · exact ih (f + 1) h w (by omega) (by omega)
theorem unF_some {t : Nat → Nat} {n p : Nat} : ∀ (j f : Nat) (w : Nat × Int), unF t n p j f = some w → w.1 < f + j ∧ unO t n p w.1 = some w.2 := by
  intro j
  induction j with
  | zero => intro f w h; cases h
  | succ j ih =>
    intro f w h
    simp only [unF] at h
    cases q : unO t n p f with
    | some v =>
      rw [q] at h
      cases h
      exact ⟨by show f < _; omega, q⟩
    | none =>
      rw [q] at h
      obtain ⟨a, b⟩ := ih (f + 1) w h
      exact ⟨by omega, b⟩
/-- each kind's first bytes, and the bounds of its number as the reference has them -/
theorem kf_all : ∀ k, k < 13 → ∀ g, g < kC k → kd ((kF k + g : Nat) : Int) = some k ∧ kF k + g < 120 ∧ lgO (kF k + g) = kB k ∧ (kN k ≠ 0 → leV (kF k + g) = loN (kN k) ∧ moV (kF k + g) = hiN (kN k)) ∧ (kN k = 0 ↔ kB k = 1) := by decide +kernel
theorem und_none {t : Nat → Nat} {n p : Nat} (h : und t n p = none) {k g : Nat} {v : Int} (ok : okL k g v) : ¬ mL t n p (lnL k g v) = true := by
  unfold und at h
  cases hD : unD t n p 256 0 with
  | some u => rw [hD] at h; cases h
  | none =>
    rw [hD] at h
    simp only at h
    obtain ⟨o1, o2, o3, o4⟩ := ok
    by_cases hk : k = 13
    · subst hk
      have hg : g < 1 := o2
      have hv := o4 (by decide)
      have e1 : loN (kN 13) = 0 := rfl
      have e2 : hiN (kN 13) = 255 := rfl
      have hg0 : g = 0 := by omega
      subst hg0
      have := unD_none 256 0 hD v.toNat (Nat.zero_le _) (by omega)
      rw [daL_lnL (by omega), Int.toNat_of_nonneg (by omega)] at this
      exact this
    · obtain ⟨a1, a2, a3, a4, a5⟩ := kf_all k (by omega) g o2
      have hf := unF_none 120 0 h (kF k + g) (Nat.zero_le _) (by omega)
      have hl := loN_hiN (kN k)
      have eg : kF k + g - kF k = g := by omega
      intro hm
      unfold unO at hf
      have hp := kB_pos k
      rw [a3, if_neg (by omega)] at hf
      by_cases hN : kN k = 0
      · have hv0 := o3 hN
        rw [if_pos (a5.mp hN)] at hf
        have e := prL_lnL (v := v) (show kF k + g < 256 by omega) a1 (by omega) (by omega)
        rw [eg] at e
        unfold prL at e
        rw [a3, if_neg (by rw [a5.mp hN]; decide), List.append_nil] at e
        rw [e, if_pos hm] at hf
        cases hf
      · obtain ⟨q1, q2⟩ := o4 hN
        have e := prL_lnL (v := v) (show kF k + g < 256 by omega) a1 (by omega) (by omega)
        rw [eg] at e
        rw [if_neg (fun z => hN (a5.mpr z))] at hf
        have hm2 := hm
        rw [← e] at hm2
        unfold prL at hm2
        rw [mL_app, mL_app] at hm2
        rw [if_pos hm2.1.1] at hf
        have := unV_none _ _ hf v (by rw [(a4 hN).1]; exact q1) (by rw [(a4 hN).1, (a4 hN).2]; omega)
        rw [e] at this
        exact this hm
theorem und_some {t : Nat → Nat} {n p f : Nat} {v : Int} (h : und t n p = some (f, v)) : (f = 300 ∧ okL 13 0 v ∧ mL t n p (lnL 13 0 v) = true ∧ lnL 13 0 v = daL v.toNat ++ [10]) ∨ (f < 120 ∧ ∃ k, k < 13 ∧ kd (f : Int) = some k ∧ okL k (f - kF k) v ∧ mL t n p (lnL k (f - kF k) v) = true ∧ lnL k (f - kF k) v = prL f v ++ [10] ∧ kF k + (f - kF k) = f) := by
  unfold und at h
  cases hD : unD t n p 256 0 with
  | some u =>
    rw [hD] at h
    cases h
    obtain ⟨-, a2, a3⟩ := unD_some 256 0 u hD
    have e := daL_lnL (u := u) (by omega)
    rw [e] at a3
    refine Or.inl ⟨rfl, ⟨by decide, by decide, fun z => absurd z (by decide), fun _ => ?_⟩, a3, ?_⟩
    · have e1 : loN (kN 13) = 0 := rfl
      have e2 : hiN (kN 13) = 255 := rfl
      omega
    · rw [Int.toNat_natCast]
      exact e.symm
  | none =>
    rw [hD] at h
    simp only at h
    obtain ⟨a1, a2⟩ := unF_some 120 0 (f, v) h
    simp only at a1 a2
    right
    refine ⟨by omega, ?_⟩
    cases hk : kd (f : Int) with
    | none =>
      have := kd_none (show f < 256 by omega) hk
      unfold unO at a2
      rw [this] at a2
      cases a2
    | some k =>
      obtain ⟨k1, k2, -, -, -, -, k7, k8⟩ := kd_some (show f < 256 by omega) hk
      obtain ⟨b1, b2, b3, b4, b5⟩ := kf_all k k1 (f - kF k) (by omega)
      have ef : kF k + (f - kF k) = f := by omega
      rw [ef] at b1 b2 b3 b4
      have hl := loN_hiN (kN k)
      have hp := kB_pos k
      unfold unO at a2
      rw [b3, if_neg (by omega)] at a2
      by_cases hN : kN k = 0
      · rw [if_pos (b5.mp hN)] at a2
        by_cases q : mL t n p (frL f ++ [10]) = true
        · rw [if_pos q] at a2
          cases a2
          have e := prL_lnL (v := 0) (show f < 256 by omega) hk (by omega) (by omega)
          have e2 : prL f 0 = frL f := by
            unfold prL
            rw [b3, if_neg (by rw [b5.mp hN]; decide), List.append_nil]
          refine ⟨k, k1, rfl, ⟨by omega, by omega, fun _ => rfl, fun z => absurd hN z⟩, ?_, e.symm, ef⟩
          rw [← e, e2]
          exact q
        · rw [if_neg q] at a2
          cases a2
      · rw [if_neg (fun z => hN (b5.mpr z))] at a2
        by_cases q : mL t n p (frL f) = true
        · rw [if_pos q] at a2
          obtain ⟨c1, c2, c3⟩ := unV_some _ _ _ a2
          rw [(b4 hN).1] at c1 c2
          rw [(b4 hN).2] at c2
          have e := prL_lnL (v := v) (show f < 256 by omega) hk (by omega) (by omega)
          rw [e] at c3
          exact ⟨k, k1, rfl, ⟨by omega, by omega, fun z => absurd z hN, fun _ => ⟨c1, by omega⟩⟩, c3, e.symm, ef⟩
        · rw [if_neg q] at a2
          cases a2
def mll (f : Nat) (v : Int) : Nat := if f = 300 then (daL v.toNat).length else (prL f v).length
def mab (f : Nat) (v : Int) : List Int32 := if f = 300 then [iI v] else if lgO f = 1 then [nI f] else if lgO f = 3 then [nI f, iI (v / 256), iI v &&& 255] else [nI f, iI v &&& 255]
def masF (t : Nat → Nat) (n : Nat) : Nat → Nat → abT → Option abT
  | 0, _, s => some s
  | j + 1, p, s => if p < n then (match und t n p with
    | none => none
    | some w => masF t n j (p + mll w.1 w.2 + 1) ((mab w.1 w.2).foldl adB s)) else some s
def Ag (s s' : abT) : Prop := s.2 = s'.2 ∧ ∀ i, i < s.2 → i < 160 → s.1 i = s'.1 i
theorem adB_ag {s s' : abT} (h : Ag s s') (x : Int32) : Ag (adB s x) (adB s' x) := by
  obtain ⟨h1, h2⟩ := h
  unfold adB
  refine ⟨by show s.2 + 1 = s'.2 + 1; rw [h1], ?_⟩
  intro i hi hi2
  have hi : i < s.2 + 1 := hi
  show (if s.2 < 160 then upd s.1 s.2 x else s.1) i = (if s'.2 < 160 then upd s'.1 s'.2 x else s'.1) i
  rw [← h1]
  by_cases q : s.2 < 160
  · rw [if_pos q, if_pos q]
    by_cases e : i = s.2
    · rw [e, pk_us, pk_us]
    · rw [pk_un e, pk_un e]
      exact h2 i (by omega) hi2
  · rw [if_neg q, if_neg q]
    exact h2 i (by omega) hi2
theorem adBl_ag : ∀ (l : List Int32) (s s' : abT), Ag s s' → Ag (l.foldl adB s) (l.foldl adB s') := by
  intro l
  induction l with
  | nil => exact fun _ _ h => h
  | cons x l ih => exact fun s s' h => ih _ _ (adB_ag h x)
theorem iI_and {v : Int} (h1 : 0 ≤ v) (h2 : v < 256) : iI v &&& 255 = iI v := by
  obtain ⟨n, rfl⟩ := Int.eq_ofNat_of_zero_le h1
  rw [← nI_iI, pk_andN (n := n) (by omega) 8 (by decide)]
  congr 1
  omega
theorem iI_shr8 {v : Int} (h1 : 0 ≤ v) (h2 : v < 65536) : iI v >>> ((8 : Int32) &&& 31) = iI (v / 256) := by
  obtain ⟨n, rfl⟩ := Int.eq_ofNat_of_zero_le h1
  rw [← nI_iI, pk_shrN (n := n) (by omega) _ 8 (by decide)]
  have e : ((n : Nat) : Int) / 256 = ((n / 2 ^ 8 : Nat) : Int) := by omega
  rw [e, ← nI_iI]
theorem mab_adBs {f k : Nat} {v : Int} (hf : f < 120) (hk : k < 13) (hkd : kd (f : Int) = some k) (ok : okL k (f - kF k) v) (ef : kF k + (f - kF k) = f) (s : abT) : (mab f v).foldl adB s = adBs k (f - kF k) v s := by
  obtain ⟨-, k2, -⟩ := kd_some (show f < 256 by omega) hkd
  obtain ⟨o1, o2, o3, o4⟩ := ok
  unfold mab adBs
  rw [if_neg (show ¬ f = 300 by omega), ← k2, ef, if_neg (show ¬ k = 13 by omega)]
  rcases kn_all k hk with ⟨e1, e2⟩ | ⟨e1, e2, e3⟩ | ⟨e1, e2, e3⟩ | ⟨e1, e2⟩
  · rw [e1, e2]
    rfl
  · rw [e1, e2]
    rfl
  · rw [e1, e2]
    rfl
  · have hv := o4 (by rw [e1]; decide)
    rw [e1] at hv
    have l1 : loN 3 = 0 := rfl
    have l2 : hiN 3 = 65535 := rfl
    rw [e1, e2, iI_shr8 (by omega) (by omega)]
    rfl
/-- the class's reading and the reference's trying, round by round -/
theorem as_same {t : Nat → Nat} {n : Nat} : ∀ (j p : Nat) (s s' : abT), Ag s s' → match masF t n j p s' with
    | none => (rdF t n j (p, true) s).1.2 = false
    | some w => (rdF t n j (p, true) s).1.2 = true ∧ Ag (rdF t n j (p, true) s).2 w := by
  intro j
  induction j with
  | zero => intro p s s' h; exact ⟨rfl, h⟩
  | succ j ih =>
    intro p s s' h
    simp only [masF, rdF]
    by_cases hp : p < n
    · rw [if_pos hp, if_pos ⟨trivial, hp⟩]
      have stop : ∀ (r : rdT) (s : abT), r.2 = false → (rdF t n j r s).1.2 = false := by
        intro r s hr
        cases j with
        | zero => exact hr
        | succ j =>
          simp only [rdF]
          rw [if_neg (fun z => by rw [hr] at z; cases z.1)]
          exact hr
      cases hu : und t n p with
      | none =>
        simp only
        refine stop _ _ ?_
        cases hr : (rdLr t n (p, true)).2 with
        | false => rfl
        | true =>
          obtain ⟨k, g, v, ok, hm, -⟩ := line_true hr
          exact absurd hm (und_none hu ok)
      | some w =>
        obtain ⟨f, v⟩ := w
        simp only
        rcases und_some hu with ⟨rfl, ok, hm, hl⟩ | ⟨hf, k, hk, hkd, ok, hm, hl, ef⟩
        · obtain ⟨e1, e2⟩ := line_of ok hm
          rw [e1, e2, hl]
          have ev : adBs 13 0 v s = [iI v].foldl adB s := by
            have hv := ok.2.2.2 (by decide)
            have l1 : loN (kN 13) = 0 := rfl
            have l2 : hiN (kN 13) = 255 := rfl
            show adB s (iI v &&& 255) = adB s (iI v)
            rw [iI_and (by omega) (by omega)]
          rw [ev]
          have em : mab 300 v = [iI v] := rfl
          have ell : p + (daL v.toNat ++ [10]).length = p + mll 300 v + 1 := by
            rw [List.length_append]
            rfl
          rw [ell, em]
          exact ih _ _ _ (adBl_ag _ _ _ h)
        · obtain ⟨e1, e2⟩ := line_of ok hm
          rw [e1, e2, hl, ← mab_adBs hf hk hkd ok ef]
          have ell : p + (prL f v ++ [10]).length = p + mll f v + 1 := by
            unfold mll
            rw [if_neg (show ¬ f = 300 by omega), List.length_append]
            rfl
          rw [ell]
          exact ih _ _ _ (adBl_ag _ _ _ h)
    · rw [if_neg hp, if_neg (fun z => hp z.2)]
      exact ⟨rfl, h⟩
