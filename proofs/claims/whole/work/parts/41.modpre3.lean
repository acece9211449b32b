theorem mlk_in {b : Nat → Nat} {n a : Nat} {m : Nat → Bool} (h : a < n) : mlk b n m a ≤ 3 ∧ a + mlk b n m a ≤ n := by
  unfold mlk
  split
  · exact mLen_in h
  · omega
theorem mlk_f {b : Nat → Nat} {n a : Nat} {m : Nat → Bool} (h : a < n) (h0 : ¬ mlk b n m a = 0) : b a < 120 := by
  unfold mlk at h0
  by_cases q : m a = true
  · rw [if_pos q] at h0
    have := mLen_l h h0
    rw [this] at h0
    unfold lgO at h0
    by_cases w : 119 < b a
    · rw [if_pos w] at h0
      exact absurd rfl h0
    · omega
  · rw [if_neg q] at h0
    exact absurd rfl h0
theorem msec_lt {b : Nat → Nat} {a k : Nat} (hb : ∀ i, b i < 256) : msec b a k < 256 := by
  unfold msec
  split
  · exact hb _
  · omega
theorem mnm_in {b : Nat → Nat} {a k : Nat} (hb : ∀ i, b i < 256) : -128 ≤ mnm b a k ∧ mnm b a k ≤ 65535 := by
  have h1 := msec_lt (a := a) (k := k) hb
  have h2 := hb (a + 2)
  have h3 := sx8_in h1
  unfold mnm
  split
  · omega
  · split <;> omega
theorem mlL_len {b : Nat → Nat} {n a : Nat} {m : Nat → Bool} (hb : ∀ i, b i < 256) (ha : a < n) : (mlL b n m a).length ≤ 10 * (1 + (mlk b n m a - 1)) ∧ a + 1 + (mlk b n m a - 1) ≤ n := by
  obtain ⟨h1, h2, h3⟩ := mlL_lsL (m := m) hb ha
  have h4 := lsL_len (m := m) hb ha
  rw [h1]
  exact ⟨by omega, h3⟩
theorem ln_get {L : txT} {l : List Nat} {i : Nat} (h : i < l.length + 1) : (ap1 (ap (dr L) l) 10).1 i = (l ++ [10]).getD i 0 := by
  have e : ap1 (ap (dr L) l) 10 = ap (dr L) (l ++ [10]) := by
    rw [ap_app]
    rfl
  rw [e]
  have q := (ap_get (l ++ [10]) (dr L) i).2 (by simp; omega)
  have e2 : (dr L).2 + i = i := by show 0 + i = i; omega
  rw [e2] at q
  exact q
def maR (o : Option abT) : Int := match o with
  | none => -1
  | some w => if 160 < w.2 then -2 else (w.2 : Int)
def maK (o : Option abT) (mk : Nat) : Nat := match o with
  | none => mk
  | some w => if w.2 ≤ 160 then w.2 else mk
def maM (o : Option abT) (md : Nat → Int32) : Nat → Int32 := match o with
  | none => md
  | some w => if w.2 ≤ 160 then va_cpy w.1 md 0 0 w.2 else md
theorem mab_300 {f : Nat} {v : Int} (h : f = 300) : mab f v = [iI v] := by
  unfold mab
  rw [if_pos h]
theorem mab_1 {f : Nat} {v : Int} (h : f < 120) (h1 : lgO f = 1) : mab f v = [nI f] := by
  unfold mab
  rw [if_neg (by omega), if_pos h1]
theorem mab_2 {f : Nat} {v : Int} (h : f < 120) (h1 : lgO f = 2) : mab f v = [nI f, iI v &&& 255] := by
  unfold mab
  rw [if_neg (by omega), if_neg (by omega), if_neg (by omega)]
theorem mab_3 {f : Nat} {v : Int} (h : f < 120) (h1 : lgO f = 3) : mab f v = [nI f, iI (v / 256), iI v &&& 255] := by
  unfold mab
  rw [if_neg (by omega), if_neg (by omega), if_pos h1]
theorem und_in {t : Nat → Nat} {n p f : Nat} {v : Int} (hp : p ≤ n) (h : und t n p = some (f, v)) : (f = 300 ∨ (f < 120 ∧ 1 ≤ lgO f)) ∧ (-128 ≤ v ∧ v ≤ 65535) ∧ (f < 120 → lgO f = 3 → 0 ≤ v) ∧ p + mll f v + 1 ≤ n := by
  rcases und_some h with ⟨rfl, ok, hm, hl⟩ | ⟨hf, k, hk, hkd, ok, hm, hl, ef⟩
  · have hv := ok.2.2.2 (by decide)
    have l1 : loN (kN 13) = 0 := rfl
    have l2 : hiN (kN 13) = 255 := rfl
    have hle := mL_le _ _ hp hm
    rw [hl, List.length_append] at hle
    have e : mll 300 v = (daL v.toNat).length := rfl
    rw [e]
    have e1 : ([10] : List Nat).length = 1 := rfl
    exact ⟨Or.inl rfl, by omega, fun q => absurd q (by decide), by omega⟩
  · obtain ⟨-, k2, -⟩ := kd_some (show f < 256 by omega) hkd
    have hB := kB_pos k
    have hle := mL_le _ _ hp hm
    rw [hl, List.length_append] at hle
    have e1 : ([10] : List Nat).length = 1 := rfl
    have hlh := loN_hiN (kN k)
    have hv : -128 ≤ v ∧ v ≤ 65535 := by
      by_cases q : kN k = 0
      · have := ok.2.2.1 q
        omega
      · have := ok.2.2.2 q
        omega
    refine ⟨Or.inr ⟨hf, by omega⟩, hv, fun _ h3 => ?_, by rw [mll_P hf]; omega⟩
    rcases kn_all k hk with ⟨q1, q2⟩ | ⟨q1, q2, q3⟩ | ⟨q1, q2, q3⟩ | ⟨q1, q2⟩
    · omega
    · omega
    · omega
    · have := ok.2.2.2 (by rw [q1]; decide)
      rw [q1] at this
      have l1 : loN 3 = 0 := rfl
      omega
theorem mab_len {f : Nat} {v : Int} (h : f = 300 ∨ (f < 120 ∧ 1 ≤ lgO f)) : (mab f v).length ≤ 3 ∧ (f = 300 → (mab f v).length = 1) ∧ (f < 120 → (mab f v).length = lgO f) := by
  have hl := lgO_le f
  rcases h with h | ⟨h, h1⟩
  · rw [mab_300 h]
    exact ⟨Nat.le_of_ble_eq_true rfl, fun _ => rfl, fun q => by omega⟩
  · rcases (show lgO f = 1 ∨ lgO f = 2 ∨ lgO f = 3 by omega) with e | e | e
    · rw [mab_1 h e, e]
      exact ⟨Nat.le_of_ble_eq_true rfl, fun _ => rfl, fun _ => rfl⟩
    · rw [mab_2 h e, e]
      exact ⟨Nat.le_of_ble_eq_true rfl, fun q => by omega, fun _ => rfl⟩
    · rw [mab_3 h e, e]
      exact ⟨Nat.le_of_ble_eq_true rfl, fun q => by omega, fun _ => rfl⟩
theorem mab_at0 {f : Nat} {v : Int} (h : f < 120) (h1 : 1 ≤ lgO f) : (mab f v).getD 0 0 = nI f := by
  have hl := lgO_le f
  rcases (show lgO f = 1 ∨ lgO f = 2 ∨ lgO f = 3 by omega) with e | e | e
  · rw [mab_1 h e]; rfl
  · rw [mab_2 h e]; rfl
  · rw [mab_3 h e]; rfl
theorem mab_at1 {f : Nat} {v : Int} (h : f < 120) (h1 : lgO f = 3) (h0 : 0 ≤ v) : (mab f v).getD 1 0 = nI (v.toNat / 256) := by
  rw [mab_3 h h1]
  show iI (v / 256) = _
  rw [nI_iI]
  congr 1
  omega
theorem mab_atl {f i : Nat} {v : Int} (h : f < 120) (h1 : 1 ≤ lgO f) (hi : 0 < i) (hi2 : i < lgO f) (h3 : ¬ (lgO f = 3 ∧ i = 1)) : (mab f v).getD i 0 = iI v &&& 255 := by
  have hl := lgO_le f
  rcases (show lgO f = 1 ∨ lgO f = 2 ∨ lgO f = 3 by omega) with e | e | e
  · omega
  · rw [mab_2 h e, show i = 1 by omega]; rfl
  · rw [mab_3 h e, show i = 2 by omega]; rfl
theorem drop_x {l : List Int32} {i : Nat} (h : i < l.length) : l.drop i = l.getD i 0 :: l.drop (i + 1) := by
  rw [List.drop_eq_getElem_cons h, List.getD_eq_getElem?_getD, List.getElem?_eq_getElem h]
  rfl
theorem cp_step {g f md : Nat → Int32} {i : Nat} (hg : ∀ x, g x = if x < i then f x else md x) : ∀ x, upd g i (f i) x = if x < i + 1 then f x else md x := by
  intro x
  by_cases e : x = i
  · rw [e, pk_us, if_pos (by omega)]
  · rw [pk_un e, hg]
    by_cases q : x < i
    · rw [if_pos q, if_pos (by omega)]
    · rw [if_neg q, if_neg (by omega)]
theorem cp_end {g f md : Nat → Int32} {i : Nat} (hg : ∀ x, g x = if x < i then f x else md x) : g = va_cpy f md 0 0 i := by
  funext x
  rw [hg]
  by_cases q : x < i
  · rw [if_pos q, pk_cpy_in (Nat.zero_le _) (by omega)]
    congr 1
    omega
  · rw [if_neg q, pk_cpy_out (Or.inr (by omega))]
