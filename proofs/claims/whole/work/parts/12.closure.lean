/-! Least closed sets: both ways of looking for them end at the same marks. -/
def cntB (m : Nat → Bool) : Nat → Nat
  | 0 => 0
  | n + 1 => cntB m n + (if m n = true then 1 else 0)
theorem cntB_le (m : Nat → Bool) (n : Nat) : cntB m n ≤ n := by
  induction n with
  | zero => exact Nat.le_refl _
  | succ n ih =>
    simp only [cntB]
    split <;> omega
theorem cntB_same {m m' : Nat → Bool} {n : Nat} (h : ∀ i, i < n → m i = m' i) : cntB m n = cntB m' n := by
  induction n with
  | zero => rfl
  | succ n ih =>
    simp only [cntB]
    rw [ih (fun i hi => h i (by omega)), h n (by omega)]
theorem updB_self (m : Nat → Bool) (x : Nat) (v : Bool) : updB m x v x = v := by simp [updB]
theorem updB_other {m : Nat → Bool} {x y : Nat} {v : Bool} (h : y ≠ x) : updB m x v y = m y := by simp [updB, h]
theorem cntB_upd (m : Nat → Bool) (x n : Nat) (hx : x < n) (h : m x = false) : cntB (updB m x true) n = cntB m n + 1 := by
  induction n with
  | zero => omega
  | succ n ih =>
    simp only [cntB]
    by_cases hn : x = n
    · subst hn
      rw [cntB_same (m := updB m x true) (m' := m) (fun i hi => updB_other (by omega)), updB_self, h]
      simp
    · rw [ih (by omega), updB_other (m := m) (x := x) (y := n) (by omega)]
      omega
theorem cntB_lt {m : Nat → Bool} {x n : Nat} (hx : x < n) (h : m x = false) : cntB m n < n := by
  have h1 := cntB_upd m x n hx h
  have h2 := cntB_le (updB m x true) n
  omega
theorem cntB_mono {m m' : Nat → Bool} {n : Nat} (h : ∀ i, m i = true → m' i = true) : cntB m n ≤ cntB m' n := by
  induction n with
  | zero => exact Nat.le_refl _
  | succ n ih =>
    simp only [cntB]
    by_cases hn : m n = true
    · rw [if_pos hn, if_pos (h n hn)]
      omega
    · rw [if_neg hn]
      split <;> omega
def Cl (T : Nat → List Int) (n : Nat) (E S : Nat → Prop) : Prop := (∀ x, E x → S x) ∧ ∀ a, S a → ∀ y ∈ T a, 0 ≤ y → y < (n : Int) → S y.toNat
def Least (T : Nat → List Int) (n : Nat) (E : Nat → Prop) (m : Nat → Bool) : Prop := Cl T n E (fun x => m x = true) ∧ ∀ S : Nat → Prop, Cl T n E S → ∀ x, m x = true → S x
theorem Least.same {T : Nat → List Int} {n : Nat} {E : Nat → Prop} {m m' : Nat → Bool} (h1 : Least T n E m) (h2 : Least T n E m') : m = m' := by
  funext x
  have a : m x = true → m' x = true := h1.2 _ h2.1 x
  have b : m' x = true → m x = true := h2.2 _ h1.1 x
  cases hm : m x with
  | true => exact (a hm).symm
  | false =>
    cases hm' : m' x with
    | true => rw [b hm'] at hm; cases hm
    | false => rfl
/-- what a walk's state keeps: k addresses are done -/
def Iv (T : Nat → List Int) (n : Nat) (E : Nat → Prop) (k : Nat) (s : wkT) : Prop :=
  (∀ x, s.2.1 x = true → x < n) ∧ (∀ i, i < s.2.2 → s.2.1 (s.1 i) = true) ∧ (∀ x, s.2.1 x = true → ∃ i, i < s.2.2 ∧ s.1 i = x) ∧ s.2.2 = cntB s.2.1 n ∧
  (∀ i, i < k → i < s.2.2 → ∀ y ∈ T (s.1 i), 0 ≤ y → y < (n : Int) → s.2.1 y.toNat = true) ∧ ∀ S : Nat → Prop, Cl T n E S → ∀ x, s.2.1 x = true → S x
/-- s' goes on from s -/
def Mo (s s' : wkT) : Prop := (∀ x, s.2.1 x = true → s'.2.1 x = true) ∧ (∀ i, i < s.2.2 → s'.1 i = s.1 i) ∧ s.2.2 ≤ s'.2.2
theorem Mo.rf (s : wkT) : Mo s s := ⟨fun _ h => h, fun _ _ => rfl, Nat.le_refl _⟩
theorem Mo.tr {s s' s2 : wkT} (h : Mo s s') (h' : Mo s' s2) : Mo s s2 := ⟨fun x q => h'.1 x (h.1 x q), fun i q => (h'.2.1 i (Nat.lt_of_lt_of_le q h.2.2)).trans (h.2.1 i q), Nat.le_trans h.2.2 h'.2.2⟩
theorem cm_iv {T : Nat → List Int} {n k : Nat} {E : Nat → Prop} {s : wkT} {y : Int} (hn : n ≤ 160) (h : Iv T n E k s) (hk : k ≤ s.2.2) (hy : ∀ S : Nat → Prop, Cl T n E S → 0 ≤ y → y < (n : Int) → S y.toNat) :
    Iv T n E k (cm n s y) ∧ Mo s (cm n s y) ∧ (0 ≤ y → y < (n : Int) → (cm n s y).2.1 y.toNat = true) := by
  obtain ⟨h1, h2, h3, h4, h5, h6⟩ := h
  by_cases hc : 0 ≤ y ∧ y < (n : Int) ∧ s.2.1 y.toNat = false ∧ s.2.2 < 160
  · obtain ⟨c1, c2, c3, c4⟩ := hc
    have hx : y.toNat < n := by omega
    have e : cm n s y = (updN s.1 s.2.2 y.toNat, updB s.2.1 y.toNat true, s.2.2 + 1) := if_pos ⟨c1, c2, c3, c4⟩
    rw [e]
    have mon : ∀ x, s.2.1 x = true → updB s.2.1 y.toNat true x = true := by
      intro x hx
      by_cases q : x = y.toNat
      · rw [q, updB_self]
      · rw [updB_other q]; exact hx
    have old : ∀ i, i < s.2.2 → updN s.1 s.2.2 y.toNat i = s.1 i := by
      intro i hi
      have q : i ≠ s.2.2 := by omega
      simp [updN, q]
    have new : updN s.1 s.2.2 y.toNat s.2.2 = y.toNat := by simp [updN]
    refine ⟨⟨?_, ?_, ?_, ?_, ?_, ?_⟩, ⟨mon, old, Nat.le_succ _⟩, fun _ _ => updB_self _ _ _⟩
    · intro x q
      by_cases hq : x = y.toNat
      · omega
      · exact h1 x (by rw [← updB_other (m := s.2.1) (v := true) hq]; exact q)
    · intro i hi
      by_cases q : i = s.2.2
      · subst q
        show updB s.2.1 y.toNat true (updN s.1 s.2.2 y.toNat s.2.2) = true
        rw [new, updB_self]
      · have hi' : i < s.2.2 + 1 := hi
        show updB s.2.1 y.toNat true (updN s.1 s.2.2 y.toNat i) = true
        rw [old i (by omega)]
        exact mon _ (h2 i (by omega))
    · intro x q
      by_cases hq : x = y.toNat
      · exact ⟨s.2.2, Nat.lt_succ_self _, by rw [hq]; exact new⟩
      · obtain ⟨i, g1, g2⟩ := h3 x (by rw [← updB_other (m := s.2.1) (v := true) hq]; exact q)
        exact ⟨i, Nat.lt_succ_of_lt g1, (old i g1).trans g2⟩
    · show s.2.2 + 1 = cntB (updB s.2.1 y.toNat true) n
      rw [cntB_upd _ _ _ hx c3, ← h4]
    · intro i hi hi2 y2 hy2 a1 a2
      have hi3 : i < s.2.2 := by omega
      have hy3 : y2 ∈ T (s.1 i) := by rw [← old i hi3]; exact hy2
      exact mon _ (h5 i hi hi3 y2 hy3 a1 a2)
    · intro S hS x q
      by_cases hq : x = y.toNat
      · rw [hq]; exact hy S hS c1 c2
      · exact h6 S hS x (by rw [← updB_other (m := s.2.1) (v := true) hq]; exact q)
  · have e : cm n s y = s := if_neg hc
    rw [e]
    refine ⟨⟨h1, h2, h3, h4, h5, h6⟩, Mo.rf s, fun c1 c2 => ?_⟩
    cases q : s.2.1 y.toNat with
    | true => rfl
    | false =>
      have := cntB_lt (n := n) (x := y.toNat) (by omega) q
      exact absurd ⟨c1, c2, q, by omega⟩ hc
theorem cms_iv {T : Nat → List Int} {n k : Nat} {E : Nat → Prop} (hn : n ≤ 160) : ∀ (L : List Int) (s : wkT), Iv T n E k s → k ≤ s.2.2 → (∀ y ∈ L, ∀ S : Nat → Prop, Cl T n E S → 0 ≤ y → y < (n : Int) → S y.toNat) →
    Iv T n E k (L.foldl (cm n) s) ∧ Mo s (L.foldl (cm n) s) ∧ ∀ y ∈ L, 0 ≤ y → y < (n : Int) → (L.foldl (cm n) s).2.1 y.toNat = true := by
  intro L
  induction L with
  | nil => exact fun s h _ _ => ⟨h, Mo.rf s, fun y hy => by cases hy⟩
  | cons y L ih =>
    intro s h hk hL
    obtain ⟨a1, a2, a3⟩ := cm_iv hn h hk (hL y List.mem_cons_self)
    obtain ⟨b1, b2, b3⟩ := ih (cm n s y) a1 (Nat.le_trans hk a2.2.2) (fun y2 h2 => hL y2 (List.mem_cons_of_mem _ h2))
    refine ⟨b1, a2.tr b2, fun y2 h2 c1 c2 => ?_⟩
    rcases List.mem_cons.mp h2 with rfl | h2
    · exact b2.1 _ (a3 c1 c2)
    · exact b3 y2 h2 c1 c2
def tg (b : Nat → Nat) (n : Nat) (cs : Bool) (a : Nat) : List Int := match ckd b n (a : Int) with
  | none => []
  | some k => (if fallsB k = true then [((a + kB k : Nat) : Int)] else []) ++ (if k = 10 then [((a + kB k : Nat) : Int) + num b a k] else []) ++ (if k = 7 ∨ k = 9 ∨ (k = 8 ∧ cs = true) then [num b a k] else [])
theorem foldl_one {α β : Type} (g : α → β → α) (s : α) (c : Prop) [Decidable c] (x : β) : (if c then [x] else []).foldl g s = if c then g s x else s := by
  by_cases h : c
  · rw [if_pos h, if_pos h]; rfl
  · rw [if_neg h, if_neg h]; rfl
theorem suc_tg (b : Nat → Nat) (n ad : Nat) (cs : Bool) (a : Nat) (s : wkT) : suc b n ad cs a s = (tg b n cs a).foldl (cm ad) s := by
  unfold suc tg
  cases ckd b n (a : Int) with
  | none => rfl
  | some k =>
    show suc3 b ad a k cs (suc2 b ad a k (suc1 b ad a k s)) = _
    rw [List.foldl_append, List.foldl_append, foldl_one, foldl_one, foldl_one]
    rfl
theorem fol_iv {b : Nat → Nat} {n : Nat} {cs : Bool} {E : Nat → Prop} (hn : n ≤ 160) : ∀ (j k : Nat) (s : wkT), j + k = 160 → k ≤ s.2.2 → Iv (tg b n cs) n E k s →
    Iv (tg b n cs) n E (fol b n n cs j k s).2.2 (fol b n n cs j k s) ∧ Mo s (fol b n n cs j k s) := by
  intro j
  induction j with
  | zero =>
    intro k s hk hc h
    have h4 := h.2.2.2.1
    have := cntB_le s.2.1 n
    have e : k = s.2.2 := by omega
    subst e
    exact ⟨h, Mo.rf s⟩
  | succ j ih =>
    intro k s hk hc h
    by_cases hlt : k < s.2.2
    · have e : fol b n n cs (j + 1) k s = fol b n n cs j (k + 1) (suc b n n cs (s.1 k) s) := if_pos hlt
      rw [e, suc_tg]
      obtain ⟨a1, a2, a3⟩ := cms_iv (T := tg b n cs) (n := n) (k := k) (E := E) hn (tg b n cs (s.1 k)) s h hc (fun y hy S hS c1 c2 => hS.2 _ (h.2.2.2.2.2 S hS _ (h.2.1 k hlt)) y hy c1 c2)
      generalize (tg b n cs (s.1 k)).foldl (cm n) s = s' at a1 a2 a3
      have hk1 : k + 1 ≤ s'.2.2 := Nat.le_trans hlt a2.2.2
      obtain ⟨b1, b2⟩ := ih (k + 1) s' (by omega) hk1 ⟨a1.1, a1.2.1, a1.2.2.1, a1.2.2.2.1, fun i hi hi2 y hy c1 c2 => by
        by_cases q : i = k
        · subst q
          rw [a2.2.1 i hlt] at hy
          exact a3 y hy c1 c2
        · exact a1.2.2.2.2.1 i (by omega) hi2 y hy c1 c2, a1.2.2.2.2.2⟩
      exact ⟨b1, a2.tr b2⟩
    · have e : fol b n n cs (j + 1) k s = s := if_neg hlt
      rw [e]
      have e2 : k = s.2.2 := by omega
      subst e2
      exact ⟨h, Mo.rf s⟩
theorem iv_least {T : Nat → List Int} {n : Nat} {E : Nat → Prop} {s : wkT} (h : Iv T n E s.2.2 s) (hE : ∀ x, E x → s.2.1 x = true) : Least T n E s.2.1 := by
  obtain ⟨h1, h2, h3, h4, h5, h6⟩ := h
  refine ⟨⟨hE, fun a ha y hy c1 c2 => ?_⟩, h6⟩
  obtain ⟨i, g1, g2⟩ := h3 a ha
  subst g2
  exact h5 i g1 g1 y hy c1 c2
theorem wk0_iv (T : Nat → List Int) (n : Nat) (E : Nat → Prop) (fd : Nat → Nat) : Iv T n E 0 (wk0 fd) := by
  have hc : cntB (fun _ => false) n = 0 := by
    induction n with
    | zero => rfl
    | succ n ih => simp [cntB, ih]
  exact ⟨fun x h => by simp [wk0] at h, fun i h => absurd h (Nat.not_lt_zero _), fun x h => by simp [wk0] at h, hc.symm, fun i h => absurd h (Nat.not_lt_zero _), fun S _ x h => by simp [wk0] at h⟩
/-- the class: from a list of starts -/
theorem cls_least {b : Nat → Nat} {n : Nat} {cs : Bool} (hn : n ≤ 160) (fd : Nat → Nat) (L : List Int) :
    Least (tg b n cs) n (fun x => (x : Int) ∈ L ∧ x < n) (fol b n n cs 160 0 (L.foldl (cm n) (wk0 fd))).2.1 ∧ (fol b n n cs 160 0 (L.foldl (cm n) (wk0 fd))).2.2 = cntB (fol b n n cs 160 0 (L.foldl (cm n) (wk0 fd))).2.1 n ∧ ∀ x, (fol b n n cs 160 0 (L.foldl (cm n) (wk0 fd))).2.1 x = true → x < n := by
  obtain ⟨a1, a2, a3⟩ := cms_iv (T := tg b n cs) (n := n) (k := 0) (E := fun x => (x : Int) ∈ L ∧ x < n) hn L (wk0 fd) (wk0_iv _ _ _ _) (Nat.zero_le _) (fun y hy S hS c1 c2 => hS.1 _ ⟨by rw [Int.toNat_of_nonneg c1]; exact hy, by omega⟩)
  obtain ⟨b1, b2⟩ := fol_iv (b := b) (cs := cs) hn 160 0 _ rfl (Nat.zero_le _) a1
  refine ⟨iv_least b1 (fun x hx => b2.1 x ?_), b1.2.2.2.1, b1.1⟩
  have := a3 (x : Int) hx.1 (by omega) (by have := hx.2; omega)
  simpa using this
/-! the reference: rounds over all addresses until a round marks nothing -/
def msM (n : Nat) (m : Nat → Bool) (x : Int) : Nat → Bool := if 0 ≤ x ∧ x < (n : Int) ∧ m x.toNat = false then updB m x.toNat true else m
def msN (n : Nat) (m : Nat → Bool) (x : Int) : Bool := decide (0 ≤ x ∧ x < (n : Int) ∧ m x.toNat = false)
abbrev mkT : Type := (Nat → Bool) × Bool
def ms1 (n : Nat) (q : mkT) (x : Int) : mkT := (msM n q.1 x, q.2 || msN n q.1 x)
def mrF (T : Nat → List Int) (n : Nat) : Nat → Nat → mkT → mkT
  | 0, _, q => q
  | j + 1, a, q => if q.1 a = true then mrF T n j (a + 1) ((T a).foldl (ms1 n) q) else mrF T n j (a + 1) q
def mcF (T : Nat → List Int) (n : Nat) : Nat → mkT → mkT
  | 0, q => q
  | j + 1, q => if q.2 = true then mcF T n j (mrF T n n 0 (q.1, false)) else q
/-- marks lie below n and in every closed set; s' goes on from s, with news just where something is new -/
def Jv (T : Nat → List Int) (n : Nat) (E : Nat → Prop) (m : Nat → Bool) : Prop := (∀ x, m x = true → x < n) ∧ ∀ S : Nat → Prop, Cl T n E S → ∀ x, m x = true → S x
def Nw (n : Nat) (q q' : mkT) : Prop := (∀ x, q.1 x = true → q'.1 x = true) ∧ ((q'.2 = true → q.2 = true ∨ cntB q.1 n < cntB q'.1 n) ∧ (q'.2 = false → q.2 = false ∧ q'.1 = q.1))
theorem Nw.rf (n : Nat) (q : mkT) : Nw n q q := ⟨fun _ h => h, fun h => Or.inl h, fun h => ⟨h, rfl⟩⟩
theorem Nw.tr {n : Nat} {q q' q2 : mkT} (h : Nw n q q') (h' : Nw n q' q2) : Nw n q q2 := by
  refine ⟨fun x a => h'.1 x (h.1 x a), fun a => ?_, fun a => ?_⟩
  · rcases h'.2.1 a with b | b
    · rcases h.2.1 b with c | c
      · exact Or.inl c
      · exact Or.inr (Nat.lt_of_lt_of_le c (cntB_mono h'.1))
    · exact Or.inr (Nat.lt_of_le_of_lt (cntB_mono h.1) b)
  · obtain ⟨b, c⟩ := h'.2.2 a
    obtain ⟨d, e⟩ := h.2.2 b
    exact ⟨d, c.trans e⟩
theorem ms1_nw {T : Nat → List Int} {n : Nat} {E : Nat → Prop} {q : mkT} {y : Int} (h : Jv T n E q.1) (hy : ∀ S : Nat → Prop, Cl T n E S → 0 ≤ y → y < (n : Int) → S y.toNat) :
    Jv T n E (ms1 n q y).1 ∧ Nw n q (ms1 n q y) ∧ (0 ≤ y → y < (n : Int) → (ms1 n q y).1 y.toNat = true) := by
  by_cases hc : 0 ≤ y ∧ y < (n : Int) ∧ q.1 y.toNat = false
  · have e : ms1 n q y = (updB q.1 y.toNat true, true) := by
      have e1 : msM n q.1 y = updB q.1 y.toNat true := if_pos hc
      have e2 : msN n q.1 y = true := decide_eq_true hc
      unfold ms1
      rw [e1, e2, Bool.or_true]
    rw [e]
    have mon : ∀ x, q.1 x = true → updB q.1 y.toNat true x = true := by
      intro x hx
      by_cases w : x = y.toNat
      · rw [w, updB_self]
      · rw [updB_other w]; exact hx
    refine ⟨⟨fun x a => ?_, fun S hS x a => ?_⟩, ⟨mon, fun _ => Or.inr ?_, fun a => by cases a⟩, fun _ _ => updB_self _ _ _⟩
    · by_cases w : x = y.toNat
      · omega
      · exact h.1 x (by rw [← updB_other (m := q.1) (v := true) w]; exact a)
    · by_cases w : x = y.toNat
      · rw [w]; exact hy S hS hc.1 hc.2.1
      · exact h.2 S hS x (by rw [← updB_other (m := q.1) (v := true) w]; exact a)
    · show cntB q.1 n < cntB (updB q.1 y.toNat true) n
      rw [cntB_upd _ _ _ (by omega) hc.2.2]
      exact Nat.lt_succ_self _
  · have e : ms1 n q y = q := by
      have e1 : msM n q.1 y = q.1 := if_neg hc
      have e2 : msN n q.1 y = false := decide_eq_false hc
      unfold ms1
      rw [e1, e2, Bool.or_false]
    rw [e]
    refine ⟨h, Nw.rf n q, fun c1 c2 => ?_⟩
    cases w : q.1 y.toNat with
    | true => rfl
    | false => exact absurd ⟨c1, c2, w⟩ hc
theorem mss_nw {T : Nat → List Int} {n : Nat} {E : Nat → Prop} : ∀ (L : List Int) (q : mkT), Jv T n E q.1 → (∀ y ∈ L, ∀ S : Nat → Prop, Cl T n E S → 0 ≤ y → y < (n : Int) → S y.toNat) →
    Jv T n E (L.foldl (ms1 n) q).1 ∧ Nw n q (L.foldl (ms1 n) q) ∧ ∀ y ∈ L, 0 ≤ y → y < (n : Int) → (L.foldl (ms1 n) q).1 y.toNat = true := by
  intro L
  induction L with
  | nil => exact fun q h _ => ⟨h, Nw.rf n q, fun y hy => by cases hy⟩
  | cons y L ih =>
    intro q h hL
    obtain ⟨a1, a2, a3⟩ := ms1_nw h (hL y List.mem_cons_self)
    obtain ⟨b1, b2, b3⟩ := ih (ms1 n q y) a1 (fun y2 h2 => hL y2 (List.mem_cons_of_mem _ h2))
    refine ⟨b1, a2.tr b2, fun y2 h2 c1 c2 => ?_⟩
    rcases List.mem_cons.mp h2 with rfl | h2
    · exact b2.1 _ (a3 c1 c2)
    · exact b3 y2 h2 c1 c2
/-- a round: from address a on; if nothing was new, it was closed from a on -/
theorem mrF_nw {T : Nat → List Int} {n : Nat} {E : Nat → Prop} : ∀ (j a : Nat) (q : mkT), a + j = n → Jv T n E q.1 →
    Jv T n E (mrF T n j a q).1 ∧ Nw n q (mrF T n j a q) ∧ ((mrF T n j a q).2 = false → ∀ x, a ≤ x → q.1 x = true → ∀ y ∈ T x, 0 ≤ y → y < (n : Int) → q.1 y.toNat = true) := by
  intro j
  induction j with
  | zero =>
    intro a q ha h
    refine ⟨h, Nw.rf n q, fun _ x hx hq => ?_⟩
    have := h.1 x hq
    omega
  | succ j ih =>
    intro a q ha h
    by_cases hm : q.1 a = true
    · have e : mrF T n (j + 1) a q = mrF T n j (a + 1) ((T a).foldl (ms1 n) q) := if_pos hm
      rw [e]
      obtain ⟨a1, a2, a3⟩ := mss_nw (T := T) (n := n) (E := E) (T a) q h (fun y hy S hS c1 c2 => hS.2 a (h.2 S hS a hm) y hy c1 c2)
      obtain ⟨b1, b2, b3⟩ := ih (a + 1) _ (by omega) a1
      refine ⟨b1, a2.tr b2, fun w x hx hq y hy c1 c2 => ?_⟩
      obtain ⟨d1, d2⟩ := b2.2.2 w
      obtain ⟨-, d4⟩ := a2.2.2 d1
      by_cases hxa : x = a
      · subst hxa
        have := a3 y hy c1 c2
        rw [d4] at this
        exact this
      · have := b3 w x (by omega) (by rw [d4]; exact hq) y hy c1 c2
        rw [d4] at this
        exact this
    · have e : mrF T n (j + 1) a q = mrF T n j (a + 1) q := if_neg hm
      rw [e]
      obtain ⟨b1, b2, b3⟩ := ih (a + 1) q (by omega) h
      refine ⟨b1, b2, fun w x hx hq y hy c1 c2 => ?_⟩
      by_cases hxa : x = a
      · subst hxa
        exact absurd hq hm
      · exact b3 w x (by omega) hq y hy c1 c2
/-- rounds: with fuel beyond what can still be marked, the end is closed -/
theorem mcF_end {T : Nat → List Int} {n : Nat} {E : Nat → Prop} : ∀ (j : Nat) (q : mkT), n + 1 < j + cntB q.1 n → Jv T n E q.1 → (q.2 = false → ∀ x, q.1 x = true → ∀ y ∈ T x, 0 ≤ y → y < (n : Int) → q.1 y.toNat = true) →
    Jv T n E (mcF T n j q).1 ∧ (∀ x, q.1 x = true → (mcF T n j q).1 x = true) ∧ ∀ x, (mcF T n j q).1 x = true → ∀ y ∈ T x, 0 ≤ y → y < (n : Int) → (mcF T n j q).1 y.toNat = true := by
  intro j
  induction j with
  | zero =>
    intro q hj
    have := cntB_le q.1 n
    omega
  | succ j ih =>
    intro q hj h hc
    by_cases hq : q.2 = true
    · have e : mcF T n (j + 1) q = mcF T n j (mrF T n n 0 (q.1, false)) := if_pos hq
      rw [e]
      obtain ⟨a1, a2, a3⟩ := mrF_nw (T := T) (E := E) n 0 (q.1, false) (by omega) h
      generalize mrF T n n 0 (q.1, false) = q' at a1 a2 a3
      by_cases hn : q'.2 = true
      · have hlt : cntB q.1 n < cntB q'.1 n := by
          rcases a2.2.1 hn with w | w
          · cases w
          · exact w
        obtain ⟨b1, b2, b3⟩ := ih q' (by omega) a1 (fun w => by rw [hn] at w; cases w)
        exact ⟨b1, fun x hx => b2 x (a2.1 x hx), b3⟩
      · have hn' : q'.2 = false := by
          cases w : q'.2 with
          | true => exact absurd w hn
          | false => rfl
        obtain ⟨-, d⟩ := a2.2.2 hn'
        have d' : q'.1 = q.1 := d
        have ee : ∀ i, mcF T n i q' = q' := by
          intro i
          cases i with
          | zero => rfl
          | succ i => exact if_neg hn
        rw [ee]
        refine ⟨a1, fun x hx => by rw [d']; exact hx, fun x hx y hy c1 c2 => ?_⟩
        rw [d'] at hx ⊢
        exact a3 hn' x (Nat.zero_le _) hx y hy c1 c2
    · have e : mcF T n (j + 1) q = q := if_neg hq
      rw [e]
      have hq' : q.2 = false := by
        cases w : q.2 with
        | true => exact absurd w hq
        | false => rfl
      exact ⟨h, fun x hx => hx, hc hq'⟩
theorem ref_least {T : Nat → List Int} {n : Nat} {E : Nat → Prop} (hn : n ≤ 160) {m : Nat → Bool} (hm : ∀ x, m x = true ↔ E x) (hE : ∀ x, E x → x < n) : Least T n E (mcF T n 1000 (m, true)).1 ∧ ∀ x, (mcF T n 1000 (m, true)).1 x = true → x < n := by
  have h0 : Jv T n E m := ⟨fun x h => hE x ((hm x).mp h), fun S hS x h => hS.1 x ((hm x).mp h)⟩
  obtain ⟨a1, a2, a3⟩ := mcF_end (T := T) (n := n) (E := E) 1000 (m, true) (by have := cntB_le m n; show n + 1 < 1000 + cntB m n; omega) h0 (fun w => by cases w)
  exact ⟨⟨⟨fun x hx => a2 x ((hm x).mpr hx), a3⟩, a1.2⟩, a1.1⟩
