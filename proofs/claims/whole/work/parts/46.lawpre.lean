theorem k_start {args : Array Value} {s : State} (ht : ∀ w ∈ lw_g, w.before args s = true) : ∃ (dC : Nat → ClassId) (dI : Nat → Nat → Nat), va_K (dC, dI) classes [] s := by
  obtain ⟨c0, i0, h0⟩ := u_known ht in_As (ht _ k_77)
  obtain ⟨c1, i1, h1⟩ := u_known ht in_Im (ht _ k_23)
  obtain ⟨c2, i2, h2⟩ := u_known ht in_Te (ht _ k_57)
  obtain ⟨c3, i3, h3⟩ := u_known ht in_Wa (ht _ k_37)
  obtain ⟨c4, i4, h4⟩ := u_known ht in_Co (ht _ k_15)
  obtain ⟨c5, i5, h5⟩ := u_known ht in_Mo (ht _ k_486)
  refine ⟨fun k => match k with | 0 => c0 | 1 => c1 | 2 => c2 | 3 => c3 | 4 => c4 | _ => c5, fun k => match k with | 0 => i0 | 1 => i1 | 2 => i2 | 3 => i3 | 4 => i4 | _ => i5, fun c q hq => ?_, fun k q h => by simp at h⟩
  match c, hq with
  | 0, hq => cases hq; exact h0
  | 1, hq => cases hq; exact h1
  | 2, hq => cases hq; exact h2
  | 3, hq => cases hq; exact h3
  | 4, hq => cases hq; exact h4
  | 5, hq => cases hq; exact h5
  | (n + 6), hq => simp at hq
abbrev tmS (i : Nat) : Term := .string "CodeLister$Kinds" (idxK i)
abbrev tmA (n : String) : Term := .static "CodeLister$Kinds" n "[I"
abbrev FLT : List Cond := flatC (Jvm.Cond.and given_1 narrow_1)
def blkS (i : Nat) : List Cond := [.exactly (tmS i) "java/lang/String", .eq (.field (tmS i) "java/lang/String" "coder" "B") (.int 0), .arrayOf (.field (tmS i) "java/lang/String" "value" "[B") .byte, .eq (.length (.field (tmS i) "java/lang/String" "value" "[B")) (.int (Int32.ofNat (lenK.getD i 0)))] ++ ((List.range (lenK.getD i 0)).map (fun j => Cond.eq (.elem (.field (tmS i) "java/lang/String" "value" "[B") (.int (Int32.ofNat j))) (.int ((bytK.getD i []).getD j 0))) ++ (List.range i).map (fun k => Cond.not (Cond.eq (tmS k) (tmS i))))
def blkA (n : String) (g : Nat → Nat) : List Cond := [.isRef (tmA n), .arrayOf (tmA n) .int, .eq (.length (tmA n)) (.int 14)] ++ (List.range 14).map (fun j => Cond.eq (.elem (tmA n) (.int (Int32.ofNat j))) (.int (nI (g j))))
set_option maxRecDepth 100000 in
theorem blkS_ok : FLT.drop 60 = (List.range 14).flatMap blkS := by decide +kernel
set_option maxRecDepth 100000 in
theorem blkA_ok : (FLT.drop 4).take 51 = blkA "REGISTERS" kR ++ (blkA "FIRST" kF ++ blkA "NUMBER" kN) := by decide +kernel
theorem inS {i : Nat} {c : Cond} (hi : i < 14) (h : c ∈ blkS i) : c ∈ FLT := List.mem_of_mem_drop (i := 60) (by rw [blkS_ok]; exact List.mem_flatMap.mpr ⟨i, List.mem_range.mpr hi, h⟩)
theorem inA {c : Cond} (h : c ∈ blkA "REGISTERS" kR ++ (blkA "FIRST" kF ++ blkA "NUMBER" kN)) : c ∈ FLT := List.mem_of_mem_drop (i := 4) (List.mem_of_mem_take (i := 51) (by rw [blkA_ok]; exact h))
theorem in_cs : Cond.eq (.static "java/lang/String" "COMPACT_STRINGS" "Z") (.int 1) ∈ FLT := List.mem_of_getElem? (i := 55) (by decide +kernel)
theorem in_si : Cond.isRef (.static "jdk/internal/util/Preconditions" "SIOOBE_FORMATTER" "Ljava/util/function/BiFunction;") ∈ FLT := List.mem_of_getElem? (i := 56) (by decide +kernel)
theorem in_sr (i : Nat) (hi : i < 14) : Cond.stringRef "CodeLister$Kinds" (idxK i) (txK i) ∈ lw_tbl := by
  rcases (show i = 0 ∨ i = 1 ∨ i = 2 ∨ i = 3 ∨ i = 4 ∨ i = 5 ∨ i = 6 ∨ i = 7 ∨ i = 8 ∨ i = 9 ∨ i = 10 ∨ i = 11 ∨ i = 12 ∨ i = 13 by omega) with rfl | rfl | rfl | rfl | rfl | rfl | rfl | rfl | rfl | rfl | rfl | rfl | rfl | rfl
  · exact k_271
  · exact k_272
  · exact k_273
  · exact k_274
  · exact k_275
  · exact k_276
  · exact k_277
  · exact k_278
  · exact k_279
  · exact k_280
  · exact k_281
  · exact k_282
  · exact k_283
  · exact k_284
theorem ss_start {args : Array Value} {s : State} {A : Nat → Prop} (hts : ∀ w ∈ lw_tbl, w.before args s = true) (hgv : (Jvm.Cond.and given_1 narrow_1).before args s = true) (hA : ∀ a : Nat, a < s.heap.size → ¬ A a) : ∃ z : zT, SS z A s s.heap := by
  have hq : ∀ c ∈ FLT, c.before args s = true := flat_of_before _ hgv
  have ht : ∀ w ∈ lw_g, w.before args s = true := fun w hw => hts w (List.mem_filter.mp hw).1
  have ar : ∀ (n : String) (g : Nat → Nat), (∀ c ∈ blkA n g, c ∈ FLT) → Cond.laysStatic "CodeLister$Kinds" n "[I" ∈ lw_tbl →
      ∃ t : Nat, va_Z "CodeLister$Kinds" n "[I" (.ref t) A s s.heap ∧ va_T .int t 14 (fun j => .int (nI (g j))) A s s.heap := by
    intro n g h h4
    have h1 : Cond.arrayOf (tmA n) .int ∈ blkA n g := List.mem_append_left _ (by simp)
    have h2 : Cond.eq (.length (tmA n)) (.int 14) ∈ blkA n g := List.mem_append_left _ (by simp)
    have h3 : ∀ j, j < 14 → Cond.eq (.elem (tmA n) (.int (Int32.ofNat j))) (.int (nI (g j))) ∈ blkA n g := fun j hj => List.mem_append_right _ (List.mem_map.mpr ⟨j, List.mem_range.mpr hj, rfl⟩)
    obtain ⟨t, ht1, hT⟩ := va_Tof (N := 14) (f := fun j => .int (nI (g j))) (A := A) (by decide) (hq _ (h _ h1)) (va_eqt (hq _ (h _ h2))) (fun j hj => va_eqt (hq _ (h _ (h3 j hj)))) hA
    exact ⟨t, va_Zref (hts _ h4) (ht _ k_7) ht1 hA, hT⟩
  obtain ⟨t1, a1⟩ := ar "FIRST" kF (fun c hc => inA (List.mem_append_right _ (List.mem_append_left _ hc))) k_186
  obtain ⟨t2, a2⟩ := ar "REGISTERS" kR (fun c hc => inA (List.mem_append_left _ hc)) k_184
  obtain ⟨t3, a3⟩ := ar "NUMBER" kN (fun c hc => inA (List.mem_append_right _ (List.mem_append_right _ hc))) k_191
  have c1 : va_Z "java/lang/String" "COMPACT_STRINGS" "Z" (.int 1) A s s.heap := va_Zof (hts _ k_294) (ht _ k_9) (va_eqi (hq _ in_cs)) hA
  have c2 : va_Zq "jdk/internal/util/Preconditions" "SIOOBE_FORMATTER" "Ljava/util/function/BiFunction;" A s s.heap := va_Zqof (hts _ k_310) (ht _ k_11) (hq _ in_si) hA
  have s8 : ∀ i, i < 14 → lenK.getD i 0 < 2 ^ 31 := by decide +kernel
  have hd : ∀ i, i < 14 → ∀ c, c ∈ ([.exactly (tmS i) "java/lang/String", .eq (.field (tmS i) "java/lang/String" "coder" "B") (.int 0), .arrayOf (.field (tmS i) "java/lang/String" "value" "[B") .byte, .eq (.length (.field (tmS i) "java/lang/String" "value" "[B")) (.int (Int32.ofNat (lenK.getD i 0)))] : List Cond) → c.before args s = true := fun i hi c hc => hq _ (inS hi (List.mem_append_left _ hc))
  obtain ⟨adK, adV, hS, hev⟩ := vk_Sof (N := 14) (tm := tmS) (len := lenK) (byt := bytK) (A := A) s8 (fun i hi => hd i hi _ (by simp)) (fun i hi => hd i hi _ (by simp)) (fun i hi => hd i hi _ (by simp)) (fun i hi => hd i hi _ (by simp)) (fun i hi j hj => hq _ (inS hi (List.mem_append_right _ (List.mem_append_left _ (List.mem_map.mpr ⟨j, List.mem_range.mpr hj, rfl⟩))))) (fun i j hi hj hn => by
    by_cases q : i < j
    · exact Or.inl (hq _ (inS hj (List.mem_append_right _ (List.mem_append_right _ (List.mem_map.mpr ⟨i, List.mem_range.mpr q, rfl⟩)))))
    · exact Or.inr (hq _ (inS hi (List.mem_append_right _ (List.mem_append_right _ (List.mem_map.mpr ⟨j, List.mem_range.mpr (by omega), rfl⟩)))))) hA
  exact ⟨(t1, t2, t3, adK, adV), a1, a2, a3, c1, c2, hS, fun i hi => vk_R.of (hts _ (in_sr i hi)) (hev i hi)⟩
/-! the two sides -/
theorem mtg_tg' {b : Nat → Nat} {n : Nat} {cs : Bool} (hb : ∀ i, b i < 256) : mtg b n cs = tg b n cs := by
  funext a
  by_cases h : a < n
  · exact mtg_tg hb h
  · have e1 : mLen b n (a : Int) = 0 := by
      unfold mLen
      rw [if_neg (by omega)]
    have e2 : ckd b n (a : Int) = none := by
      unfold ckd
      rw [atZ_o (by omega), kd_m1]
    unfold mtg tg
    rw [if_pos e1, e2]
theorem enF_fold (en : Nat → Nat) (n : Nat) : ∀ (j k : Nat) (s : wkT), enF en n j k s = ((List.range' k j).map (fun i => (en i : Int))).foldl (cm n) s := by
  intro j
  induction j with
  | zero => intro k s; rfl
  | succ j ih =>
    intro k s
    simp only [enF, List.range'_succ, List.map_cons, List.foldl_cons]
    exact ih (k + 1) _
theorem meF_iff (en : Nat → Nat) : ∀ (j k : Nat) (m : Nat → Bool) (x : Nat), meF en j k m x = true ↔ (m x = true ∨ ∃ i, k ≤ i ∧ i < k + j ∧ en i = x) := by
  intro j
  induction j with
  | zero =>
    intro k m x
    simp only [meF]
    exact ⟨Or.inl, fun h => h.elim id (fun ⟨i, h1, h2, _⟩ => absurd h2 (by omega))⟩
  | succ j ih =>
    intro k m x
    simp only [meF]
    rw [ih]
    constructor
    · rintro (h | ⟨i, h1, h2, h3⟩)
      · by_cases q : x = en k
        · exact Or.inr ⟨k, Nat.le_refl _, by omega, q.symm⟩
        · rw [updB_other q] at h
          exact Or.inl h
      · exact Or.inr ⟨i, by omega, by omega, h3⟩
    · rintro (h | ⟨i, h1, h2, h3⟩)
      · left
        by_cases q : x = en k
        · rw [q, updB_self]
        · rw [updB_other q]; exact h
      · by_cases q : i = k
        · subst q
          left
          rw [← h3, updB_self]
        · exact Or.inr ⟨i, by omega, by omega, h3⟩
theorem reach_same {i e : txT} {fd : Nat → Nat} (hn : i.2 ≤ 160) (hb : ∀ k, i.1 k < 256) (he : ∀ k, k < e.2 → e.1 k < i.2) : mR i e = (wkE i e fd).2.1 ∧ (wkE i e fd).2.2 = cntB (mR i e) i.2 := by
  have c := cls_least (b := i.1) (cs := true) hn fd ((List.range' 0 e.2).map (fun k => (e.1 k : Int)))
  rw [← enF_fold] at c
  have c' : Least (tg i.1 i.2 true) i.2 (fun x => (x : Int) ∈ (List.range' 0 e.2).map (fun k => (e.1 k : Int)) ∧ x < i.2) (wkE i e fd).2.1 ∧ (wkE i e fd).2.2 = cntB (wkE i e fd).2.1 i.2 ∧ ∀ x, (wkE i e fd).2.1 x = true → x < i.2 := c
  obtain ⟨c1, c2, -⟩ := c'
  have hE : ∀ x, mE e x = true ↔ ((x : Int) ∈ (List.range' 0 e.2).map (fun k => (e.1 k : Int)) ∧ x < i.2) := by
    intro x
    unfold mE
    rw [meF_iff]
    simp only [List.mem_map, List.mem_range'_1]
    constructor
    · rintro (h | ⟨k, h1, h2, h3⟩)
      · cases h
      · exact ⟨⟨k, ⟨h1, h2⟩, by rw [h3]⟩, by rw [← h3]; exact he k (by omega)⟩
    · rintro ⟨⟨k, ⟨h1, h2⟩, h3⟩, -⟩
      exact Or.inr ⟨k, h1, h2, by omega⟩
  have r := (ref_least (T := mtg i.1 i.2 true) hn hE (fun x h => h.2)).1
  have r' : Least (mtg i.1 i.2 true) i.2 (fun x => (x : Int) ∈ (List.range' 0 e.2).map (fun k => (e.1 k : Int)) ∧ x < i.2) (mR i e) := r
  rw [mtg_tg' hb] at r'
  have q := Least.same r' c1
  exact ⟨q, by rw [q]; exact c2⟩
theorem cntB_pos {m : Nat → Bool} {n x : Nat} (hx : x < n) (h : m x = true) : 0 < cntB m n := by
  induction n with
  | zero => omega
  | succ n ih =>
    simp only [cntB]
    by_cases q : x = n
    · subst q
      rw [if_pos h]
      omega
    · have := ih (by omega)
      omega
theorem reached_same {i e : txT} {fd : Nat → Nat} {y : Int} (hn : i.2 ≤ 160) (hb : ∀ k, i.1 k < 256) (he : ∀ k, k < e.2 → e.1 k < i.2) : decide (0 < cntB (mR i e) i.2 ∧ (0 ≤ y ∧ y < (i.2 : Int)) ∧ mR i e y.toNat = true) = decide (0 ≤ y ∧ y < (i.2 : Int) ∧ (wkE i e fd).2.1 y.toNat = true) := by
  rw [← (reach_same (fd := fd) hn hb he).1]
  apply decide_eq_decide.mpr
  constructor
  · rintro ⟨-, ⟨h1, h2⟩, h3⟩
    exact ⟨h1, h2, h3⟩
  · rintro ⟨h1, h2, h3⟩
    exact ⟨cntB_pos (x := y.toNat) (by omega) h3, ⟨h1, h2⟩, h3⟩
theorem cntB_0 {m : Nat → Bool} {n : Nat} (h : ∀ x, m x = false) : cntB m n = 0 := by
  induction n with
  | zero => rfl
  | succ n ih =>
    simp only [cntB]
    rw [ih, h n]
    rfl
theorem body_same {i : txT} {fd : Nat → Nat} {y : Int} (hn : i.2 ≤ 160) (hb : ∀ k, i.1 k < 256) : mBn i y = (wkB i y fd).2.2 := by
  have c := cls_least (b := i.1) (cs := false) hn fd [y]
  have c' : Least (tg i.1 i.2 false) i.2 (fun x => (x : Int) ∈ [y] ∧ x < i.2) (wkB i y fd).2.1 ∧ (wkB i y fd).2.2 = cntB (wkB i y fd).2.1 i.2 ∧ ∀ x, (wkB i y fd).2.1 x = true → x < i.2 := c
  obtain ⟨c1, c2, -⟩ := c'
  rw [c2]
  unfold mBn
  by_cases h : 0 ≤ y ∧ y < (i.2 : Int)
  · rw [if_pos h]
    have hE : ∀ x, updB (fun _ => false) y.toNat true x = true ↔ ((x : Int) ∈ [y] ∧ x < i.2) := by
      intro x
      simp only [List.mem_singleton]
      by_cases q : x = y.toNat
      · rw [q, updB_self]
        exact ⟨fun _ => ⟨by omega, by omega⟩, fun _ => rfl⟩
      · rw [updB_other q]
        exact ⟨fun w => (by cases w), fun w => absurd w.1 (by omega)⟩
    have r := (ref_least (T := mtg i.1 i.2 false) hn hE (fun x h => h.2)).1
    have r' : Least (mtg i.1 i.2 false) i.2 (fun x => (x : Int) ∈ [y] ∧ x < i.2) (mB i y) := r
    rw [mtg_tg' hb] at r'
    rw [Least.same r' c1]
  · rw [if_neg h]
    symm
    apply cntB_0
    intro x
    cases q : (wkB i y fd).2.1 x with
    | false => rfl
    | true =>
      have := c1.2 (fun _ => False) ⟨fun x hx => by
        have h1 : (x : Int) = y := by simpa using hx.1
        have := hx.2
        omega, fun a ha => ha.elim⟩ x q
      exact this.elim
theorem sweep_same {i : txT} (hb : ∀ k, i.1 k < 256) : msw i.1 i.2 i.2 0 0 0 = swF i.1 i.2 (i.2 + 1) 0 0 := sw_same hb i.2 0 0 0 (i.2 + 1) (by omega) (by omega) (by omega)
theorem list_same {i e s : txT} {fd : Nat → Nat} (hn : i.2 ≤ 160) (hb : ∀ k, i.1 k < 256) (he : ∀ k, k < e.2 → e.1 k < i.2) : mls i.1 i.2 (mR i e) i.2 0 0 (dr s) = liF i.1 i.2 (wkE i e fd).2.1 (i.2 + 1) 0 (dr s) := by
  rw [← (reach_same (fd := fd) hn hb he).1]
  exact li_same hb i.2 0 0 (i.2 + 1) (dr s) (by omega) (by omega) (by omega)
theorem as_all (t : Nat → Nat) (n : Nat) (f g md : Nat → Int32) (mc : Nat) : maR (masF t n 2400 0 (g, 0)) = asR (rd t n f) ∧ maK (masF t n 2400 0 (g, 0)) mc = asC (rd t n f) mc ∧ maM (masF t n 2400 0 (g, 0)) md = asM (rd t n f) md := by
  have h := as_same (t := t) (n := n) 2400 0 (f, 0) (g, 0) ⟨rfl, fun i hi => absurd hi (Nat.not_lt_zero _)⟩
  have e : rdF t n 2400 (0, true) (f, 0) = rd t n f := rfl
  rw [e] at h
  cases q : masF t n 2400 0 (g, 0) with
  | none =>
    rw [q] at h
    simp only at h
    unfold asR asC asM
    rw [h]
    exact ⟨rfl, rfl, rfl⟩
  | some w =>
    rw [q] at h
    simp only at h
    obtain ⟨h1, h2, h3⟩ := h
    unfold asR asC asM
    rw [if_pos h1, h2]
    refine ⟨rfl, ?_, ?_⟩
    · by_cases z : w.2 ≤ 160
      · rw [if_pos ⟨h1, z⟩]
        exact if_pos z
      · rw [if_neg (fun k => z k.2)]
        exact if_neg z
    · by_cases z : w.2 ≤ 160
      · rw [if_pos ⟨h1, z⟩]
        have e2 : maM (some w) md = va_cpy w.1 md 0 0 w.2 := if_pos z
        rw [e2]
        funext x
        by_cases k : x < w.2
        · rw [pk_cpy_in (Nat.zero_le _) (by omega), pk_cpy_in (Nat.zero_le _) (by omega), Nat.sub_zero, Nat.zero_add]
          exact (h3 x (by omega) (by omega)).symm
        · rw [pk_cpy_out (Or.inr (by omega)), pk_cpy_out (Or.inr (by omega))]
      · rw [if_neg (fun k => z k.2)]
        exact if_neg z
/-! what stays -/
def OK (i e s : txT) (mc : Nat) : Prop := i.2 ≤ 160 ∧ (∀ k, i.1 k < 256) ∧ e.2 ≤ 16 ∧ (∀ k, k < e.2 → e.1 k < i.2) ∧ s.2 ≤ 2400 ∧ (∀ k, s.1 k < 256) ∧ mc ≤ 160
theorem ap_all : ∀ (l : List Nat) (s : txT), (∀ c ∈ l, c < 256) → (∀ k, s.1 k < 256) → ∀ k, (ap s l).1 k < 256 := by
  intro l
  induction l with
  | nil => exact fun s _ h => h
  | cons c l ih =>
    intro s hl h
    refine ih (ap1 s c) (fun x hx => hl x (List.mem_cons_of_mem _ hx)) (fun k => ?_)
    show updN s.1 s.2 c k < 256
    unfold updN
    split
    · exact hl c List.mem_cons_self
    · exact h k
theorem apF_c (w : Int32) : ∀ (j k : Nat) (s : txT), (∀ k, s.1 k < 256) → ∀ x, (apF w j k s).1 x < 256 := by
  intro j
  induction j with
  | zero => exact fun _ _ h => h
  | succ j ih =>
    intro k s h
    refine ih (k + 1) (ap1 s (byW w k)) (fun x => ?_)
    show updN s.1 s.2 (byW w k) x < 256
    unfold updN
    split
    · exact byW_lt w k
    · exact h x
theorem ok_append {i e s : txT} {mc : Nat} {w : Int32} {y : Int} (h : OK i e s mc) : OK (apS i w y) e s mc := by
  obtain ⟨h1, h2, h3, h4, h5⟩ := h
  unfold apS
  split
  · rename_i q
    have hl := apF_len w y.toNat 0 i
    exact ⟨by rw [hl]; omega, apF_c w _ _ _ h2, h3, fun k hk => by rw [hl]; have := h4 k hk; omega, h5⟩
  · exact ⟨h1, h2, h3, h4, h5⟩
theorem ok_enter {i e s : txT} {mc : Nat} {y : Int} (h : OK i e s mc) : OK i (enS i.2 e y) s mc := by
  obtain ⟨h1, h2, h3, h4, h5⟩ := h
  unfold enS
  split
  · rename_i q
    refine ⟨h1, h2, by show e.2 + 1 ≤ 16; omega, fun k hk => ?_, h5⟩
    have hk : k < e.2 + 1 := hk
    show updN e.1 e.2 y.toNat k < i.2
    unfold updN
    split
    · omega
    · exact h4 k (by omega)
  · exact ⟨h1, h2, h3, h4, h5⟩
theorem ok_clear {i e s : txT} {mc : Nat} (h : OK i e s mc) : OK (dr i) (dr e) (dr s) 0 := ⟨Nat.zero_le _, h.2.1, Nat.zero_le _, fun k hk => absurd hk (Nat.not_lt_zero _), Nat.zero_le _, h.2.2.2.2.2.1, Nat.zero_le _⟩
theorem ok_type {i e s : txT} {mc : Nat} {y1 y2 : Int} (h : OK i e s mc) : OK i e (tyS s y1 y2) mc := by
  obtain ⟨h1, h2, h3, h4, h5, h6, h7⟩ := h
  unfold tyS
  split
  · rename_i q
    refine ⟨h1, h2, h3, h4, by show max s.2 (y1.toNat + 1) ≤ 2400; omega, fun k => ?_, h7⟩
    show updN s.1 y1.toNat y2.toNat k < 256
    unfold updN
    split
    · omega
    · exact h6 k
  · exact ⟨h1, h2, h3, h4, h5, h6, h7⟩
theorem ok_asm {i e s : txT} {mc : Nat} {q : rdT × abT} (h : OK i e s mc) : OK i e s (asC q mc) := by
  obtain ⟨h1, h2, h3, h4, h5, h6, h7⟩ := h
  refine ⟨h1, h2, h3, h4, h5, h6, ?_⟩
  unfold asC
  split
  · rename_i z
    exact z.2
  · exact h7
theorem lsL_c {b : Nat → Nat} {n a : Nat} {m : Nat → Bool} (hb : ∀ i, b i < 256) (ha : a < n) : ∀ c ∈ lsL b n m a, c < 256 := by
  rw [← (mlL_lsL (m := m) hb ha).1]
  intro c hc
  unfold mlL at hc
  split at hc
  · rcases List.mem_append.mp hc with q | q
    · exact (da_len (hb a)).2 c q
    · have : c = 10 := by simpa using q
      omega
  · rename_i q0
    rcases List.mem_append.mp hc with q | q
    · have hv := mnm_in (a := a) (k := mlk b n m a) hb
      exact (pr_len (mlk_f ha q0) (by omega) (by omega)).2 c q
    · have : c = 10 := by simpa using q
      omega
theorem liF_ok {b : Nat → Nat} {n : Nat} {m : Nat → Bool} (hb : ∀ i, b i < 256) (hn : n ≤ 160) : ∀ (j a : Nat) (s : txT), s.2 ≤ 10 * a → a ≤ n + 2 → (∀ k, s.1 k < 256) → (liF b n m j a s).2 ≤ 2400 ∧ ∀ k, (liF b n m j a s).1 k < 256 := by
  intro j
  induction j with
  | zero => exact fun a s h1 h2 h3 => ⟨by show s.2 ≤ 2400; omega, h3⟩
  | succ j ih =>
    intro a s h1 h2 h3
    simp only [liF]
    split
    · rename_i q
      have hl := lsL_len (m := m) hb q
      have hz := lsz_le b n m a
      exact ih _ _ (by rw [ap_len]; omega) (by omega) (ap_all _ _ (lsL_c hb q) h3)
    · exact ⟨by omega, h3⟩
theorem ok_list {i e s : txT} {mc : Nat} {m : Nat → Bool} (h : OK i e s mc) : OK i e (liF i.1 i.2 m (i.2 + 1) 0 (dr s)) mc := by
  obtain ⟨h1, h2, h3, h4, h5, h6, h7⟩ := h
  obtain ⟨a1, a2⟩ := liF_ok (m := m) h2 h1 (i.2 + 1) 0 (dr s) (Nat.le_refl _) (by omega) h6
  exact ⟨h1, h2, h3, h4, a1, a2, h7⟩
section Cmp
variable {p : Program} {l : Launch} {e : Env} {R : Room} {s : State} {m : MethodId} {args : Array Value} {below : List Frame} {meth : Method} {c : Code} {H : Heap} {locs : List Loc} {cells slots : Nat} {Q : State → Prop} {pc : Nat} {ls : Array Slot} {rest : List Value} {cc : ByteArray} {A : Nat → Prop}
theorem cmpEq (hx : p.tables.exec = Jvm.exec) (hb : c.code = cc) {x : Int32} {off : Int} {tgt : Nat} (hd : decode cc pc = .ok (.if_icmp .eq off, 3)) (ht : (pc : Int) + off = (tgt : Int)) (k : W p l e R s m args below meth c H locs cells slots Q (F0 m tgt ls rest)) : W p l e R s m args below meth c H locs cells slots Q (F0 m pc ls (.int x :: .int x :: rest)) := lv_icmp_eq hx hb hd ht (fun _ => k) (fun h => absurd rfl h)
theorem ldS (hx : p.tables.exec = Jvm.exec) (hb : c.code = cc) {b L k : Nat} {xs : Nat → Int32} (hX : va_X b L xs s s.heap) (hbl : b < s.heap.size) (hbA : ¬ A b) (hS : va_S A s.heap H locs) (hk : k < L) (hL : L < 2147483648) (hd : decode cc pc = .ok (.iaload, 1))
    (kk : W p l e R s m args below meth c H locs cells slots Q (F0 m (pc + 1) ls (.int (xs k) :: rest))) : W p l e R s m args below meth c H locs cells slots Q (F0 m pc ls (.int (nI k) :: .ref b :: rest)) := by
  refine va_sld hx hb hX hbl hbA hS (vin hk hL) hd ?_
  rw [clp (by omega)]
  exact kk
end Cmp
