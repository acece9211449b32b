set_option maxHeartbeats 4000000 in
set_option maxRecDepth 100000 in
theorem c_Te_startReading (l : Launch) (dC : Nat → ClassId) (dI : Nat → Nat → Nat) (z : zT) (sz : Nat) (h : Nat) (q : Nat) (cc : ClassId) (s0 : txT) (r0 : rdT) : MU l y_Te_startReading b_Te_startReading 1 none 0 0 (dC, dI) z [.ref h] [(h, .inr (2, [.ref q, .int (nI s0.2), .int (nI r0.1), .int (bI r0.2)])), (q, .inl (cc, 2400, .inl (iN s0.1)))] [(cc, .char)] sz none [(h, .inr (2, [.ref q, .int (nI s0.2), .int (nI r00.1), .int (bI r00.2)])), (q, .inl (cc, 2400, .inl (iN s0.1)))] := by
  refine metU (by decide) (Nat.le_of_ble_eq_true rfl) ?_
  intro p e s m below meth c ls A hx hb hr hlocks hml hown ht hl hP hK hSS hD hS hA
  have hl : lv_has ls 1 [(0, .ref h)] := hl
  refine lv_aload_n hx hb d_Te_startReading_0 rfl (lv_at hl 0 rfl) ?_
  refine lv_iconst (v := nI 0) hx hb d_Te_startReading_1 (by decide) ?_
  refine va_put (D := (dC, dI)) (ci := 2) (v := .int (nI 0)) (ty := .int) (C := R_Te) (T := F_Te) (N := 4) hx hb ht in_Te t_Te t_Te_ok n_Te hown hK hP hD hS 0 rfl rfl 2 (by decide) (ht _ k_64) (fun _ h9 => h9) rfl (by decide +kernel) rfl rfl (Nat.le_of_ble_eq_true rfl) d_Te_startReading_2 (fun H locs hP hD hS => ?_)
  have hP : va_P (dC, dI) classes [(h, .inr (2, [.ref q, .int (nI s0.2), .int (nI 0), .int (bI r0.2)])), (q, .inl (cc, 2400, .inl (iN s0.1)))] H := hP
  have hD : va_D A [(h, .inr (2, [.ref q, .int (nI s0.2), .int (nI 0), .int (bI r0.2)])), (q, .inl (cc, 2400, .inl (iN s0.1)))] := hD
  refine lv_aload_n hx hb d_Te_startReading_5 rfl (lv_at hl 0 rfl) ?_
  refine lv_iconst (v := nI 1) hx hb d_Te_startReading_6 (by decide) ?_
  refine eqi (y := bI true) (by decide) ?_
  refine va_put (D := (dC, dI)) (ci := 2) (v := .int (bI true)) (ty := .boolean) (C := R_Te) (T := F_Te) (N := 4) hx hb ht in_Te t_Te t_Te_ok n_Te hown hK hP hD hS 0 rfl rfl 3 (by decide) (ht _ k_65) (fun _ h9 => h9) rfl (by decide +kernel) (bI_narrow _) (bI_fits _) (Nat.le_of_ble_eq_true rfl) d_Te_startReading_7 (fun H locs hP hD hS => ?_)
  have hP : va_P (dC, dI) classes [(h, .inr (2, [.ref q, .int (nI s0.2), .int (nI 0), .int (bI true)])), (q, .inl (cc, 2400, .inl (iN s0.1)))] H := hP
  have hD : va_D A [(h, .inr (2, [.ref q, .int (nI s0.2), .int (nI 0), .int (bI true)])), (q, .inl (cc, 2400, .inl (iN s0.1)))] := hD
  exact eUv hx hb hr hlocks hP hD hS [0, 1] rfl rfl (by decide) d_Te_startReading_10

set_option maxHeartbeats 4000000 in
set_option maxRecDepth 100000 in
theorem c_Te_isRight (l : Launch) (dC : Nat → ClassId) (dI : Nat → Nat → Nat) (z : zT) (h : Nat) (q : Nat) (cc : ClassId) (s0 : txT) (r0 : rdT) : MR l y_Te_isRight b_Te_isRight 1 (some .boolean) 0 0 (dC, dI) z [.ref h] [(h, .inr (2, [.ref q, .int (nI s0.2), .int (nI r0.1), .int (bI r0.2)])), (q, .inl (cc, 2400, .inl (iN s0.1)))] [(cc, .char)] (.int (bI r0.2)) := by
  refine metR (by decide) (Nat.le_of_ble_eq_true rfl) ?_
  intro p e s m below meth c ls hx hb hr hlocks hml hown ht hl hP hK hSS
  have hl : lv_has ls 1 [(0, .ref h)] := hl
  have hS : va_S (fun _ => False) s.heap s.heap [] := va_S.rf
  refine lv_aload_n hx hb d_Te_isRight_0 rfl (lv_at hl 0 rfl) ?_
  refine va_get (D := (dC, dI)) (ci := 2) (v := .int (bI r0.2)) (C := R_Te) (T := F_Te) (N := 4) hx hb ht in_Te hown hK hP 0 rfl rfl 3 (by decide) (ht _ k_65) (fun _ h9 => h9) rfl d_Te_isRight_1 ?_
  exact eRz hx hb hr hlocks (bI_narrow _) d_Te_isRight_4 (rfl)

set_option maxHeartbeats 4000000 in
set_option maxRecDepth 100000 in
theorem c_Te_hasMore (l : Launch) (dC : Nat → ClassId) (dI : Nat → Nat → Nat) (z : zT) (h : Nat) (q : Nat) (cc : ClassId) (s0 : txT) (r0 : rdT) (hs : s0.2 ≤ 2400) (hr1 : r0.1 ≤ s0.2) : MR l y_Te_hasMore b_Te_hasMore 1 (some .boolean) 0 0 (dC, dI) z [.ref h] [(h, .inr (2, [.ref q, .int (nI s0.2), .int (nI r0.1), .int (bI r0.2)])), (q, .inl (cc, 2400, .inl (iN s0.1)))] [(cc, .char)] (.int (bI (decide (r0.2 = true ∧ r0.1 < s0.2)))) := by
  refine metR (by decide) (Nat.le_of_ble_eq_true rfl) ?_
  intro p e s m below meth c ls hx hb hr hlocks hml hown ht hl hP hK hSS
  have hl : lv_has ls 1 [(0, .ref h)] := hl
  have hS : va_S (fun _ => False) s.heap s.heap [] := va_S.rf
  refine lv_aload_n hx hb d_Te_hasMore_0 rfl (lv_at hl 0 rfl) ?_
  refine va_get (D := (dC, dI)) (ci := 2) (v := .int (bI r0.2)) (C := R_Te) (T := F_Te) (N := 4) hx hb ht in_Te hown hK hP 0 rfl rfl 3 (by decide) (ht _ k_65) (fun _ h9 => h9) rfl d_Te_hasMore_1 ?_
  refine b_if_eq (tgt := 22) hx hb d_Te_hasMore_4 (by decide) (fun g4 => ?_) (fun g4 => ?_)
  · refine lv_iconst (v := nI 0) hx hb d_Te_hasMore_22 (by decide) ?_
    refine eqi (y := bI false) (by decide) ?_
    exact eRz hx hb hr hlocks (bI_narrow _) d_Te_hasMore_23 (bI_zero (by first | omega | (intro q; rw [g4] at q; cases q.1)))
  · refine lv_aload_n hx hb d_Te_hasMore_7 rfl (lv_at hl 0 rfl) ?_
    refine va_get (D := (dC, dI)) (ci := 2) (v := .int (nI r0.1)) (C := R_Te) (T := F_Te) (N := 4) hx hb ht in_Te hown hK hP 0 rfl rfl 2 (by decide) (ht _ k_64) (fun _ h9 => h9) rfl d_Te_hasMore_8 ?_
    refine lv_aload_n hx hb d_Te_hasMore_11 rfl (lv_at hl 0 rfl) ?_
    refine va_get (D := (dC, dI)) (ci := 2) (v := .int (nI s0.2)) (C := R_Te) (T := F_Te) (N := 4) hx hb ht in_Te hown hK hP 0 rfl rfl 1 (by decide) (ht _ k_63) (fun _ h9 => h9) rfl d_Te_hasMore_12 ?_
    refine z_icmp_ge (tgt := 22) hx hb d_Te_hasMore_15 (tI_n (by omega)) (tI_n (by omega)) (by decide) (fun g15 => ?_) (fun g15 => ?_)
    · refine lv_iconst (v := nI 0) hx hb d_Te_hasMore_22 (by decide) ?_
      refine eqi (y := bI false) (by decide) ?_
      exact eRz hx hb hr hlocks (bI_narrow _) d_Te_hasMore_23 (bI_zero (by first | omega | (intro q; rw [g4] at q; cases q.1)))
    · refine lv_iconst (v := nI 1) hx hb d_Te_hasMore_18 (by decide) ?_
      refine lv_goto (tgt := 23) hx hb d_Te_hasMore_19 (by decide) ?_
      refine eqi (y := bI true) (by decide) ?_
      exact eRz hx hb hr hlocks (bI_narrow _) d_Te_hasMore_23 (bI_one ⟨g4, by omega⟩)

set_option maxHeartbeats 4000000 in
set_option maxRecDepth 100000 in
theorem c_Te_take (l : Launch) (dC : Nat → ClassId) (dI : Nat → Nat → Nat) (z : zT) (sz : Nat) (h : Nat) (q : Nat) (cc : ClassId) (s0 : txT) (r0 : rdT) (v : Nat) (hs : s0.2 ≤ 2400) (hr1 : r0.1 ≤ s0.2) (ht8 : ∀ i, s0.1 i < 256) (hv : v < 65536) : MU l y_Te_take b_Te_take 2 none 1 21 (dC, dI) z [.ref h, .int (nI v)] [(h, .inr (2, [.ref q, .int (nI s0.2), .int (nI r0.1), .int (bI r0.2)])), (q, .inl (cc, 2400, .inl (iN s0.1)))] [(cc, .char)] sz none [(h, .inr (2, [.ref q, .int (nI s0.2), .int (nI ((tk s0.1 s0.2 v r0).1)), .int (bI ((tk s0.1 s0.2 v r0).2))])), (q, .inl (cc, 2400, .inl (iN s0.1)))] := by
  have hat := atZ_in (n := s0.2) (x := (r0.1 : Int)) ht8
  refine metU (by decide) (Nat.le_of_ble_eq_true rfl) ?_
  intro p e s m below meth c ls A hx hb hr hlocks hml hown ht hl hP hK hSS hD hS hA
  have hl : lv_has ls 2 [(0, .ref h), (1, .int (nI v))] := hl
  refine lv_aload_n hx hb d_Te_take_0 rfl (lv_at hl 0 rfl) ?_
  refine lv_aload_n hx hb d_Te_take_1 rfl (lv_at hl 0 rfl) ?_
  refine va_get (D := (dC, dI)) (ci := 2) (v := .int (nI r0.1)) (C := R_Te) (T := F_Te) (N := 4) hx hb ht in_Te hown hK hP 0 rfl rfl 2 (by decide) (ht _ k_64) (fun _ h9 => h9) rfl d_Te_take_2 ?_
  refine rV (As := [.int (nI r0.1)]) (rest := []) hx hb hml hown ht (c_Te_at l dC dI z h q cc s0 r0.1 r0.2 (nI r0.1) ((r0.1 : Nat) : Int) (by first | assumption | omega) (tI_n (by omega))) yv_Te_at k_416 (Nat.le_of_ble_eq_true rfl) (Nat.le_of_ble_eq_true rfl) hP hK hSS hS [0, 1] [0] rfl rfl 0 2 rfl rfl rfl hl rfl rfl (Nat.le_of_ble_eq_true rfl) (Nat.zero_le _) (Nat.zero_le _) d_Te_take_5 ?_
  refine lv_iload_n hx hb d_Te_take_8 rfl (lv_at hl 1 rfl) ?_
  refine z_icmp_ne (tgt := 25) hx hb d_Te_take_9 (iI_toInt (by omega) (by omega)) (tI_n (by omega)) (by decide) (fun g9 => ?_) (fun g9 => ?_)
  · refine lv_aload_n hx hb d_Te_take_25 rfl (lv_at hl 0 rfl) ?_
    refine lv_iconst (v := nI 0) hx hb d_Te_take_26 (by decide) ?_
    refine eqi (y := bI false) (by decide) ?_
    refine va_put (D := (dC, dI)) (ci := 2) (v := .int (bI false)) (ty := .boolean) (C := R_Te) (T := F_Te) (N := 4) hx hb ht in_Te t_Te t_Te_ok n_Te hown hK hP hD hS 0 rfl rfl 3 (by decide) (ht _ k_65) (fun _ h9 => h9) rfl (by decide +kernel) (bI_narrow _) (bI_fits _) (Nat.le_of_ble_eq_true rfl) d_Te_take_27 (fun H locs hP hD hS => ?_)
    have hP : va_P (dC, dI) classes [(h, .inr (2, [.ref q, .int (nI s0.2), .int (nI r0.1), .int (bI false)])), (q, .inl (cc, 2400, .inl (iN s0.1)))] H := hP
    have hD : va_D A [(h, .inr (2, [.ref q, .int (nI s0.2), .int (nI r0.1), .int (bI false)])), (q, .inl (cc, 2400, .inl (iN s0.1)))] := hD
    rw [tk, if_neg g9]
    exact eUv hx hb hr hlocks hP hD hS [0, 1] rfl rfl (by decide) d_Te_take_30
  · refine lv_aload_n hx hb d_Te_take_12 rfl (lv_at hl 0 rfl) ?_
    refine lv_dup hx hb d_Te_take_13 rfl ?_
    refine va_get (D := (dC, dI)) (ci := 2) (v := .int (nI r0.1)) (C := R_Te) (T := F_Te) (N := 4) hx hb ht in_Te hown hK hP 0 rfl rfl 2 (by decide) (ht _ k_64) (fun _ h9 => h9) rfl d_Te_take_14 ?_
    refine lv_iconst (v := nI 1) hx hb d_Te_take_17 (by decide) ?_
    refine nAdd hx hb d_Te_take_18 ?_
    refine va_put (D := (dC, dI)) (ci := 2) (v := .int (nI (r0.1 + 1))) (ty := .int) (C := R_Te) (T := F_Te) (N := 4) hx hb ht in_Te t_Te t_Te_ok n_Te hown hK hP hD hS 0 rfl rfl 2 (by decide) (ht _ k_64) (fun _ h9 => h9) rfl (by decide +kernel) rfl rfl (Nat.le_of_ble_eq_true rfl) d_Te_take_19 (fun H locs hP hD hS => ?_)
    have hP : va_P (dC, dI) classes [(h, .inr (2, [.ref q, .int (nI s0.2), .int (nI (r0.1 + 1)), .int (bI r0.2)])), (q, .inl (cc, 2400, .inl (iN s0.1)))] H := hP
    have hD : va_D A [(h, .inr (2, [.ref q, .int (nI s0.2), .int (nI (r0.1 + 1)), .int (bI r0.2)])), (q, .inl (cc, 2400, .inl (iN s0.1)))] := hD
    refine lv_goto (tgt := 30) hx hb d_Te_take_22 (by decide) ?_
    rw [tk, if_pos g9]
    exact eUv hx hb hr hlocks hP hD hS [0, 1] rfl rfl (by decide) d_Te_take_30

set_option maxHeartbeats 4000000 in
set_option maxRecDepth 100000 in
theorem c_Te_takeComma (l : Launch) (dC : Nat → ClassId) (dI : Nat → Nat → Nat) (z : zT) (sz : Nat) (h : Nat) (q : Nat) (cc : ClassId) (s0 : txT) (r0 : rdT) (k : Nat) (hs : s0.2 ≤ 2400) (hr1 : r0.1 ≤ s0.2) (ht8 : ∀ i, s0.1 i < 256) (hk : k < 100) : MU l y_Te_takeComma b_Te_takeComma 2 none 2 42 (dC, dI) z [.ref h, .int (nI k)] [(h, .inr (2, [.ref q, .int (nI s0.2), .int (nI r0.1), .int (bI r0.2)])), (q, .inl (cc, 2400, .inl (iN s0.1)))] [(cc, .char)] sz none [(h, .inr (2, [.ref q, .int (nI s0.2), .int (nI ((tkC s0.1 s0.2 k r0).1)), .int (bI ((tkC s0.1 s0.2 k r0).2))])), (q, .inl (cc, 2400, .inl (iN s0.1)))] := by
  refine metU (by decide) (Nat.le_of_ble_eq_true rfl) ?_
  intro p e s m below meth c ls A hx hb hr hlocks hml hown ht hl hP hK hSS hD hS hA
  have hl : lv_has ls 2 [(0, .ref h), (1, .int (nI k))] := hl
  refine lv_iload_n hx hb d_Te_takeComma_0 rfl (lv_at hl 1 rfl) ?_
  refine z_if_le (tgt := 10) hx hb d_Te_takeComma_1 (tI_n (by omega)) (by decide) (fun g1 => ?_) (fun g1 => ?_)
  · rw [tkC, if_neg (by omega)]
    exact eUv hx hb hr hlocks hP hD hS [0, 1] rfl rfl (by decide) d_Te_takeComma_10
  · refine lv_aload_n hx hb d_Te_takeComma_4 rfl (lv_at hl 0 rfl) ?_
    refine lv_bipush (v := nI 44) hx hb d_Te_takeComma_5 (by decide) ?_
    refine uV (As := [.int (nI 44)]) (rest := []) (wr := []) hx hb hml hown ht (c_Te_take l dC dI z _ h q cc s0 r0 44 (by first | assumption | omega) (by first | assumption | omega) (by first | assumption | omega) (by first | assumption | omega)) yv_Te_take k_425 (Nat.le_of_ble_eq_true rfl) (Nat.le_of_ble_eq_true rfl) hP hK hSS hD hS hA [0, 1] [] [0] rfl rfl (by decide) rfl (by decide) (by decide) rfl 0 2 rfl rfl rfl hl rfl rfl (Nat.le_of_ble_eq_true rfl) (Nat.zero_le _) (Nat.zero_le _) d_Te_takeComma_7 (fun H locs hP hD hS => ?_)
    have hP : va_P (dC, dI) classes [(h, .inr (2, [.ref q, .int (nI s0.2), .int (nI ((tk s0.1 s0.2 44 r0).1)), .int (bI ((tk s0.1 s0.2 44 r0).2))])), (q, .inl (cc, 2400, .inl (iN s0.1)))] H := hP
    have hD : va_D A [(h, .inr (2, [.ref q, .int (nI s0.2), .int (nI ((tk s0.1 s0.2 44 r0).1)), .int (bI ((tk s0.1 s0.2 44 r0).2))])), (q, .inl (cc, 2400, .inl (iN s0.1)))] := hD
    refine stk (st2 := []) rfl ?_
    rw [tkC, if_pos (by omega)]
    exact eUv hx hb hr hlocks hP hD hS [0, 1] rfl rfl (by decide) d_Te_takeComma_10

set_option maxHeartbeats 4000000 in
set_option maxRecDepth 100000 in
theorem c_Te_goesOnWith (l : Launch) (dC : Nat → ClassId) (dI : Nat → Nat → Nat) (z : zT) (h : Nat) (q : Nat) (cc : ClassId) (s0 : txT) (r0 : rdT) (i : Nat) (hs : s0.2 ≤ 2400) (hr1 : r0.1 ≤ s0.2) (ht8 : ∀ i, s0.1 i < 256) (hi : i < 14) : MR l y_Te_goesOnWith b_Te_goesOnWith 3 (some .boolean) 4 85 (dC, dI) z [.ref h, .ref (z.2.2.2.1 i)] [(h, .inr (2, [.ref q, .int (nI s0.2), .int (nI r0.1), .int (bI r0.2)])), (q, .inl (cc, 2400, .inl (iN s0.1)))] [(cc, .char)] (.int (bI (mL s0.1 s0.2 r0.1 (opL i)))) := by
  have hop := op_bd i hi
  refine metR (by decide) (Nat.le_of_ble_eq_true rfl) ?_
  intro p e s m below meth c ls hx hb hr hlocks hml hown ht hl hP hK hSS
  have hl : lv_has ls 3 [(0, .ref h), (1, .ref (z.2.2.2.1 i))] := hl
  have hS : va_S (fun _ => False) s.heap s.heap [] := va_S.rf
  refine lv_iconst (v := nI 0) hx hb d_Te_goesOnWith_0 (by decide) ?_
  refine lv_istore_n (lv' := [(2, .int (nI 0)), (0, .ref h), (1, .ref (z.2.2.2.1 i))]) hx hb d_Te_goesOnWith_1 rfl hl (Nat.le_of_ble_eq_true rfl) rfl (fun ls hl => ?_)
  have loop2 : ∀ (j : Nat) (k : Nat) (ls : Array Slot), (k + j = (opL i).length) → (mL s0.1 s0.2 r0.1 (opL i) = mL s0.1 s0.2 (r0.1 + k) ((opL i).drop k)) → lv_has ls 3 [(2, .int (nI k)), (0, .ref h), (1, .ref (z.2.2.2.1 i))] → W p l e (rmq 4 85) s m [.ref h, .ref (z.2.2.2.1 i)].toArray below meth c s.heap [] 0 0 (MQ below (k2_QcV (.int (bI (mL s0.1 s0.2 r0.1 (opL i))))) [.ref h, .ref (z.2.2.2.1 i)].toArray s 0 0 (fun _ => False)) (F0 m 2 ls []) := by
    intro j
    induction j with
    | zero =>
      intro k ls hk hR hl
      rw [List.drop_eq_nil_of_le (by omega)] at hR
      refine lv_iload_n hx hb d_Te_goesOnWith_2 rfl (lv_at hl 0 rfl) ?_
      refine lv_aload_n hx hb d_Te_goesOnWith_3 rfl (lv_at hl 2 rfl) ?_
      refine rVK (As := []) (rest := [.int (nI k)]) hx hb hml hown ht (c_St_length l dC dI z i (by first | assumption | omega)) yv_St_length k_285 (Nat.le_of_ble_eq_true rfl) (Nat.le_of_ble_eq_true rfl) hP hK hSS hS [] [] rfl rfl (vk_recv hSS.2.2.2.2.2.1 hi hS) hl rfl rfl (Nat.le_of_ble_eq_true rfl) (Nat.zero_le _) (Nat.zero_le _) d_Te_goesOnWith_4 ?_
      refine z_icmp_ge (tgt := 36) hx hb d_Te_goesOnWith_7 (tI_n (by omega)) (tI_n (by omega)) (by decide) (fun g7 => ?_) (fun g7 => ?_)
      · refine lv_iconst (v := nI 1) hx hb d_Te_goesOnWith_36 (by decide) ?_
        refine eqi (y := bI true) (by decide) ?_
        exact eRz hx hb hr hlocks (bI_narrow _) d_Te_goesOnWith_37 (by rw [hR]; rfl)
      · exfalso; omega
    | succ j ih =>
      intro k ls hk hR hl
      have hch := hop.2.2 k (by omega)
      have hat := atZ_in (n := s0.2) (x := ((r0.1 + k : Nat) : Int)) ht8
      refine lv_iload_n hx hb d_Te_goesOnWith_2 rfl (lv_at hl 0 rfl) ?_
      refine lv_aload_n hx hb d_Te_goesOnWith_3 rfl (lv_at hl 2 rfl) ?_
      refine rVK (As := []) (rest := [.int (nI k)]) hx hb hml hown ht (c_St_length l dC dI z i (by first | assumption | omega)) yv_St_length k_285 (Nat.le_of_ble_eq_true rfl) (Nat.le_of_ble_eq_true rfl) hP hK hSS hS [] [] rfl rfl (vk_recv hSS.2.2.2.2.2.1 hi hS) hl rfl rfl (Nat.le_of_ble_eq_true rfl) (Nat.zero_le _) (Nat.zero_le _) d_Te_goesOnWith_4 ?_
      refine z_icmp_ge (tgt := 36) hx hb d_Te_goesOnWith_7 (tI_n (by omega)) (tI_n (by omega)) (by decide) (fun g7 => ?_) (fun g7 => ?_)
      · exfalso; omega
      · refine lv_aload_n hx hb d_Te_goesOnWith_10 rfl (lv_at hl 1 rfl) ?_
        refine lv_aload_n hx hb d_Te_goesOnWith_11 rfl (lv_at hl 1 rfl) ?_
        refine va_get (D := (dC, dI)) (ci := 2) (v := .int (nI r0.1)) (C := R_Te) (T := F_Te) (N := 4) hx hb ht in_Te hown hK hP 0 rfl rfl 2 (by decide) (ht _ k_64) (fun _ h9 => h9) rfl d_Te_goesOnWith_12 ?_
        refine lv_iload_n hx hb d_Te_goesOnWith_15 rfl (lv_at hl 0 rfl) ?_
        refine nAdd hx hb d_Te_goesOnWith_16 ?_
        refine rV (As := [.int (nI (r0.1 + k))]) (rest := []) hx hb hml hown ht (c_Te_at l dC dI z h q cc s0 r0.1 r0.2 (nI (r0.1 + k)) ((r0.1 + k : Nat) : Int) (by first | assumption | omega) (tI_n (by omega))) yv_Te_at k_416 (Nat.le_of_ble_eq_true rfl) (Nat.le_of_ble_eq_true rfl) hP hK hSS hS [0, 1] [0] rfl rfl 0 2 rfl rfl rfl hl rfl rfl (Nat.le_of_ble_eq_true rfl) (Nat.zero_le _) (Nat.zero_le _) d_Te_goesOnWith_17 ?_
        refine lv_aload_n hx hb d_Te_goesOnWith_20 rfl (lv_at hl 2 rfl) ?_
        refine lv_iload_n hx hb d_Te_goesOnWith_21 rfl (lv_at hl 0 rfl) ?_
        refine rVK (As := [.int (nI k)]) (rest := [.int (iI (atZ s0.1 s0.2 ((r0.1 + k : Nat) : Int)))]) hx hb hml hown ht (c_St_charAt l dC dI z i k (by first | assumption | omega) (by omega)) yv_St_charAt k_295 (Nat.le_of_ble_eq_true rfl) (Nat.le_of_ble_eq_true rfl) hP hK hSS hS [] [] rfl rfl (vk_recv hSS.2.2.2.2.2.1 hi hS) hl rfl rfl (Nat.le_of_ble_eq_true rfl) (Nat.zero_le _) (Nat.zero_le _) d_Te_goesOnWith_22 ?_
        refine z_icmp_eq (tgt := 30) hx hb d_Te_goesOnWith_25 (iI_toInt (by omega) (by omega)) (tI_n (by omega)) (by decide) (fun g25 => ?_) (fun g25 => ?_)
        · refine lv_iinc (k := 0) (v := nI (k + 1)) (lv' := [(2, .int (nI (k + 1))), (0, .ref h), (1, .ref (z.2.2.2.1 i))]) hx hb d_Te_goesOnWith_30 hl rfl (nI_inc1 _) (Nat.le_of_ble_eq_true rfl) rfl (fun ls hl => ?_)
          refine lv_goto (tgt := 2) hx hb d_Te_goesOnWith_33 (by decide) ?_
          exact ih (k + 1) _ (by omega) (by rw [hR, drop_c (by omega), mL, if_pos g25]; rfl) (lv_sub hl [0, 1, 2] rfl)
        · refine lv_iconst (v := nI 0) hx hb d_Te_goesOnWith_28 (by decide) ?_
          refine eqi (y := bI false) (by decide) ?_
          exact eRz hx hb hr hlocks (bI_narrow _) d_Te_goesOnWith_29 (by rw [hR, drop_c (by omega), mL, if_neg g25])
  exact loop2 ((opL i).length) 0 _ (Nat.zero_add _) (rfl) (lv_sub hl [0, 1, 2] rfl)

set_option maxHeartbeats 4000000 in
set_option maxRecDepth 100000 in
theorem c_Te_takeKind (l : Launch) (dC : Nat → ClassId) (dI : Nat → Nat → Nat) (z : zT) (sz : Nat) (h : Nat) (q : Nat) (cc : ClassId) (s0 : txT) (r0 : rdT) (hs : s0.2 ≤ 2400) (hr1 : r0.1 ≤ s0.2) (ht8 : ∀ i, s0.1 i < 256) : MU l y_Te_takeKind b_Te_takeKind 3 (some .int) 5 107 (dC, dI) z [.ref h] [(h, .inr (2, [.ref q, .int (nI s0.2), .int (nI r0.1), .int (bI r0.2)])), (q, .inl (cc, 2400, .inl (iN s0.1)))] [(cc, .char)] sz (some (.int (oI (tkK1 s0.1 s0.2 r0)))) [(h, .inr (2, [.ref q, .int (nI s0.2), .int (nI ((tkK2 s0.1 s0.2 r0).1)), .int (bI ((tkK2 s0.1 s0.2 r0).2))])), (q, .inl (cc, 2400, .inl (iN s0.1)))] := by
  refine metU (by decide) (Nat.le_of_ble_eq_true rfl) ?_
  intro p e s m below meth c ls A hx hb hr hlocks hml hown ht hl hP hK hSS hD hS hA
  have hl : lv_has ls 3 [(0, .ref h)] := hl
  refine lv_iconst (v := nI 0) hx hb d_Te_takeKind_0 (by decide) ?_
  refine lv_istore_n (lv' := [(1, .int (nI 0)), (0, .ref h)]) hx hb d_Te_takeKind_1 rfl hl (Nat.le_of_ble_eq_true rfl) rfl (fun ls hl => ?_)
  have loop2 : ∀ (j : Nat) (k : Nat) (ls : Array Slot) (H : Heap) (locs : List Loc), (k + j = 14) → (tkK1 s0.1 s0.2 r0 = tkKF s0.1 s0.2 r0.1 j k) → lv_has ls 3 [(1, .int (nI k)), (0, .ref h)] → va_P (dC, dI) classes [(h, .inr (2, [.ref q, .int (nI s0.2), .int (nI r0.1), .int (bI r0.2)])), (q, .inl (cc, 2400, .inl (iN s0.1)))] H → va_D A [(h, .inr (2, [.ref q, .int (nI s0.2), .int (nI r0.1), .int (bI r0.2)])), (q, .inl (cc, 2400, .inl (iN s0.1)))] → va_S A s.heap H locs → W p l e (rmq 5 107) s m [.ref h].toArray below meth c H locs 0 0 (MQ below (qcU (some (.int (oI (tkK1 s0.1 s0.2 r0)))) (dC, dI) [(h, .inr (2, [.ref q, .int (nI s0.2), .int (nI ((tkK2 s0.1 s0.2 r0).1)), .int (bI ((tkK2 s0.1 s0.2 r0).2))])), (q, .inl (cc, 2400, .inl (iN s0.1)))] A) [.ref h].toArray s 0 0 A) (F0 m 2 ls []) := by
    intro j
    induction j with
    | zero =>
      intro k ls H locs hk hR hl hP hD hS
      refine lv_iload_n hx hb d_Te_takeKind_2 rfl (lv_at hl 0 rfl) ?_
      refine lv_bipush (v := nI 14) hx hb d_Te_takeKind_3 (by decide) ?_
      refine z_icmp_ge (tgt := 42) hx hb d_Te_takeKind_5 (tI_n (by omega)) (tI_n (by omega)) (by decide) (fun g5 => ?_) (fun g5 => ?_)
      · refine lv_aload_n hx hb d_Te_takeKind_42 rfl (lv_at hl 1 rfl) ?_
        refine lv_iconst (v := nI 0) hx hb d_Te_takeKind_43 (by decide) ?_
        refine eqi (y := bI false) (by decide) ?_
        refine va_put (D := (dC, dI)) (ci := 2) (v := .int (bI false)) (ty := .boolean) (C := R_Te) (T := F_Te) (N := 4) hx hb ht in_Te t_Te t_Te_ok n_Te hown hK hP hD hS 0 rfl rfl 3 (by decide) (ht _ k_65) (fun _ h9 => h9) rfl (by decide +kernel) (bI_narrow _) (bI_fits _) (Nat.le_of_ble_eq_true rfl) d_Te_takeKind_44 (fun H locs hP hD hS => ?_)
        have hP : va_P (dC, dI) classes [(h, .inr (2, [.ref q, .int (nI s0.2), .int (nI r0.1), .int (bI false)])), (q, .inl (cc, 2400, .inl (iN s0.1)))] H := hP
        have hD : va_D A [(h, .inr (2, [.ref q, .int (nI s0.2), .int (nI r0.1), .int (bI false)])), (q, .inl (cc, 2400, .inl (iN s0.1)))] := hD
        refine lv_iconst (v := iI (-1)) hx hb d_Te_takeKind_47 (by decide) ?_
        rw [tkK_n hR]
        exact eUi hx hb hr hlocks hP hD hS [0, 1] rfl rfl (by decide) d_Te_takeKind_48 (by rw [hR]; rfl)
      · exfalso; omega
    | succ j ih =>
      intro k ls H locs hk hR hl hP hD hS
      have hop := op_bd k (by omega)
      refine lv_iload_n hx hb d_Te_takeKind_2 rfl (lv_at hl 0 rfl) ?_
      refine lv_bipush (v := nI 14) hx hb d_Te_takeKind_3 (by decide) ?_
      refine z_icmp_ge (tgt := 42) hx hb d_Te_takeKind_5 (tI_n (by omega)) (tI_n (by omega)) (by decide) (fun g5 => ?_) (fun g5 => ?_)
      · exfalso; omega
      · refine lv_iload_n hx hb d_Te_takeKind_8 rfl (lv_at hl 0 rfl) ?_
        refine rS (As := [.int (nI k)]) (rest := []) hx hb hml hown ht (c_Ki_opening l dC dI z k (by first | assumption | omega)) ys_Ki_opening k_268 (Nat.le_of_ble_eq_true rfl) (Nat.le_of_ble_eq_true rfl) hP hK hSS hS [] [] rfl rfl hl rfl rfl (Nat.le_of_ble_eq_true rfl) (Nat.zero_le _) (Nat.zero_le _) d_Te_takeKind_9 ?_
        refine lv_astore_n (lv' := [(2, .ref (z.2.2.2.1 k)), (1, .int (nI k)), (0, .ref h)]) hx hb d_Te_takeKind_12 rfl hl (Nat.le_of_ble_eq_true rfl) rfl (fun ls hl => ?_)
        refine lv_aload_n hx hb d_Te_takeKind_13 rfl (lv_at hl 2 rfl) ?_
        refine lv_aload_n hx hb d_Te_takeKind_14 rfl (lv_at hl 0 rfl) ?_
        refine rV (As := [.ref (z.2.2.2.1 k)]) (rest := []) hx hb hml hown ht (c_Te_goesOnWith l dC dI z h q cc s0 r0 k (by first | assumption | omega) (by first | assumption | omega) (by first | assumption | omega) (by first | assumption | omega)) yv_Te_goesOnWith k_412 (Nat.le_of_ble_eq_true rfl) (Nat.le_of_ble_eq_true rfl) hP hK hSS hS [0, 1] [0] rfl rfl 0 2 rfl rfl rfl hl rfl rfl (Nat.le_of_ble_eq_true rfl) (Nat.zero_le _) (Nat.zero_le _) d_Te_takeKind_15 ?_
        refine b_if_eq (tgt := 36) hx hb d_Te_takeKind_18 (by decide) (fun g18 => ?_) (fun g18 => ?_)
        · refine lv_iinc (k := 1) (v := nI (k + 1)) (lv' := [(1, .int (nI (k + 1))), (2, .ref (z.2.2.2.1 k)), (0, .ref h)]) hx hb d_Te_takeKind_36 hl rfl (nI_inc1 _) (Nat.le_of_ble_eq_true rfl) rfl (fun ls hl => ?_)
          refine lv_goto (tgt := 2) hx hb d_Te_takeKind_39 (by decide) ?_
          exact ih (k + 1) _ _ _ (by omega) (by rw [hR, tkKF, if_neg (by rw [g18]; decide)]) (lv_sub hl [0, 2] rfl) (hP.sub [0, 1] rfl) (hD.sub [0, 1] (by decide) rfl) hS
        · refine lv_aload_n hx hb d_Te_takeKind_21 rfl (lv_at hl 2 rfl) ?_
          refine lv_dup hx hb d_Te_takeKind_22 rfl ?_
          refine va_get (D := (dC, dI)) (ci := 2) (v := .int (nI r0.1)) (C := R_Te) (T := F_Te) (N := 4) hx hb ht in_Te hown hK hP 0 rfl rfl 2 (by decide) (ht _ k_64) (fun _ h9 => h9) rfl d_Te_takeKind_23 ?_
          refine lv_aload_n hx hb d_Te_takeKind_26 rfl (lv_at hl 0 rfl) ?_
          refine rVK (As := []) (rest := [.int (nI r0.1), .ref h]) hx hb hml hown ht (c_St_length l dC dI z k (by omega)) yv_St_length k_285 (Nat.le_of_ble_eq_true rfl) (Nat.le_of_ble_eq_true rfl) hP hK hSS hS [] [] rfl rfl (vk_recv hSS.2.2.2.2.2.1 (by omega) hS) hl rfl rfl (Nat.le_of_ble_eq_true rfl) (Nat.zero_le _) (Nat.zero_le _) d_Te_takeKind_27 ?_
          refine nAdd hx hb d_Te_takeKind_30 ?_
          refine va_put (D := (dC, dI)) (ci := 2) (v := .int (nI (r0.1 + ((opL k).length)))) (ty := .int) (C := R_Te) (T := F_Te) (N := 4) hx hb ht in_Te t_Te t_Te_ok n_Te hown hK hP hD hS 0 rfl rfl 2 (by decide) (ht _ k_64) (fun _ h9 => h9) rfl (by decide +kernel) rfl rfl (Nat.le_of_ble_eq_true rfl) d_Te_takeKind_31 (fun H locs hP hD hS => ?_)
          have hP : va_P (dC, dI) classes [(h, .inr (2, [.ref q, .int (nI s0.2), .int (nI (r0.1 + ((opL k).length))), .int (bI r0.2)])), (q, .inl (cc, 2400, .inl (iN s0.1)))] H := hP
          have hD : va_D A [(h, .inr (2, [.ref q, .int (nI s0.2), .int (nI (r0.1 + ((opL k).length))), .int (bI r0.2)])), (q, .inl (cc, 2400, .inl (iN s0.1)))] := hD
          refine lv_iload_n hx hb d_Te_takeKind_34 rfl (lv_at hl 1 rfl) ?_
          have hRk : tkK1 s0.1 s0.2 r0 = some k := by rw [hR, tkKF, if_pos g18]
          rw [tkK_y hRk]
          exact eUi hx hb hr hlocks hP hD hS [0, 1] rfl rfl (by decide) d_Te_takeKind_35 (by rw [hRk]; rfl)
  exact loop2 14 0 _ _ _ (rfl) (rfl) (lv_sub hl [0, 1] rfl) (hP.sub [0, 1] rfl) (hD.sub [0, 1] (by decide) rfl) hS

set_option maxHeartbeats 4000000 in
set_option maxRecDepth 100000 in
theorem c_Te_takeRegister (l : Launch) (dC : Nat → ClassId) (dI : Nat → Nat → Nat) (z : zT) (sz : Nat) (h : Nat) (q : Nat) (cc : ClassId) (s0 : txT) (r0 : rdT) (hs : s0.2 ≤ 2400) (hr1 : r0.1 ≤ s0.2) (ht8 : ∀ i, s0.1 i < 256) : MU l y_Te_takeRegister b_Te_takeRegister 2 (some .int) 2 42 (dC, dI) z [.ref h] [(h, .inr (2, [.ref q, .int (nI s0.2), .int (nI r0.1), .int (bI r0.2)])), (q, .inl (cc, 2400, .inl (iN s0.1)))] [(cc, .char)] sz (some (.int (nI (tkR1 s0.1 s0.2 r0)))) [(h, .inr (2, [.ref q, .int (nI s0.2), .int (nI ((tkR2 s0.1 s0.2 r0).1)), .int (bI ((tkR2 s0.1 s0.2 r0).2))])), (q, .inl (cc, 2400, .inl (iN s0.1)))] := by
  have htk := tk_le (t := s0.1) (c := 114) hr1
  have hat := atZ_in (n := s0.2) (x := ((tk s0.1 s0.2 114 r0).1 : Int)) ht8
  refine metU (by decide) (Nat.le_of_ble_eq_true rfl) ?_
  intro p e s m below meth c ls A hx hb hr hlocks hml hown ht hl hP hK hSS hD hS hA
  have hl : lv_has ls 2 [(0, .ref h)] := hl
  refine lv_aload_n hx hb d_Te_takeRegister_0 rfl (lv_at hl 0 rfl) ?_
  refine lv_bipush (v := nI 114) hx hb d_Te_takeRegister_1 (by decide) ?_
  refine uV (As := [.int (nI 114)]) (rest := []) (wr := []) hx hb hml hown ht (c_Te_take l dC dI z _ h q cc s0 r0 114 (by first | assumption | omega) (by first | assumption | omega) (by first | assumption | omega) (by first | assumption | omega)) yv_Te_take k_425 (Nat.le_of_ble_eq_true rfl) (Nat.le_of_ble_eq_true rfl) hP hK hSS hD hS hA [0, 1] [] [0] rfl rfl (by decide) rfl (by decide) (by decide) rfl 0 2 rfl rfl rfl hl rfl rfl (Nat.le_of_ble_eq_true rfl) (Nat.zero_le _) (Nat.zero_le _) d_Te_takeRegister_3 (fun H locs hP hD hS => ?_)
  have hP : va_P (dC, dI) classes [(h, .inr (2, [.ref q, .int (nI s0.2), .int (nI ((tk s0.1 s0.2 114 r0).1)), .int (bI ((tk s0.1 s0.2 114 r0).2))])), (q, .inl (cc, 2400, .inl (iN s0.1)))] H := hP
  have hD : va_D A [(h, .inr (2, [.ref q, .int (nI s0.2), .int (nI ((tk s0.1 s0.2 114 r0).1)), .int (bI ((tk s0.1 s0.2 114 r0).2))])), (q, .inl (cc, 2400, .inl (iN s0.1)))] := hD
  refine stk (st2 := []) rfl ?_
  refine lv_aload_n hx hb d_Te_takeRegister_6 rfl (lv_at hl 0 rfl) ?_
  refine lv_aload_n hx hb d_Te_takeRegister_7 rfl (lv_at hl 0 rfl) ?_
  refine va_get (D := (dC, dI)) (ci := 2) (v := .int (nI ((tk s0.1 s0.2 114 r0).1))) (C := R_Te) (T := F_Te) (N := 4) hx hb ht in_Te hown hK hP 0 rfl rfl 2 (by decide) (ht _ k_64) (fun _ h9 => h9) rfl d_Te_takeRegister_8 ?_
  refine rV (As := [.int (nI ((tk s0.1 s0.2 114 r0).1))]) (rest := []) hx hb hml hown ht (c_Te_at l dC dI z h q cc s0 ((tk s0.1 s0.2 114 r0).1) ((tk s0.1 s0.2 114 r0).2) (nI ((tk s0.1 s0.2 114 r0).1)) (((tk s0.1 s0.2 114 r0).1 : Nat) : Int) (by first | assumption | omega) (tI_n (by omega))) yv_Te_at k_416 (Nat.le_of_ble_eq_true rfl) (Nat.le_of_ble_eq_true rfl) hP hK hSS hS [0, 1] [0] rfl rfl 0 2 rfl rfl rfl hl rfl rfl (Nat.le_of_ble_eq_true rfl) (Nat.zero_le _) (Nat.zero_le _) d_Te_takeRegister_11 ?_
  refine lv_bipush (v := nI 48) hx hb d_Te_takeRegister_14 (by decide) ?_
  refine zSub hx hb d_Te_takeRegister_16 rfl (nI_iI _) ?_
  refine lv_istore_n (lv' := [(1, .int (iI ((atZ s0.1 s0.2 (((tk s0.1 s0.2 114 r0).1 : Nat) : Int)) - ((48 : Nat) : Int)))), (0, .ref h)]) hx hb d_Te_takeRegister_17 rfl hl (Nat.le_of_ble_eq_true rfl) rfl (fun ls hl => ?_)
  refine lv_iload_n hx hb d_Te_takeRegister_18 rfl (lv_at hl 0 rfl) ?_
  refine z_if_lt (tgt := 27) hx hb d_Te_takeRegister_19 (iI_toInt (by omega) (by omega)) (by decide) (fun g19 => ?_) (fun g19 => ?_)
  · refine lv_aload_n hx hb d_Te_takeRegister_27 rfl (lv_at hl 1 rfl) ?_
    refine lv_iconst (v := nI 0) hx hb d_Te_takeRegister_28 (by decide) ?_
    refine eqi (y := bI false) (by decide) ?_
    refine va_put (D := (dC, dI)) (ci := 2) (v := .int (bI false)) (ty := .boolean) (C := R_Te) (T := F_Te) (N := 4) hx hb ht in_Te t_Te t_Te_ok n_Te hown hK hP hD hS 0 rfl rfl 3 (by decide) (ht _ k_65) (fun _ h9 => h9) rfl (by decide +kernel) (bI_narrow _) (bI_fits _) (Nat.le_of_ble_eq_true rfl) d_Te_takeRegister_29 (fun H locs hP hD hS => ?_)
    have hP : va_P (dC, dI) classes [(h, .inr (2, [.ref q, .int (nI s0.2), .int (nI ((tk s0.1 s0.2 114 r0).1)), .int (bI false)])), (q, .inl (cc, 2400, .inl (iN s0.1)))] H := hP
    have hD : va_D A [(h, .inr (2, [.ref q, .int (nI s0.2), .int (nI ((tk s0.1 s0.2 114 r0).1)), .int (bI false)])), (q, .inl (cc, 2400, .inl (iN s0.1)))] := hD
    refine lv_iconst (v := nI 0) hx hb d_Te_takeRegister_32 (by decide) ?_
    rw [tkR2, if_pos (by omega)]
    exact eUi hx hb hr hlocks hP hD hS [0, 1] rfl rfl (by decide) d_Te_takeRegister_33 (by rw [tkR1, if_pos (by omega)])
  · refine lv_iload_n hx hb d_Te_takeRegister_22 rfl (lv_at hl 0 rfl) ?_
    refine lv_iconst (v := nI 3) hx hb d_Te_takeRegister_23 (by decide) ?_
    refine z_icmp_le (tgt := 34) hx hb d_Te_takeRegister_24 (iI_toInt (by omega) (by omega)) (tI_n (by omega)) (by decide) (fun g24 => ?_) (fun g24 => ?_)
    · refine lv_aload_n hx hb d_Te_takeRegister_34 rfl (lv_at hl 1 rfl) ?_
      refine lv_dup hx hb d_Te_takeRegister_35 rfl ?_
      refine va_get (D := (dC, dI)) (ci := 2) (v := .int (nI ((tk s0.1 s0.2 114 r0).1))) (C := R_Te) (T := F_Te) (N := 4) hx hb ht in_Te hown hK hP 0 rfl rfl 2 (by decide) (ht _ k_64) (fun _ h9 => h9) rfl d_Te_takeRegister_36 ?_
      refine lv_iconst (v := nI 1) hx hb d_Te_takeRegister_39 (by decide) ?_
      refine nAdd hx hb d_Te_takeRegister_40 ?_
      refine va_put (D := (dC, dI)) (ci := 2) (v := .int (nI (((tk s0.1 s0.2 114 r0).1) + 1))) (ty := .int) (C := R_Te) (T := F_Te) (N := 4) hx hb ht in_Te t_Te t_Te_ok n_Te hown hK hP hD hS 0 rfl rfl 2 (by decide) (ht _ k_64) (fun _ h9 => h9) rfl (by decide +kernel) rfl rfl (Nat.le_of_ble_eq_true rfl) d_Te_takeRegister_41 (fun H locs hP hD hS => ?_)
      have hP : va_P (dC, dI) classes [(h, .inr (2, [.ref q, .int (nI s0.2), .int (nI (((tk s0.1 s0.2 114 r0).1) + 1)), .int (bI ((tk s0.1 s0.2 114 r0).2))])), (q, .inl (cc, 2400, .inl (iN s0.1)))] H := hP
      have hD : va_D A [(h, .inr (2, [.ref q, .int (nI s0.2), .int (nI (((tk s0.1 s0.2 114 r0).1) + 1)), .int (bI ((tk s0.1 s0.2 114 r0).2))])), (q, .inl (cc, 2400, .inl (iN s0.1)))] := hD
      refine lv_iload_n hx hb d_Te_takeRegister_44 rfl (lv_at hl 0 rfl) ?_
      rw [tkR2, if_neg (by omega)]
      exact eUi hx hb hr hlocks hP hD hS [0, 1] rfl rfl (by decide) d_Te_takeRegister_45 (by rw [tkR1, if_neg (by omega), nI_iI]; congr 1; omega)
    · refine lv_aload_n hx hb d_Te_takeRegister_27 rfl (lv_at hl 1 rfl) ?_
      refine lv_iconst (v := nI 0) hx hb d_Te_takeRegister_28 (by decide) ?_
      refine eqi (y := bI false) (by decide) ?_
      refine va_put (D := (dC, dI)) (ci := 2) (v := .int (bI false)) (ty := .boolean) (C := R_Te) (T := F_Te) (N := 4) hx hb ht in_Te t_Te t_Te_ok n_Te hown hK hP hD hS 0 rfl rfl 3 (by decide) (ht _ k_65) (fun _ h9 => h9) rfl (by decide +kernel) (bI_narrow _) (bI_fits _) (Nat.le_of_ble_eq_true rfl) d_Te_takeRegister_29 (fun H locs hP hD hS => ?_)
      have hP : va_P (dC, dI) classes [(h, .inr (2, [.ref q, .int (nI s0.2), .int (nI ((tk s0.1 s0.2 114 r0).1)), .int (bI false)])), (q, .inl (cc, 2400, .inl (iN s0.1)))] H := hP
      have hD : va_D A [(h, .inr (2, [.ref q, .int (nI s0.2), .int (nI ((tk s0.1 s0.2 114 r0).1)), .int (bI false)])), (q, .inl (cc, 2400, .inl (iN s0.1)))] := hD
      refine lv_iconst (v := nI 0) hx hb d_Te_takeRegister_32 (by decide) ?_
      rw [tkR2, if_pos (by omega)]
      exact eUi hx hb hr hlocks hP hD hS [0, 1] rfl rfl (by decide) d_Te_takeRegister_33 (by rw [tkR1, if_pos (by omega)])

set_option maxHeartbeats 4000000 in
set_option maxRecDepth 100000 in
theorem c_Te_isDigit (l : Launch) (dC : Nat → ClassId) (dI : Nat → Nat → Nat) (z : zT) (x : Int32) (y : Int) (hy : x.toInt = y) : MR l y_Te_isDigit b_Te_isDigit 1 (some .boolean) 0 0 (dC, dI) z [.int x] [] [] (.int (bI (decide (48 ≤ y ∧ y ≤ 57)))) := by
  refine metR (by decide) (Nat.le_of_ble_eq_true rfl) ?_
  intro p e s m below meth c ls hx hb hr hlocks hml hown ht hl hP hK hSS
  have hl : lv_has ls 1 [(0, .int x)] := hl
  have hS : va_S (fun _ => False) s.heap s.heap [] := va_S.rf
  refine lv_iload_n hx hb d_Te_isDigit_0 rfl (lv_at hl 0 rfl) ?_
  refine lv_bipush (v := nI 48) hx hb d_Te_isDigit_1 (by decide) ?_
  refine z_icmp_lt (tgt := 16) hx hb d_Te_isDigit_3 hy (tI_n (by omega)) (by decide) (fun g3 => ?_) (fun g3 => ?_)
  · refine lv_iconst (v := nI 0) hx hb d_Te_isDigit_16 (by decide) ?_
    refine eqi (y := bI false) (by decide) ?_
    exact eRz hx hb hr hlocks (bI_narrow _) d_Te_isDigit_17 (bI_zero (by omega))
  · refine lv_iload_n hx hb d_Te_isDigit_6 rfl (lv_at hl 0 rfl) ?_
    refine lv_bipush (v := nI 57) hx hb d_Te_isDigit_7 (by decide) ?_
    refine z_icmp_gt (tgt := 16) hx hb d_Te_isDigit_9 hy (tI_n (by omega)) (by decide) (fun g9 => ?_) (fun g9 => ?_)
    · refine lv_iconst (v := nI 0) hx hb d_Te_isDigit_16 (by decide) ?_
      refine eqi (y := bI false) (by decide) ?_
      exact eRz hx hb hr hlocks (bI_narrow _) d_Te_isDigit_17 (bI_zero (by omega))
    · refine lv_iconst (v := nI 1) hx hb d_Te_isDigit_12 (by decide) ?_
      refine lv_goto (tgt := 17) hx hb d_Te_isDigit_13 (by decide) ?_
      refine eqi (y := bI true) (by decide) ?_
      exact eRz hx hb hr hlocks (bI_narrow _) d_Te_isDigit_17 (bI_one (by omega))

set_option maxHeartbeats 4000000 in
set_option maxRecDepth 100000 in
theorem c_Te_takeAmount (l : Launch) (dC : Nat → ClassId) (dI : Nat → Nat → Nat) (z : zT) (sz : Nat) (h : Nat) (q : Nat) (cc : ClassId) (s0 : txT) (r0 : rdT) (hs : s0.2 ≤ 2400) (hr1 : r0.1 ≤ s0.2) (ht8 : ∀ i, s0.1 i < 256) : MU l y_Te_takeAmount b_Te_takeAmount 4 (some .int) 1 21 (dC, dI) z [.ref h] [(h, .inr (2, [.ref q, .int (nI s0.2), .int (nI r0.1), .int (bI r0.2)])), (q, .inl (cc, 2400, .inl (iN s0.1)))] [(cc, .char)] sz (some (.int (nI (tkA1 s0.1 s0.2 r0)))) [(h, .inr (2, [.ref q, .int (nI s0.2), .int (nI ((tkA2 s0.1 s0.2 r0).1)), .int (bI ((tkA2 s0.1 s0.2 r0).2))])), (q, .inl (cc, 2400, .inl (iN s0.1)))] := by
  refine metU (by decide) (Nat.le_of_ble_eq_true rfl) ?_
  intro p e s m below meth c ls A hx hb hr hlocks hml hown ht hl hP hK hSS hD hS hA
  have hl : lv_has ls 4 [(0, .ref h)] := hl
  refine lv_aload_n hx hb d_Te_takeAmount_0 rfl (lv_at hl 0 rfl) ?_
  refine va_get (D := (dC, dI)) (ci := 2) (v := .int (nI r0.1)) (C := R_Te) (T := F_Te) (N := 4) hx hb ht in_Te hown hK hP 0 rfl rfl 2 (by decide) (ht _ k_64) (fun _ h9 => h9) rfl d_Te_takeAmount_1 ?_
  refine lv_istore_n (lv' := [(1, .int (nI r0.1)), (0, .ref h)]) hx hb d_Te_takeAmount_4 rfl hl (Nat.le_of_ble_eq_true rfl) rfl (fun ls hl => ?_)
  refine lv_iconst (v := nI 0) hx hb d_Te_takeAmount_5 (by decide) ?_
  refine lv_istore_n (lv' := [(2, .int (nI 0)), (1, .int (nI r0.1)), (0, .ref h)]) hx hb d_Te_takeAmount_6 rfl hl (Nat.le_of_ble_eq_true rfl) rfl (fun ls hl => ?_)
  refine lv_iconst (v := nI 0) hx hb d_Te_takeAmount_7 (by decide) ?_
  refine lv_istore_n (lv' := [(3, .int (nI 0)), (2, .int (nI 0)), (1, .int (nI r0.1)), (0, .ref h)]) hx hb d_Te_takeAmount_8 rfl hl (Nat.le_of_ble_eq_true rfl) rfl (fun ls hl => ?_)
  have loop9 : ∀ (j : Nat) (k : Nat) (pl : Nat) (a : Nat) (ls : Array Slot) (H : Heap) (locs : List Loc), (k + j = 5) → (tkAF s0.1 s0.2 5 r0.1 0 = tkAF s0.1 s0.2 j pl a) → (r0.1 ≤ pl) → (pl ≤ s0.2) → (a < 10 ^ k) → lv_has ls 4 [(3, .int (nI k)), (2, .int (nI a)), (1, .int (nI r0.1)), (0, .ref h)] → va_P (dC, dI) classes [(h, .inr (2, [.ref q, .int (nI s0.2), .int (nI pl), .int (bI r0.2)])), (q, .inl (cc, 2400, .inl (iN s0.1)))] H → va_D A [(h, .inr (2, [.ref q, .int (nI s0.2), .int (nI pl), .int (bI r0.2)])), (q, .inl (cc, 2400, .inl (iN s0.1)))] → va_S A s.heap H locs → W p l e (rmq 1 21) s m [.ref h].toArray below meth c H locs 0 0 (MQ below (qcU (some (.int (nI (tkA1 s0.1 s0.2 r0)))) (dC, dI) [(h, .inr (2, [.ref q, .int (nI s0.2), .int (nI ((tkA2 s0.1 s0.2 r0).1)), .int (bI ((tkA2 s0.1 s0.2 r0).2))])), (q, .inl (cc, 2400, .inl (iN s0.1)))] A) [.ref h].toArray s 0 0 A) (F0 m 9 ls []) := by
    intro j
    induction j with
    | zero =>
      intro k pl a ls H locs hk hR hp1 hp2 ha hl hP hD hS
      have hat0 := atZ_in (n := s0.2) (x := (r0.1 : Int)) ht8
      have hRe : tkAF s0.1 s0.2 5 r0.1 0 = (pl, a) := hR
      refine lv_iload_n hx hb d_Te_takeAmount_9 rfl (lv_at hl 0 rfl) ?_
      refine lv_iconst (v := nI 5) hx hb d_Te_takeAmount_10 (by decide) ?_
      refine z_icmp_ge (tgt := 61) hx hb d_Te_takeAmount_11 (tI_n (by omega)) (tI_n (by omega)) (by decide) (fun g11 => ?_) (fun g11 => ?_)
      · refine lv_aload_n hx hb d_Te_takeAmount_61 rfl (lv_at hl 3 rfl) ?_
        refine va_get (D := (dC, dI)) (ci := 2) (v := .int (nI pl)) (C := R_Te) (T := F_Te) (N := 4) hx hb ht in_Te hown hK hP 0 rfl rfl 2 (by decide) (ht _ k_64) (fun _ h9 => h9) rfl d_Te_takeAmount_62 ?_
        refine lv_iload_n hx hb d_Te_takeAmount_65 rfl (lv_at hl 2 rfl) ?_
        refine nSub hx hb d_Te_takeAmount_66 (by omega) ?_
        refine lv_istore_n (lv' := [(3, .int (nI (pl - r0.1))), (2, .int (nI a)), (1, .int (nI r0.1)), (0, .ref h)]) hx hb d_Te_takeAmount_67 rfl hl (Nat.le_of_ble_eq_true rfl) rfl (fun ls hl => ?_)
        refine lv_iload_n hx hb d_Te_takeAmount_68 rfl (lv_at hl 0 rfl) ?_
        refine z_if_eq (tgt := 87) hx hb d_Te_takeAmount_69 (tI_n (by omega)) (by decide) (fun g69 => ?_) (fun g69 => ?_)
        · refine lv_aload_n hx hb d_Te_takeAmount_87 rfl (lv_at hl 3 rfl) ?_
          refine lv_iconst (v := nI 0) hx hb d_Te_takeAmount_88 (by decide) ?_
          refine eqi (y := bI false) (by decide) ?_
          refine va_put (D := (dC, dI)) (ci := 2) (v := .int (bI false)) (ty := .boolean) (C := R_Te) (T := F_Te) (N := 4) hx hb ht in_Te t_Te t_Te_ok n_Te hown hK hP hD hS 0 rfl rfl 3 (by decide) (ht _ k_65) (fun _ h9 => h9) rfl (by decide +kernel) (bI_narrow _) (bI_fits _) (Nat.le_of_ble_eq_true rfl) d_Te_takeAmount_89 (fun H locs hP hD hS => ?_)
          have hP : va_P (dC, dI) classes [(h, .inr (2, [.ref q, .int (nI s0.2), .int (nI pl), .int (bI false)])), (q, .inl (cc, 2400, .inl (iN s0.1)))] H := hP
          have hD : va_D A [(h, .inr (2, [.ref q, .int (nI s0.2), .int (nI pl), .int (bI false)])), (q, .inl (cc, 2400, .inl (iN s0.1)))] := hD
          refine lv_iload_n hx hb d_Te_takeAmount_92 rfl (lv_at hl 1 rfl) ?_
          rw [tkA2_y hRe (by omega)]
          exact eUi hx hb hr hlocks hP hD hS [0, 1] rfl rfl (by decide) d_Te_takeAmount_93 (by rw [tkA1_e hRe])
        · refine lv_iload_n hx hb d_Te_takeAmount_72 rfl (lv_at hl 0 rfl) ?_
          refine lv_iconst (v := nI 1) hx hb d_Te_takeAmount_73 (by decide) ?_
          refine z_icmp_le (tgt := 92) hx hb d_Te_takeAmount_74 (tI_n (by omega)) (tI_n (by omega)) (by decide) (fun g74 => ?_) (fun g74 => ?_)
          · refine lv_iload_n hx hb d_Te_takeAmount_92 rfl (lv_at hl 1 rfl) ?_
            rw [tkA2_n hRe (by omega)]
            exact eUi hx hb hr hlocks hP hD hS [0, 1] rfl rfl (by decide) d_Te_takeAmount_93 (by rw [tkA1_e hRe])
          · refine lv_aload_n hx hb d_Te_takeAmount_77 rfl (lv_at hl 3 rfl) ?_
            refine lv_iload_n hx hb d_Te_takeAmount_78 rfl (lv_at hl 2 rfl) ?_
            refine rV (As := [.int (nI r0.1)]) (rest := []) hx hb hml hown ht (c_Te_at l dC dI z h q cc s0 pl r0.2 (nI r0.1) ((r0.1 : Nat) : Int) (by first | assumption | omega) (tI_n (by omega))) yv_Te_at k_416 (Nat.le_of_ble_eq_true rfl) (Nat.le_of_ble_eq_true rfl) hP hK hSS hS [0, 1] [0] rfl rfl 0 2 rfl rfl rfl hl rfl rfl (Nat.le_of_ble_eq_true rfl) (Nat.zero_le _) (Nat.zero_le _) d_Te_takeAmount_79 ?_
            refine lv_bipush (v := nI 48) hx hb d_Te_takeAmount_82 (by decide) ?_
            refine z_icmp_ne (tgt := 92) hx hb d_Te_takeAmount_84 (iI_toInt (by omega) (by omega)) (tI_n (by omega)) (by decide) (fun g84 => ?_) (fun g84 => ?_)
            · refine lv_iload_n hx hb d_Te_takeAmount_92 rfl (lv_at hl 1 rfl) ?_
              rw [tkA2_n hRe (by omega)]
              exact eUi hx hb hr hlocks hP hD hS [0, 1] rfl rfl (by decide) d_Te_takeAmount_93 (by rw [tkA1_e hRe])
            · refine lv_aload_n hx hb d_Te_takeAmount_87 rfl (lv_at hl 3 rfl) ?_
              refine lv_iconst (v := nI 0) hx hb d_Te_takeAmount_88 (by decide) ?_
              refine eqi (y := bI false) (by decide) ?_
              refine va_put (D := (dC, dI)) (ci := 2) (v := .int (bI false)) (ty := .boolean) (C := R_Te) (T := F_Te) (N := 4) hx hb ht in_Te t_Te t_Te_ok n_Te hown hK hP hD hS 0 rfl rfl 3 (by decide) (ht _ k_65) (fun _ h9 => h9) rfl (by decide +kernel) (bI_narrow _) (bI_fits _) (Nat.le_of_ble_eq_true rfl) d_Te_takeAmount_89 (fun H locs hP hD hS => ?_)
              have hP : va_P (dC, dI) classes [(h, .inr (2, [.ref q, .int (nI s0.2), .int (nI pl), .int (bI false)])), (q, .inl (cc, 2400, .inl (iN s0.1)))] H := hP
              have hD : va_D A [(h, .inr (2, [.ref q, .int (nI s0.2), .int (nI pl), .int (bI false)])), (q, .inl (cc, 2400, .inl (iN s0.1)))] := hD
              refine lv_iload_n hx hb d_Te_takeAmount_92 rfl (lv_at hl 1 rfl) ?_
              rw [tkA2_y hRe (by omega)]
              exact eUi hx hb hr hlocks hP hD hS [0, 1] rfl rfl (by decide) d_Te_takeAmount_93 (by rw [tkA1_e hRe])
      · exfalso; omega
    | succ j ih =>
      intro k pl a ls H locs hk hR hp1 hp2 ha hl hP hD hS
      have hat0 := atZ_in (n := s0.2) (x := (r0.1 : Int)) ht8
      have hat := atZ_in (n := s0.2) (x := (pl : Int)) ht8
      have h10 : 10 ^ k ≤ 10 ^ 4 := Nat.pow_le_pow_right (by omega) (by omega)
      refine lv_iload_n hx hb d_Te_takeAmount_9 rfl (lv_at hl 0 rfl) ?_
      refine lv_iconst (v := nI 5) hx hb d_Te_takeAmount_10 (by decide) ?_
      refine z_icmp_ge (tgt := 61) hx hb d_Te_takeAmount_11 (tI_n (by omega)) (tI_n (by omega)) (by decide) (fun g11 => ?_) (fun g11 => ?_)
      · exfalso; omega
      · refine lv_aload_n hx hb d_Te_takeAmount_14 rfl (lv_at hl 3 rfl) ?_
        refine lv_aload_n hx hb d_Te_takeAmount_15 rfl (lv_at hl 3 rfl) ?_
        refine va_get (D := (dC, dI)) (ci := 2) (v := .int (nI pl)) (C := R_Te) (T := F_Te) (N := 4) hx hb ht in_Te hown hK hP 0 rfl rfl 2 (by decide) (ht _ k_64) (fun _ h9 => h9) rfl d_Te_takeAmount_16 ?_
        refine rV (As := [.int (nI pl)]) (rest := []) hx hb hml hown ht (c_Te_at l dC dI z h q cc s0 pl r0.2 (nI pl) ((pl : Nat) : Int) (by first | assumption | omega) (tI_n (by omega))) yv_Te_at k_416 (Nat.le_of_ble_eq_true rfl) (Nat.le_of_ble_eq_true rfl) hP hK hSS hS [0, 1] [0] rfl rfl 0 2 rfl rfl rfl hl rfl rfl (Nat.le_of_ble_eq_true rfl) (Nat.zero_le _) (Nat.zero_le _) d_Te_takeAmount_19 ?_
        refine rS (As := [.int (iI (atZ s0.1 s0.2 ((pl : Nat) : Int)))]) (rest := []) hx hb hml hown ht (c_Te_isDigit l dC dI z (iI (atZ s0.1 s0.2 ((pl : Nat) : Int))) (atZ s0.1 s0.2 ((pl : Nat) : Int)) (iI_toInt (by omega) (by omega))) ys_Te_isDigit k_452 (Nat.le_of_ble_eq_true rfl) (Nat.le_of_ble_eq_true rfl) hP hK hSS hS [] [] rfl rfl hl rfl rfl (Nat.le_of_ble_eq_true rfl) (Nat.zero_le _) (Nat.zero_le _) d_Te_takeAmount_22 ?_
        refine b_if_eq (tgt := 61) hx hb d_Te_takeAmount_25 (by decide) (fun g25 => ?_) (fun g25 => ?_)
        · have hRe : tkAF s0.1 s0.2 5 r0.1 0 = (pl, a) := by rw [hR, tkAF, if_neg (of_decide_eq_false g25)]
          refine lv_aload_n hx hb d_Te_takeAmount_61 rfl (lv_at hl 3 rfl) ?_
          refine va_get (D := (dC, dI)) (ci := 2) (v := .int (nI pl)) (C := R_Te) (T := F_Te) (N := 4) hx hb ht in_Te hown hK hP 0 rfl rfl 2 (by decide) (ht _ k_64) (fun _ h9 => h9) rfl d_Te_takeAmount_62 ?_
          refine lv_iload_n hx hb d_Te_takeAmount_65 rfl (lv_at hl 2 rfl) ?_
          refine nSub hx hb d_Te_takeAmount_66 (by omega) ?_
          refine lv_istore_n (lv' := [(3, .int (nI (pl - r0.1))), (2, .int (nI a)), (1, .int (nI r0.1)), (0, .ref h)]) hx hb d_Te_takeAmount_67 rfl hl (Nat.le_of_ble_eq_true rfl) rfl (fun ls hl => ?_)
          refine lv_iload_n hx hb d_Te_takeAmount_68 rfl (lv_at hl 0 rfl) ?_
          refine z_if_eq (tgt := 87) hx hb d_Te_takeAmount_69 (tI_n (by omega)) (by decide) (fun g69 => ?_) (fun g69 => ?_)
          · refine lv_aload_n hx hb d_Te_takeAmount_87 rfl (lv_at hl 3 rfl) ?_
            refine lv_iconst (v := nI 0) hx hb d_Te_takeAmount_88 (by decide) ?_
            refine eqi (y := bI false) (by decide) ?_
            refine va_put (D := (dC, dI)) (ci := 2) (v := .int (bI false)) (ty := .boolean) (C := R_Te) (T := F_Te) (N := 4) hx hb ht in_Te t_Te t_Te_ok n_Te hown hK hP hD hS 0 rfl rfl 3 (by decide) (ht _ k_65) (fun _ h9 => h9) rfl (by decide +kernel) (bI_narrow _) (bI_fits _) (Nat.le_of_ble_eq_true rfl) d_Te_takeAmount_89 (fun H locs hP hD hS => ?_)
            have hP : va_P (dC, dI) classes [(h, .inr (2, [.ref q, .int (nI s0.2), .int (nI pl), .int (bI false)])), (q, .inl (cc, 2400, .inl (iN s0.1)))] H := hP
            have hD : va_D A [(h, .inr (2, [.ref q, .int (nI s0.2), .int (nI pl), .int (bI false)])), (q, .inl (cc, 2400, .inl (iN s0.1)))] := hD
            refine lv_iload_n hx hb d_Te_takeAmount_92 rfl (lv_at hl 1 rfl) ?_
            rw [tkA2_y hRe (by omega)]
            exact eUi hx hb hr hlocks hP hD hS [0, 1] rfl rfl (by decide) d_Te_takeAmount_93 (by rw [tkA1_e hRe])
          · refine lv_iload_n hx hb d_Te_takeAmount_72 rfl (lv_at hl 0 rfl) ?_
            refine lv_iconst (v := nI 1) hx hb d_Te_takeAmount_73 (by decide) ?_
            refine z_icmp_le (tgt := 92) hx hb d_Te_takeAmount_74 (tI_n (by omega)) (tI_n (by omega)) (by decide) (fun g74 => ?_) (fun g74 => ?_)
            · refine lv_iload_n hx hb d_Te_takeAmount_92 rfl (lv_at hl 1 rfl) ?_
              rw [tkA2_n hRe (by omega)]
              exact eUi hx hb hr hlocks hP hD hS [0, 1] rfl rfl (by decide) d_Te_takeAmount_93 (by rw [tkA1_e hRe])
            · refine lv_aload_n hx hb d_Te_takeAmount_77 rfl (lv_at hl 3 rfl) ?_
              refine lv_iload_n hx hb d_Te_takeAmount_78 rfl (lv_at hl 2 rfl) ?_
              refine rV (As := [.int (nI r0.1)]) (rest := []) hx hb hml hown ht (c_Te_at l dC dI z h q cc s0 pl r0.2 (nI r0.1) ((r0.1 : Nat) : Int) (by first | assumption | omega) (tI_n (by omega))) yv_Te_at k_416 (Nat.le_of_ble_eq_true rfl) (Nat.le_of_ble_eq_true rfl) hP hK hSS hS [0, 1] [0] rfl rfl 0 2 rfl rfl rfl hl rfl rfl (Nat.le_of_ble_eq_true rfl) (Nat.zero_le _) (Nat.zero_le _) d_Te_takeAmount_79 ?_
              refine lv_bipush (v := nI 48) hx hb d_Te_takeAmount_82 (by decide) ?_
              refine z_icmp_ne (tgt := 92) hx hb d_Te_takeAmount_84 (iI_toInt (by omega) (by omega)) (tI_n (by omega)) (by decide) (fun g84 => ?_) (fun g84 => ?_)
              · refine lv_iload_n hx hb d_Te_takeAmount_92 rfl (lv_at hl 1 rfl) ?_
                rw [tkA2_n hRe (by omega)]
                exact eUi hx hb hr hlocks hP hD hS [0, 1] rfl rfl (by decide) d_Te_takeAmount_93 (by rw [tkA1_e hRe])
              · refine lv_aload_n hx hb d_Te_takeAmount_87 rfl (lv_at hl 3 rfl) ?_
                refine lv_iconst (v := nI 0) hx hb d_Te_takeAmount_88 (by decide) ?_
                refine eqi (y := bI false) (by decide) ?_
                refine va_put (D := (dC, dI)) (ci := 2) (v := .int (bI false)) (ty := .boolean) (C := R_Te) (T := F_Te) (N := 4) hx hb ht in_Te t_Te t_Te_ok n_Te hown hK hP hD hS 0 rfl rfl 3 (by decide) (ht _ k_65) (fun _ h9 => h9) rfl (by decide +kernel) (bI_narrow _) (bI_fits _) (Nat.le_of_ble_eq_true rfl) d_Te_takeAmount_89 (fun H locs hP hD hS => ?_)
                have hP : va_P (dC, dI) classes [(h, .inr (2, [.ref q, .int (nI s0.2), .int (nI pl), .int (bI false)])), (q, .inl (cc, 2400, .inl (iN s0.1)))] H := hP
                have hD : va_D A [(h, .inr (2, [.ref q, .int (nI s0.2), .int (nI pl), .int (bI false)])), (q, .inl (cc, 2400, .inl (iN s0.1)))] := hD
                refine lv_iload_n hx hb d_Te_takeAmount_92 rfl (lv_at hl 1 rfl) ?_
                rw [tkA2_y hRe (by omega)]
                exact eUi hx hb hr hlocks hP hD hS [0, 1] rfl rfl (by decide) d_Te_takeAmount_93 (by rw [tkA1_e hRe])
        · have hdg := of_decide_eq_true g25
          refine lv_bipush (v := nI 10) hx hb d_Te_takeAmount_28 (by decide) ?_
          refine lv_iload_n hx hb d_Te_takeAmount_30 rfl (lv_at hl 1 rfl) ?_
          refine nMul hx hb d_Te_takeAmount_31 ?_
          refine lv_aload_n hx hb d_Te_takeAmount_32 rfl (lv_at hl 3 rfl) ?_
          refine lv_aload_n hx hb d_Te_takeAmount_33 rfl (lv_at hl 3 rfl) ?_
          refine va_get (D := (dC, dI)) (ci := 2) (v := .int (nI pl)) (C := R_Te) (T := F_Te) (N := 4) hx hb ht in_Te hown hK hP 0 rfl rfl 2 (by decide) (ht _ k_64) (fun _ h9 => h9) rfl d_Te_takeAmount_34 ?_
          refine rV (As := [.int (nI pl)]) (rest := [.int (nI (10 * a))]) hx hb hml hown ht (c_Te_at l dC dI z h q cc s0 pl r0.2 (nI pl) ((pl : Nat) : Int) (by first | assumption | omega) (tI_n (by omega))) yv_Te_at k_416 (Nat.le_of_ble_eq_true rfl) (Nat.le_of_ble_eq_true rfl) hP hK hSS hS [0, 1] [0] rfl rfl 0 2 rfl rfl rfl hl rfl rfl (Nat.le_of_ble_eq_true rfl) (Nat.zero_le _) (Nat.zero_le _) d_Te_takeAmount_37 ?_
          refine zAdd hx hb d_Te_takeAmount_40 (nI_iI _) rfl ?_
          refine lv_bipush (v := nI 48) hx hb d_Te_takeAmount_41 (by decide) ?_
          refine zSub hx hb d_Te_takeAmount_43 rfl (nI_iI _) ?_
          refine eqi (y := nI (10 * a + (atZ s0.1 s0.2 (pl : Int)).toNat - 48)) (by rw [nI_iI]; congr 1; omega) ?_
          refine lv_istore_n (lv' := [(2, .int (nI (10 * a + (atZ s0.1 s0.2 (pl : Int)).toNat - 48))), (3, .int (nI k)), (1, .int (nI r0.1)), (0, .ref h)]) hx hb d_Te_takeAmount_44 rfl hl (Nat.le_of_ble_eq_true rfl) rfl (fun ls hl => ?_)
          refine lv_aload_n hx hb d_Te_takeAmount_45 rfl (lv_at hl 3 rfl) ?_
          refine lv_dup hx hb d_Te_takeAmount_46 rfl ?_
          refine va_get (D := (dC, dI)) (ci := 2) (v := .int (nI pl)) (C := R_Te) (T := F_Te) (N := 4) hx hb ht in_Te hown hK hP 0 rfl rfl 2 (by decide) (ht _ k_64) (fun _ h9 => h9) rfl d_Te_takeAmount_47 ?_
          refine lv_iconst (v := nI 1) hx hb d_Te_takeAmount_50 (by decide) ?_
          refine nAdd hx hb d_Te_takeAmount_51 ?_
          refine va_put (D := (dC, dI)) (ci := 2) (v := .int (nI (pl + 1))) (ty := .int) (C := R_Te) (T := F_Te) (N := 4) hx hb ht in_Te t_Te t_Te_ok n_Te hown hK hP hD hS 0 rfl rfl 2 (by decide) (ht _ k_64) (fun _ h9 => h9) rfl (by decide +kernel) rfl rfl (Nat.le_of_ble_eq_true rfl) d_Te_takeAmount_52 (fun H locs hP hD hS => ?_)
          have hP : va_P (dC, dI) classes [(h, .inr (2, [.ref q, .int (nI s0.2), .int (nI (pl + 1)), .int (bI r0.2)])), (q, .inl (cc, 2400, .inl (iN s0.1)))] H := hP
          have hD : va_D A [(h, .inr (2, [.ref q, .int (nI s0.2), .int (nI (pl + 1)), .int (bI r0.2)])), (q, .inl (cc, 2400, .inl (iN s0.1)))] := hD
          refine lv_iinc (k := 1) (v := nI (k + 1)) (lv' := [(3, .int (nI (k + 1))), (2, .int (nI (10 * a + (atZ s0.1 s0.2 (pl : Int)).toNat - 48))), (1, .int (nI r0.1)), (0, .ref h)]) hx hb d_Te_takeAmount_55 hl rfl (nI_inc1 _) (Nat.le_of_ble_eq_true rfl) rfl (fun ls hl => ?_)
          refine lv_goto (tgt := 9) hx hb d_Te_takeAmount_58 (by decide) ?_
          exact ih (k + 1) (pl + 1) (10 * a + (atZ s0.1 s0.2 (pl : Int)).toNat - 48) _ _ _ (by omega) (by rw [hR, tkAF, if_pos (of_decide_eq_true g25)]) (by omega) (by have := atZ_nat (t := s0.1) (n := s0.2) (p := pl) (c := (atZ s0.1 s0.2 (pl : Int)).toNat) (by omega); omega) (by rw [Nat.pow_succ]; omega) (lv_sub hl [0, 1, 2, 3] rfl) (hP.sub [0, 1] rfl) (hD.sub [0, 1] (by decide) rfl) hS
  exact loop9 5 0 r0.1 0 _ _ _ (rfl) (rfl) (Nat.le_refl _) (hr1) (by decide) (lv_sub hl [0, 1, 2, 3] rfl) (hP.sub [0, 1] rfl) (hD.sub [0, 1] (by decide) rfl) hS

set_option maxHeartbeats 4000000 in
set_option maxRecDepth 100000 in
theorem c_Te_takeNumber (l : Launch) (dC : Nat → ClassId) (dI : Nat → Nat → Nat) (z : zT) (sz : Nat) (h : Nat) (q : Nat) (cc : ClassId) (s0 : txT) (r0 : rdT) (lo : Int) (hi : Int) (hs : s0.2 ≤ 2400) (hr1 : r0.1 ≤ s0.2) (ht8 : ∀ i, s0.1 i < 256) (hlo : -65536 ≤ lo ∧ lo ≤ 65536) (hhi : -65536 ≤ hi ∧ hi ≤ 65536) : MU l y_Te_takeNumber b_Te_takeNumber 6 (some .int) 2 44 (dC, dI) z [.ref h, .int (iI lo), .int (iI hi)] [(h, .inr (2, [.ref q, .int (nI s0.2), .int (nI r0.1), .int (bI r0.2)])), (q, .inl (cc, 2400, .inl (iN s0.1)))] [(cc, .char)] sz (some (.int (iI (tkN1 s0.1 s0.2 r0)))) [(h, .inr (2, [.ref q, .int (nI s0.2), .int (nI ((tkN2 s0.1 s0.2 lo hi r0).1)), .int (bI ((tkN2 s0.1 s0.2 lo hi r0).2))])), (q, .inl (cc, 2400, .inl (iN s0.1)))] := by
  have hat := atZ_in (n := s0.2) (x := (r0.1 : Int)) ht8
  have hN1 := tkN1_in (t := s0.1) (n := s0.2) (r := r0)
  refine metU (by decide) (Nat.le_of_ble_eq_true rfl) ?_
  intro p e s m below meth c ls A hx hb hr hlocks hml hown ht hl hP hK hSS hD hS hA
  have hl : lv_has ls 6 [(0, .ref h), (1, .int (iI lo)), (2, .int (iI hi))] := hl
  refine lv_aload_n hx hb d_Te_takeNumber_0 rfl (lv_at hl 0 rfl) ?_
  refine lv_aload_n hx hb d_Te_takeNumber_1 rfl (lv_at hl 0 rfl) ?_
  refine va_get (D := (dC, dI)) (ci := 2) (v := .int (nI r0.1)) (C := R_Te) (T := F_Te) (N := 4) hx hb ht in_Te hown hK hP 0 rfl rfl 2 (by decide) (ht _ k_64) (fun _ h9 => h9) rfl d_Te_takeNumber_2 ?_
  refine rV (As := [.int (nI r0.1)]) (rest := []) hx hb hml hown ht (c_Te_at l dC dI z h q cc s0 r0.1 r0.2 (nI r0.1) ((r0.1 : Nat) : Int) (by first | assumption | omega) (tI_n (by omega))) yv_Te_at k_416 (Nat.le_of_ble_eq_true rfl) (Nat.le_of_ble_eq_true rfl) hP hK hSS hS [0, 1] [0] rfl rfl 0 2 rfl rfl rfl hl rfl rfl (Nat.le_of_ble_eq_true rfl) (Nat.zero_le _) (Nat.zero_le _) d_Te_takeNumber_5 ?_
  refine lv_bipush (v := nI 45) hx hb d_Te_takeNumber_8 (by decide) ?_
  have cut18 : ∀  (ls : Array Slot) (H : Heap) (locs : List Loc), lv_has ls 6 [(0, .ref h), (1, .int (iI lo)), (2, .int (iI hi))] → va_P (dC, dI) classes [(h, .inr (2, [.ref q, .int (nI s0.2), .int (nI r0.1), .int (bI r0.2)])), (q, .inl (cc, 2400, .inl (iN s0.1)))] H → va_D A [(h, .inr (2, [.ref q, .int (nI s0.2), .int (nI r0.1), .int (bI r0.2)])), (q, .inl (cc, 2400, .inl (iN s0.1)))] → va_S A s.heap H locs → W p l e (rmq 2 44) s m [.ref h, .int (iI lo), .int (iI hi)].toArray below meth c H locs 0 0 (MQ below (qcU (some (.int (iI (tkN1 s0.1 s0.2 r0)))) (dC, dI) [(h, .inr (2, [.ref q, .int (nI s0.2), .int (nI ((tkN2 s0.1 s0.2 lo hi r0).1)), .int (bI ((tkN2 s0.1 s0.2 lo hi r0).2))])), (q, .inl (cc, 2400, .inl (iN s0.1)))] A) [.ref h, .int (iI lo), .int (iI hi)].toArray s 0 0 A) (F0 m 18 ls [.int (bI (decide (atZ s0.1 s0.2 (r0.1 : Int) = 45)))]) := by
    intro  ls H locs  hl hP hD hS
    refine lv_istore_n (lv' := [(3, .int (bI (decide (atZ s0.1 s0.2 (r0.1 : Int) = 45)))), (0, .ref h), (1, .int (iI lo)), (2, .int (iI hi))]) hx hb d_Te_takeNumber_18 rfl hl (Nat.le_of_ble_eq_true rfl) rfl (fun ls hl => ?_)
    have cut33 : ∀  (r1 : rdT) (ls : Array Slot) (H : Heap) (locs : List Loc), (r1 = tkNs s0.1 s0.2 r0) → (r1.1 ≤ s0.2) → lv_has ls 6 [(3, .int (bI (decide (atZ s0.1 s0.2 (r0.1 : Int) = 45)))), (0, .ref h), (1, .int (iI lo)), (2, .int (iI hi))] → va_P (dC, dI) classes [(h, .inr (2, [.ref q, .int (nI s0.2), .int (nI r1.1), .int (bI r1.2)])), (q, .inl (cc, 2400, .inl (iN s0.1)))] H → va_D A [(h, .inr (2, [.ref q, .int (nI s0.2), .int (nI r1.1), .int (bI r1.2)])), (q, .inl (cc, 2400, .inl (iN s0.1)))] → va_S A s.heap H locs → W p l e (rmq 2 44) s m [.ref h, .int (iI lo), .int (iI hi)].toArray below meth c H locs 0 0 (MQ below (qcU (some (.int (iI (tkN1 s0.1 s0.2 r0)))) (dC, dI) [(h, .inr (2, [.ref q, .int (nI s0.2), .int (nI ((tkN2 s0.1 s0.2 lo hi r0).1)), .int (bI ((tkN2 s0.1 s0.2 lo hi r0).2))])), (q, .inl (cc, 2400, .inl (iN s0.1)))] A) [.ref h, .int (iI lo), .int (iI hi)].toArray s 0 0 A) (F0 m 33 ls []) := by
      intro r1 ls H locs hrN hr2 hl hP hD hS
      have hA1 := tkA_lt (t := s0.1) (n := s0.2) (r := r1)
      refine lv_aload_n hx hb d_Te_takeNumber_33 rfl (lv_at hl 1 rfl) ?_
      refine uV (As := []) (rest := []) (wr := []) hx hb hml hown ht (c_Te_takeAmount l dC dI z _ h q cc s0 r1 (by first | assumption | omega) (by first | assumption | omega) (by first | assumption | omega)) yv_Te_takeAmount k_448 (Nat.le_of_ble_eq_true rfl) (Nat.le_of_ble_eq_true rfl) hP hK hSS hD hS hA [0, 1] [] [0] rfl rfl (by decide) rfl (by decide) (by decide) rfl 0 2 rfl rfl rfl hl rfl rfl (Nat.le_of_ble_eq_true rfl) (Nat.zero_le _) (Nat.zero_le _) d_Te_takeNumber_34 (fun H locs hP hD hS => ?_)
      have hP : va_P (dC, dI) classes [(h, .inr (2, [.ref q, .int (nI s0.2), .int (nI ((tkA2 s0.1 s0.2 r1).1)), .int (bI ((tkA2 s0.1 s0.2 r1).2))])), (q, .inl (cc, 2400, .inl (iN s0.1)))] H := hP
      have hD : va_D A [(h, .inr (2, [.ref q, .int (nI s0.2), .int (nI ((tkA2 s0.1 s0.2 r1).1)), .int (bI ((tkA2 s0.1 s0.2 r1).2))])), (q, .inl (cc, 2400, .inl (iN s0.1)))] := hD
      refine stk (st2 := [.int (nI (tkA1 s0.1 s0.2 r1))]) rfl ?_
      refine lv_istore (lv' := [(4, .int (nI (tkA1 s0.1 s0.2 r1))), (3, .int (bI (decide (atZ s0.1 s0.2 (r0.1 : Int) = 45)))), (0, .ref h), (1, .int (iI lo)), (2, .int (iI hi))]) hx hb d_Te_takeNumber_37 hl (Nat.le_of_ble_eq_true rfl) rfl (fun ls hl => ?_)
      have cut51 : ∀  (ls : Array Slot) (H : Heap) (locs : List Loc), lv_has ls 6 [(4, .int (nI (tkA1 s0.1 s0.2 r1))), (3, .int (bI (decide (atZ s0.1 s0.2 (r0.1 : Int) = 45)))), (0, .ref h), (1, .int (iI lo)), (2, .int (iI hi))] → va_P (dC, dI) classes [(h, .inr (2, [.ref q, .int (nI s0.2), .int (nI ((tkA2 s0.1 s0.2 r1).1)), .int (bI ((tkA2 s0.1 s0.2 r1).2))])), (q, .inl (cc, 2400, .inl (iN s0.1)))] H → va_D A [(h, .inr (2, [.ref q, .int (nI s0.2), .int (nI ((tkA2 s0.1 s0.2 r1).1)), .int (bI ((tkA2 s0.1 s0.2 r1).2))])), (q, .inl (cc, 2400, .inl (iN s0.1)))] → va_S A s.heap H locs → W p l e (rmq 2 44) s m [.ref h, .int (iI lo), .int (iI hi)].toArray below meth c H locs 0 0 (MQ below (qcU (some (.int (iI (tkN1 s0.1 s0.2 r0)))) (dC, dI) [(h, .inr (2, [.ref q, .int (nI s0.2), .int (nI ((tkN2 s0.1 s0.2 lo hi r0).1)), .int (bI ((tkN2 s0.1 s0.2 lo hi r0).2))])), (q, .inl (cc, 2400, .inl (iN s0.1)))] A) [.ref h, .int (iI lo), .int (iI hi)].toArray s 0 0 A) (F0 m 51 ls [.int (iI (tkN1 s0.1 s0.2 r0))]) := by
        intro  ls H locs  hl hP hD hS
        refine lv_istore (lv' := [(5, .int (iI (tkN1 s0.1 s0.2 r0))), (4, .int (nI (tkA1 s0.1 s0.2 r1))), (3, .int (bI (decide (atZ s0.1 s0.2 (r0.1 : Int) = 45)))), (0, .ref h), (1, .int (iI lo)), (2, .int (iI hi))]) hx hb d_Te_takeNumber_51 hl (Nat.le_of_ble_eq_true rfl) rfl (fun ls hl => ?_)
        refine lv_iload_n hx hb d_Te_takeNumber_53 rfl (lv_at hl 2 rfl) ?_
        refine b_if_eq (tgt := 62) hx hb d_Te_takeNumber_54 (by decide) (fun g54 => ?_) (fun g54 => ?_)
        · refine lv_iload hx hb d_Te_takeNumber_62 (lv_at hl 0 rfl) ?_
          refine lv_iload_n hx hb d_Te_takeNumber_64 rfl (lv_at hl 4 rfl) ?_
          refine z_icmp_lt (tgt := 74) hx hb d_Te_takeNumber_65 (iI_toInt (by omega) (by omega)) (iI_toInt (by omega) (by omega)) (by decide) (fun g65 => ?_) (fun g65 => ?_)
          · refine lv_aload_n hx hb d_Te_takeNumber_74 rfl (lv_at hl 3 rfl) ?_
            refine lv_iconst (v := nI 0) hx hb d_Te_takeNumber_75 (by decide) ?_
            refine eqi (y := bI false) (by decide) ?_
            refine va_put (D := (dC, dI)) (ci := 2) (v := .int (bI false)) (ty := .boolean) (C := R_Te) (T := F_Te) (N := 4) hx hb ht in_Te t_Te t_Te_ok n_Te hown hK hP hD hS 0 rfl rfl 3 (by decide) (ht _ k_65) (fun _ h9 => h9) rfl (by decide +kernel) (bI_narrow _) (bI_fits _) (Nat.le_of_ble_eq_true rfl) d_Te_takeNumber_76 (fun H locs hP hD hS => ?_)
            have hP : va_P (dC, dI) classes [(h, .inr (2, [.ref q, .int (nI s0.2), .int (nI ((tkA2 s0.1 s0.2 r1).1)), .int (bI false)])), (q, .inl (cc, 2400, .inl (iN s0.1)))] H := hP
            have hD : va_D A [(h, .inr (2, [.ref q, .int (nI s0.2), .int (nI ((tkA2 s0.1 s0.2 r1).1)), .int (bI false)])), (q, .inl (cc, 2400, .inl (iN s0.1)))] := hD
            refine lv_iload hx hb d_Te_takeNumber_79 (lv_at hl 0 rfl) ?_
            rw [tkN2_y hrN (by first | omega | (left; exact ⟨of_decide_eq_true g54, by omega⟩))]
            exact eUi hx hb hr hlocks hP hD hS [0, 1] rfl rfl (by decide) d_Te_takeNumber_81 (rfl)
          · refine lv_iload hx hb d_Te_takeNumber_68 (lv_at hl 0 rfl) ?_
            refine lv_iload_n hx hb d_Te_takeNumber_70 rfl (lv_at hl 5 rfl) ?_
            refine z_icmp_le (tgt := 79) hx hb d_Te_takeNumber_71 (iI_toInt (by omega) (by omega)) (iI_toInt (by omega) (by omega)) (by decide) (fun g71 => ?_) (fun g71 => ?_)
            · refine lv_iload hx hb d_Te_takeNumber_79 (lv_at hl 0 rfl) ?_
              rw [tkN2_n hrN (by first | (have := of_decide_eq_false g54; omega) | omega)]
              exact eUi hx hb hr hlocks hP hD hS [0, 1] rfl rfl (by decide) d_Te_takeNumber_81 (rfl)
            · refine lv_aload_n hx hb d_Te_takeNumber_74 rfl (lv_at hl 3 rfl) ?_
              refine lv_iconst (v := nI 0) hx hb d_Te_takeNumber_75 (by decide) ?_
              refine eqi (y := bI false) (by decide) ?_
              refine va_put (D := (dC, dI)) (ci := 2) (v := .int (bI false)) (ty := .boolean) (C := R_Te) (T := F_Te) (N := 4) hx hb ht in_Te t_Te t_Te_ok n_Te hown hK hP hD hS 0 rfl rfl 3 (by decide) (ht _ k_65) (fun _ h9 => h9) rfl (by decide +kernel) (bI_narrow _) (bI_fits _) (Nat.le_of_ble_eq_true rfl) d_Te_takeNumber_76 (fun H locs hP hD hS => ?_)
              have hP : va_P (dC, dI) classes [(h, .inr (2, [.ref q, .int (nI s0.2), .int (nI ((tkA2 s0.1 s0.2 r1).1)), .int (bI false)])), (q, .inl (cc, 2400, .inl (iN s0.1)))] H := hP
              have hD : va_D A [(h, .inr (2, [.ref q, .int (nI s0.2), .int (nI ((tkA2 s0.1 s0.2 r1).1)), .int (bI false)])), (q, .inl (cc, 2400, .inl (iN s0.1)))] := hD
              refine lv_iload hx hb d_Te_takeNumber_79 (lv_at hl 0 rfl) ?_
              rw [tkN2_y hrN (by first | omega | (left; exact ⟨of_decide_eq_true g54, by omega⟩))]
              exact eUi hx hb hr hlocks hP hD hS [0, 1] rfl rfl (by decide) d_Te_takeNumber_81 (rfl)
        · refine lv_iload hx hb d_Te_takeNumber_57 (lv_at hl 1 rfl) ?_
          refine z_if_eq (tgt := 74) hx hb d_Te_takeNumber_59 (tI_n (by omega)) (by decide) (fun g59 => ?_) (fun g59 => ?_)
          · refine lv_aload_n hx hb d_Te_takeNumber_74 rfl (lv_at hl 3 rfl) ?_
            refine lv_iconst (v := nI 0) hx hb d_Te_takeNumber_75 (by decide) ?_
            refine eqi (y := bI false) (by decide) ?_
            refine va_put (D := (dC, dI)) (ci := 2) (v := .int (bI false)) (ty := .boolean) (C := R_Te) (T := F_Te) (N := 4) hx hb ht in_Te t_Te t_Te_ok n_Te hown hK hP hD hS 0 rfl rfl 3 (by decide) (ht _ k_65) (fun _ h9 => h9) rfl (by decide +kernel) (bI_narrow _) (bI_fits _) (Nat.le_of_ble_eq_true rfl) d_Te_takeNumber_76 (fun H locs hP hD hS => ?_)
            have hP : va_P (dC, dI) classes [(h, .inr (2, [.ref q, .int (nI s0.2), .int (nI ((tkA2 s0.1 s0.2 r1).1)), .int (bI false)])), (q, .inl (cc, 2400, .inl (iN s0.1)))] H := hP
            have hD : va_D A [(h, .inr (2, [.ref q, .int (nI s0.2), .int (nI ((tkA2 s0.1 s0.2 r1).1)), .int (bI false)])), (q, .inl (cc, 2400, .inl (iN s0.1)))] := hD
            refine lv_iload hx hb d_Te_takeNumber_79 (lv_at hl 0 rfl) ?_
            rw [tkN2_y hrN (by first | omega | (left; exact ⟨of_decide_eq_true g54, by omega⟩))]
            exact eUi hx hb hr hlocks hP hD hS [0, 1] rfl rfl (by decide) d_Te_takeNumber_81 (rfl)
          · refine lv_iload hx hb d_Te_takeNumber_62 (lv_at hl 0 rfl) ?_
            refine lv_iload_n hx hb d_Te_takeNumber_64 rfl (lv_at hl 4 rfl) ?_
            refine z_icmp_lt (tgt := 74) hx hb d_Te_takeNumber_65 (iI_toInt (by omega) (by omega)) (iI_toInt (by omega) (by omega)) (by decide) (fun g65 => ?_) (fun g65 => ?_)
            · refine lv_aload_n hx hb d_Te_takeNumber_74 rfl (lv_at hl 3 rfl) ?_
              refine lv_iconst (v := nI 0) hx hb d_Te_takeNumber_75 (by decide) ?_
              refine eqi (y := bI false) (by decide) ?_
              refine va_put (D := (dC, dI)) (ci := 2) (v := .int (bI false)) (ty := .boolean) (C := R_Te) (T := F_Te) (N := 4) hx hb ht in_Te t_Te t_Te_ok n_Te hown hK hP hD hS 0 rfl rfl 3 (by decide) (ht _ k_65) (fun _ h9 => h9) rfl (by decide +kernel) (bI_narrow _) (bI_fits _) (Nat.le_of_ble_eq_true rfl) d_Te_takeNumber_76 (fun H locs hP hD hS => ?_)
              have hP : va_P (dC, dI) classes [(h, .inr (2, [.ref q, .int (nI s0.2), .int (nI ((tkA2 s0.1 s0.2 r1).1)), .int (bI false)])), (q, .inl (cc, 2400, .inl (iN s0.1)))] H := hP
              have hD : va_D A [(h, .inr (2, [.ref q, .int (nI s0.2), .int (nI ((tkA2 s0.1 s0.2 r1).1)), .int (bI false)])), (q, .inl (cc, 2400, .inl (iN s0.1)))] := hD
              refine lv_iload hx hb d_Te_takeNumber_79 (lv_at hl 0 rfl) ?_
              rw [tkN2_y hrN (by first | omega | (left; exact ⟨of_decide_eq_true g54, by omega⟩))]
              exact eUi hx hb hr hlocks hP hD hS [0, 1] rfl rfl (by decide) d_Te_takeNumber_81 (rfl)
            · refine lv_iload hx hb d_Te_takeNumber_68 (lv_at hl 0 rfl) ?_
              refine lv_iload_n hx hb d_Te_takeNumber_70 rfl (lv_at hl 5 rfl) ?_
              refine z_icmp_le (tgt := 79) hx hb d_Te_takeNumber_71 (iI_toInt (by omega) (by omega)) (iI_toInt (by omega) (by omega)) (by decide) (fun g71 => ?_) (fun g71 => ?_)
              · refine lv_iload hx hb d_Te_takeNumber_79 (lv_at hl 0 rfl) ?_
                rw [tkN2_n hrN (by first | (have := of_decide_eq_false g54; omega) | omega)]
                exact eUi hx hb hr hlocks hP hD hS [0, 1] rfl rfl (by decide) d_Te_takeNumber_81 (rfl)
              · refine lv_aload_n hx hb d_Te_takeNumber_74 rfl (lv_at hl 3 rfl) ?_
                refine lv_iconst (v := nI 0) hx hb d_Te_takeNumber_75 (by decide) ?_
                refine eqi (y := bI false) (by decide) ?_
                refine va_put (D := (dC, dI)) (ci := 2) (v := .int (bI false)) (ty := .boolean) (C := R_Te) (T := F_Te) (N := 4) hx hb ht in_Te t_Te t_Te_ok n_Te hown hK hP hD hS 0 rfl rfl 3 (by decide) (ht _ k_65) (fun _ h9 => h9) rfl (by decide +kernel) (bI_narrow _) (bI_fits _) (Nat.le_of_ble_eq_true rfl) d_Te_takeNumber_76 (fun H locs hP hD hS => ?_)
                have hP : va_P (dC, dI) classes [(h, .inr (2, [.ref q, .int (nI s0.2), .int (nI ((tkA2 s0.1 s0.2 r1).1)), .int (bI false)])), (q, .inl (cc, 2400, .inl (iN s0.1)))] H := hP
                have hD : va_D A [(h, .inr (2, [.ref q, .int (nI s0.2), .int (nI ((tkA2 s0.1 s0.2 r1).1)), .int (bI false)])), (q, .inl (cc, 2400, .inl (iN s0.1)))] := hD
                refine lv_iload hx hb d_Te_takeNumber_79 (lv_at hl 0 rfl) ?_
                rw [tkN2_y hrN (by first | omega | (left; exact ⟨of_decide_eq_true g54, by omega⟩))]
                exact eUi hx hb hr hlocks hP hD hS [0, 1] rfl rfl (by decide) d_Te_takeNumber_81 (rfl)
      refine lv_iload_n hx hb d_Te_takeNumber_39 rfl (lv_at hl 1 rfl) ?_
      refine b_if_eq (tgt := 49) hx hb d_Te_takeNumber_40 (by decide) (fun g40 => ?_) (fun g40 => ?_)
      · refine lv_iload hx hb d_Te_takeNumber_49 (lv_at hl 0 rfl) ?_
        refine eqi (y := iI (tkN1 s0.1 s0.2 r0)) (by rw [nI_iI, tkN1_n hrN (of_decide_eq_false g40)]) ?_
        exact cut51  _ _ _  (lv_sub hl [0, 1, 2, 3, 4] rfl) (hP.sub [0, 1] rfl) (hD.sub [0, 1] (by decide) rfl) hS
      · refine lv_iload hx hb d_Te_takeNumber_43 (lv_at hl 0 rfl) ?_
        refine eqi (y := iI ((tkA1 s0.1 s0.2 r1 : Nat) : Int)) ((nI_iI _)) ?_
        refine zNeg hx hb d_Te_takeNumber_45 ?_
        refine eqi (y := iI (tkN1 s0.1 s0.2 r0)) (by rw [tkN1_y hrN (of_decide_eq_true g40)]) ?_
        refine lv_goto (tgt := 51) hx hb d_Te_takeNumber_46 (by decide) ?_
        exact cut51  _ _ _  (lv_sub hl [0, 1, 2, 3, 4] rfl) (hP.sub [0, 1] rfl) (hD.sub [0, 1] (by decide) rfl) hS
    refine lv_iload_n hx hb d_Te_takeNumber_19 rfl (lv_at hl 0 rfl) ?_
    refine b_if_eq (tgt := 33) hx hb d_Te_takeNumber_20 (by decide) (fun g20 => ?_) (fun g20 => ?_)
    · exact cut33 r0 _ _ _ (by rw [tkNs, if_neg (of_decide_eq_false g20)]) (hr1) (lv_sub hl [0, 1, 2, 3] rfl) (hP.sub [0, 1] rfl) (hD.sub [0, 1] (by decide) rfl) hS
    · refine lv_aload_n hx hb d_Te_takeNumber_23 rfl (lv_at hl 1 rfl) ?_
      refine lv_dup hx hb d_Te_takeNumber_24 rfl ?_
      refine va_get (D := (dC, dI)) (ci := 2) (v := .int (nI r0.1)) (C := R_Te) (T := F_Te) (N := 4) hx hb ht in_Te hown hK hP 0 rfl rfl 2 (by decide) (ht _ k_64) (fun _ h9 => h9) rfl d_Te_takeNumber_25 ?_
      refine lv_iconst (v := nI 1) hx hb d_Te_takeNumber_28 (by decide) ?_
      refine nAdd hx hb d_Te_takeNumber_29 ?_
      refine va_put (D := (dC, dI)) (ci := 2) (v := .int (nI (r0.1 + 1))) (ty := .int) (C := R_Te) (T := F_Te) (N := 4) hx hb ht in_Te t_Te t_Te_ok n_Te hown hK hP hD hS 0 rfl rfl 2 (by decide) (ht _ k_64) (fun _ h9 => h9) rfl (by decide +kernel) rfl rfl (Nat.le_of_ble_eq_true rfl) d_Te_takeNumber_30 (fun H locs hP hD hS => ?_)
      have hP : va_P (dC, dI) classes [(h, .inr (2, [.ref q, .int (nI s0.2), .int (nI (r0.1 + 1)), .int (bI r0.2)])), (q, .inl (cc, 2400, .inl (iN s0.1)))] H := hP
      have hD : va_D A [(h, .inr (2, [.ref q, .int (nI s0.2), .int (nI (r0.1 + 1)), .int (bI r0.2)])), (q, .inl (cc, 2400, .inl (iN s0.1)))] := hD
      exact cut33 (r0.1 + 1, r0.2) _ _ _ (by rw [tkNs, if_pos (of_decide_eq_true g20)]) (by have := atZ_nat (c := 45) (of_decide_eq_true g20); show r0.1 + 1 ≤ _; omega) (lv_sub hl [0, 1, 2, 3] rfl) (hP.sub [0, 1] rfl) (hD.sub [0, 1] (by decide) rfl) hS
  refine z_icmp_ne (tgt := 17) hx hb d_Te_takeNumber_10 (iI_toInt (by omega) (by omega)) (tI_n (by omega)) (by decide) (fun g10 => ?_) (fun g10 => ?_)
  · refine lv_iconst (v := nI 0) hx hb d_Te_takeNumber_17 (by decide) ?_
    refine eqi (y := bI (decide (atZ s0.1 s0.2 (r0.1 : Int) = 45))) (bn_zero g10) ?_
    exact cut18  _ _ _  (lv_sub hl [0, 1, 2] rfl) (hP.sub [0, 1] rfl) (hD.sub [0, 1] (by decide) rfl) hS
  · refine lv_iconst (v := nI 1) hx hb d_Te_takeNumber_13 (by decide) ?_
    refine eqi (y := bI (decide (atZ s0.1 s0.2 (r0.1 : Int) = 45))) (bn_one g10) ?_
    refine lv_goto (tgt := 18) hx hb d_Te_takeNumber_14 (by decide) ?_
    exact cut18  _ _ _  (lv_sub hl [0, 1, 2] rfl) (hP.sub [0, 1] rfl) (hD.sub [0, 1] (by decide) rfl) hS
