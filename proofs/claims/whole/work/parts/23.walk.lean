set_option maxHeartbeats 4000000 in
set_option maxRecDepth 100000 in
theorem c_Wa_count (l : Launch) (dC : Nat → ClassId) (dI : Nat → Nat → Nat) (z : zT) (w : Nat) (qf : Nat) (qi : Nat) (cf : ClassId) (cz : ClassId) (ad : Nat) (s0 : wkT) : MR l y_Wa_count b_Wa_count 1 (some .int) 0 0 (dC, dI) z [.ref w] [(w, .inr (3, [.ref qf, .ref qi, .int (nI ad), .int (nI s0.2.2)])), (qf, .inl (cf, 160, .inl (iN s0.1))), (qi, .inl (cz, 160, .inl (zN s0.2.1)))] [(cf, .int), (cz, .boolean)] (.int (nI s0.2.2)) := by
  refine metR (by decide) (Nat.le_of_ble_eq_true rfl) ?_
  intro p e s m below meth c ls hx hb hr hlocks hml hown ht hl hP hK hSS
  have hl : lv_has ls 1 [(0, .ref w)] := hl
  have hS : va_S (fun _ => False) s.heap s.heap [] := va_S.rf
  refine lv_aload_n hx hb d_Wa_count_0 rfl (lv_at hl 0 rfl) ?_
  refine va_get (D := (dC, dI)) (ci := 3) (v := .int (nI s0.2.2)) (C := R_Wa) (T := F_Wa) (N := 4) hx hb ht in_Wa hown hK hP 0 rfl rfl 3 (by decide) (ht _ k_45) (fun _ h9 => h9) rfl d_Wa_count_1 ?_
  exact eRi hx hb hr hlocks d_Wa_count_4 (rfl)

set_option maxHeartbeats 4000000 in
set_option maxRecDepth 100000 in
theorem c_Wa_start (l : Launch) (dC : Nat → ClassId) (dI : Nat → Nat → Nat) (z : zT) (sz : Nat) (w : Nat) (qf : Nat) (qi : Nat) (cf : ClassId) (cz : ClassId) (x1 : Int32) (x2 : Int32) (fd : Nat → Nat) (m0 : Nat → Bool) (n : Nat) (hn : n ≤ 160) : MU l y_Wa_start b_Wa_start 3 none 1 21 (dC, dI) z [.ref w, .int (nI n)] [(w, .inr (3, [.ref qf, .ref qi, .int x1, .int x2])), (qf, .inl (cf, 160, .inl (iN fd))), (qi, .inl (cz, 160, .inl (zN m0)))] [(cf, .int), (cz, .boolean)] sz none [(w, .inr (3, [.ref qf, .ref qi, .int (nI n), .int (nI ((wk0 fd).2.2))])), (qf, .inl (cf, 160, .inl (iN ((wk0 fd).1)))), (qi, .inl (cz, 160, .inl (zN ((wk0 fd).2.1))))] := by
  refine metU (by decide) (Nat.le_of_ble_eq_true rfl) ?_
  intro p e s m below meth c ls A hx hb hr hlocks hml hown ht hl hP hK hSS hD hS hA
  have hl : lv_has ls 3 [(0, .ref w), (1, .int (nI n))] := hl
  refine lv_iconst (v := nI 0) hx hb d_Wa_start_0 (by decide) ?_
  refine lv_istore_n (lv' := [(2, .int (nI 0)), (0, .ref w), (1, .int (nI n))]) hx hb d_Wa_start_1 rfl hl (Nat.le_of_ble_eq_true rfl) rfl (fun ls hl => ?_)
  have loop2 : ∀ (j : Nat) (k : Nat) (g : Nat → Bool) (ls : Array Slot) (H : Heap) (locs : List Loc), (k + j = 160) → (∀ i, i < k → g i = false) → lv_has ls 3 [(2, .int (nI k)), (0, .ref w), (1, .int (nI n))] → va_P (dC, dI) classes [(w, .inr (3, [.ref qf, .ref qi, .int x1, .int x2])), (qf, .inl (cf, 160, .inl (iN fd))), (qi, .inl (cz, 160, .inl (zN g)))] H → va_D A [(w, .inr (3, [.ref qf, .ref qi, .int x1, .int x2])), (qf, .inl (cf, 160, .inl (iN fd))), (qi, .inl (cz, 160, .inl (zN g)))] → va_S A s.heap H locs → W p l e (rmq 1 21) s m [.ref w, .int (nI n)].toArray below meth c H locs 0 0 (MQ below (qcU none (dC, dI) [(w, .inr (3, [.ref qf, .ref qi, .int (nI n), .int (nI ((wk0 fd).2.2))])), (qf, .inl (cf, 160, .inl (iN ((wk0 fd).1)))), (qi, .inl (cz, 160, .inl (zN ((wk0 fd).2.1))))] A) [.ref w, .int (nI n)].toArray s 0 0 A) (F0 m 2 ls []) := by
    intro j
    induction j with
    | zero =>
      intro k g ls H locs hk hg hl hP hD hS
      refine lv_iload_n hx hb d_Wa_start_2 rfl (lv_at hl 0 rfl) ?_
      refine lv_sipush (v := nI 160) hx hb d_Wa_start_3 (by decide) ?_
      refine z_icmp_ge (tgt := 22) hx hb d_Wa_start_6 (tI_n (by omega)) (tI_n (by omega)) (by decide) (fun g6 => ?_) (fun g6 => ?_)
      · refine lv_aload_n hx hb d_Wa_start_22 rfl (lv_at hl 1 rfl) ?_
        refine lv_iload_n hx hb d_Wa_start_23 rfl (lv_at hl 2 rfl) ?_
        refine lv_sipush (v := nI 160) hx hb d_Wa_start_24 (by decide) ?_
        refine va_mmin hx hb (by rw [hml]; exact hl.1.symm) hown (ht _ k_204) (ht _ k_205) (ht _ k_8) (ht _ k_206) (Nat.le_of_ble_eq_true rfl) (Nat.le_of_ble_eq_true rfl) (Nat.zero_le _) (Nat.zero_le _) d_Wa_start_27 ?_
        refine eqi (y := nI n) (min_n hn) ?_
        refine va_put (D := (dC, dI)) (ci := 3) (v := .int (nI n)) (ty := .int) (C := R_Wa) (T := F_Wa) (N := 4) hx hb ht in_Wa t_Wa t_Wa_ok n_Wa hown hK hP hD hS 0 rfl rfl 2 (by decide) (ht _ k_44) (fun _ h9 => h9) rfl (by decide +kernel) rfl rfl (Nat.le_of_ble_eq_true rfl) d_Wa_start_30 (fun H locs hP hD hS => ?_)
        have hP : va_P (dC, dI) classes [(w, .inr (3, [.ref qf, .ref qi, .int (nI n), .int x2])), (qf, .inl (cf, 160, .inl (iN fd))), (qi, .inl (cz, 160, .inl (zN g)))] H := hP
        have hD : va_D A [(w, .inr (3, [.ref qf, .ref qi, .int (nI n), .int x2])), (qf, .inl (cf, 160, .inl (iN fd))), (qi, .inl (cz, 160, .inl (zN g)))] := hD
        refine lv_aload_n hx hb d_Wa_start_33 rfl (lv_at hl 1 rfl) ?_
        refine lv_iconst (v := nI 0) hx hb d_Wa_start_34 (by decide) ?_
        refine va_put (D := (dC, dI)) (ci := 3) (v := .int (nI 0)) (ty := .int) (C := R_Wa) (T := F_Wa) (N := 4) hx hb ht in_Wa t_Wa t_Wa_ok n_Wa hown hK hP hD hS 0 rfl rfl 3 (by decide) (ht _ k_45) (fun _ h9 => h9) rfl (by decide +kernel) rfl rfl (Nat.le_of_ble_eq_true rfl) d_Wa_start_35 (fun H locs hP hD hS => ?_)
        have hP : va_P (dC, dI) classes [(w, .inr (3, [.ref qf, .ref qi, .int (nI n), .int (nI 0)])), (qf, .inl (cf, 160, .inl (iN fd))), (qi, .inl (cz, 160, .inl (zN g)))] H := hP
        have hD : va_D A [(w, .inr (3, [.ref qf, .ref qi, .int (nI n), .int (nI 0)])), (qf, .inl (cf, 160, .inl (iN fd))), (qi, .inl (cz, 160, .inl (zN g)))] := hD
        have hP : va_P (dC, dI) classes [(w, .inr (3, [.ref qf, .ref qi, .int (nI n), .int (nI 0)])), (qf, .inl (cf, 160, .inl (iN fd))), (qi, .inl (cz, 160, .inl (zN (fun _ => false))))] H := hP.chg 2 rfl (fun i hi => by show bI (g i) = bI false; rw [hg i (by omega)]) rfl
        have hD : va_D A [(w, .inr (3, [.ref qf, .ref qi, .int (nI n), .int (nI 0)])), (qf, .inl (cf, 160, .inl (iN fd))), (qi, .inl (cz, 160, .inl (zN (fun _ => false))))] := hD.chg 2 rfl rfl
        exact eUv hx hb hr hlocks hP hD hS [0, 1, 2] rfl rfl (by decide) d_Wa_start_38
      · exfalso; omega
    | succ j ih =>
      intro k g ls H locs hk hg hl hP hD hS
      refine lv_iload_n hx hb d_Wa_start_2 rfl (lv_at hl 0 rfl) ?_
      refine lv_sipush (v := nI 160) hx hb d_Wa_start_3 (by decide) ?_
      refine z_icmp_ge (tgt := 22) hx hb d_Wa_start_6 (tI_n (by omega)) (tI_n (by omega)) (by decide) (fun g6 => ?_) (fun g6 => ?_)
      · exfalso; omega
      · refine lv_aload_n hx hb d_Wa_start_9 rfl (lv_at hl 1 rfl) ?_
        refine va_get (D := (dC, dI)) (ci := 3) (v := .ref qi) (C := R_Wa) (T := F_Wa) (N := 4) hx hb ht in_Wa hown hK hP 0 rfl rfl 1 (by decide) (ht _ k_43) (fun _ h9 => h9) rfl d_Wa_start_10 ?_
        refine lv_iload_n hx hb d_Wa_start_13 rfl (lv_at hl 0 rfl) ?_
        refine lv_iconst (v := nI 0) hx hb d_Wa_start_14 (by decide) ?_
        refine eqi (y := bI false) (by decide) ?_
        refine stZ (q0 := 2) (t0 := 1) (w1 := [(w, .inr (3, [.ref qf, .ref qi, .int x1, .int x2])), (qf, .inl (cf, 160, .inl (iN fd))), (qi, .inl (cz, 160, .inl (zN (updB g k false))))]) hx hb d_Wa_start_15 hK hP hD hS rfl rfl (by omega) (by decide) rfl (fun H locs hP hD hS => ?_)
        refine lv_iinc (k := 0) (v := nI (k + 1)) (lv' := [(2, .int (nI (k + 1))), (0, .ref w), (1, .int (nI n))]) hx hb d_Wa_start_16 hl rfl (nI_inc1 _) (Nat.le_of_ble_eq_true rfl) rfl (fun ls hl => ?_)
        refine lv_goto (tgt := 2) hx hb d_Wa_start_19 (by decide) ?_
        exact ih (k + 1) (updB g k false) _ _ _ (by omega) (clr_step hg) (lv_sub hl [0, 1, 2] rfl) (hP.sub [0, 1, 2] rfl) (hD.sub [0, 1, 2] (by decide) rfl) hS
  exact loop2 160 0 m0 _ _ _ (rfl) (fun i hi => absurd hi (Nat.not_lt_zero _)) (lv_sub hl [0, 1, 2] rfl) (hP.sub [0, 1, 2] rfl) (hD.sub [0, 1, 2] (by decide) rfl) hS

set_option maxHeartbeats 4000000 in
set_option maxRecDepth 100000 in
theorem c_Wa_cameTo (l : Launch) (dC : Nat → ClassId) (dI : Nat → Nat → Nat) (z : zT) (w : Nat) (qf : Nat) (qi : Nat) (cf : ClassId) (cz : ClassId) (ad : Nat) (s0 : wkT) (x : Int32) (y : Int) (had : ad ≤ 160) (hy : x.toInt = y) : MR l y_Wa_cameTo b_Wa_cameTo 2 (some .boolean) 0 0 (dC, dI) z [.ref w, .int x] [(w, .inr (3, [.ref qf, .ref qi, .int (nI ad), .int (nI s0.2.2)])), (qf, .inl (cf, 160, .inl (iN s0.1))), (qi, .inl (cz, 160, .inl (zN s0.2.1)))] [(cf, .int), (cz, .boolean)] (.int (bI (decide (0 ≤ y ∧ y < (ad : Int) ∧ s0.2.1 y.toNat = true)))) := by
  refine metR (by decide) (Nat.le_of_ble_eq_true rfl) ?_
  intro p e s m below meth c ls hx hb hr hlocks hml hown ht hl hP hK hSS
  have hl : lv_has ls 2 [(0, .ref w), (1, .int x)] := hl
  have hS : va_S (fun _ => False) s.heap s.heap [] := va_S.rf
  refine lv_iload_n hx hb d_Wa_cameTo_0 rfl (lv_at hl 1 rfl) ?_
  refine z_if_lt (tgt := 25) hx hb d_Wa_cameTo_1 hy (by decide) (fun g1 => ?_) (fun g1 => ?_)
  · refine lv_iconst (v := nI 0) hx hb d_Wa_cameTo_25 (by decide) ?_
    refine eqi (y := bI false) (by decide) ?_
    exact eRz hx hb hr hlocks (bI_narrow _) d_Wa_cameTo_26 (bI_zero (by first | omega | (intro q; rw [g18] at q; cases q.2.2)))
  · refine lv_iload_n hx hb d_Wa_cameTo_4 rfl (lv_at hl 1 rfl) ?_
    refine lv_aload_n hx hb d_Wa_cameTo_5 rfl (lv_at hl 0 rfl) ?_
    refine va_get (D := (dC, dI)) (ci := 3) (v := .int (nI ad)) (C := R_Wa) (T := F_Wa) (N := 4) hx hb ht in_Wa hown hK hP 0 rfl rfl 2 (by decide) (ht _ k_44) (fun _ h9 => h9) rfl d_Wa_cameTo_6 ?_
    refine z_icmp_ge (tgt := 25) hx hb d_Wa_cameTo_9 hy (tI_n (by omega)) (by decide) (fun g9 => ?_) (fun g9 => ?_)
    · refine lv_iconst (v := nI 0) hx hb d_Wa_cameTo_25 (by decide) ?_
      refine eqi (y := bI false) (by decide) ?_
      exact eRz hx hb hr hlocks (bI_narrow _) d_Wa_cameTo_26 (bI_zero (by first | omega | (intro q; rw [g18] at q; cases q.2.2)))
    · refine lv_aload_n hx hb d_Wa_cameTo_12 rfl (lv_at hl 0 rfl) ?_
      refine va_get (D := (dC, dI)) (ci := 3) (v := .ref qi) (C := R_Wa) (T := F_Wa) (N := 4) hx hb ht in_Wa hown hK hP 0 rfl rfl 1 (by decide) (ht _ k_43) (fun _ h9 => h9) rfl d_Wa_cameTo_13 ?_
      refine lv_iload_n hx hb d_Wa_cameTo_16 rfl (lv_at hl 1 rfl) ?_
      refine eqi (y := nI y.toNat) (x_yN hy (by omega)) ?_
      refine ldZ (q0 := 2) (t0 := 1) hx hb d_Wa_cameTo_17 hK hP rfl rfl (by omega) (by decide) ?_
      refine b_if_eq (tgt := 25) hx hb d_Wa_cameTo_18 (by decide) (fun g18 => ?_) (fun g18 => ?_)
      · refine lv_iconst (v := nI 0) hx hb d_Wa_cameTo_25 (by decide) ?_
        refine eqi (y := bI false) (by decide) ?_
        exact eRz hx hb hr hlocks (bI_narrow _) d_Wa_cameTo_26 (bI_zero (by first | omega | (intro q; rw [g18] at q; cases q.2.2)))
      · refine lv_iconst (v := nI 1) hx hb d_Wa_cameTo_21 (by decide) ?_
        refine lv_goto (tgt := 26) hx hb d_Wa_cameTo_22 (by decide) ?_
        refine eqi (y := bI true) (by decide) ?_
        exact eRz hx hb hr hlocks (bI_narrow _) d_Wa_cameTo_26 (bI_one ⟨by omega, by omega, by assumption⟩)

set_option maxHeartbeats 4000000 in
set_option maxRecDepth 100000 in
theorem c_Wa_comeTo (l : Launch) (dC : Nat → ClassId) (dI : Nat → Nat → Nat) (z : zT) (sz : Nat) (w : Nat) (qf : Nat) (qi : Nat) (cf : ClassId) (cz : ClassId) (ad : Nat) (s0 : wkT) (x : Int32) (y : Int) (had : ad ≤ 160) (hw : wok s0) (hy : x.toInt = y) : MU l y_Wa_comeTo b_Wa_comeTo 2 none 0 0 (dC, dI) z [.ref w, .int x] [(w, .inr (3, [.ref qf, .ref qi, .int (nI ad), .int (nI s0.2.2)])), (qf, .inl (cf, 160, .inl (iN s0.1))), (qi, .inl (cz, 160, .inl (zN s0.2.1)))] [(cf, .int), (cz, .boolean)] sz none [(w, .inr (3, [.ref qf, .ref qi, .int (nI ad), .int (nI ((cm ad s0 y).2.2))])), (qf, .inl (cf, 160, .inl (iN ((cm ad s0 y).1)))), (qi, .inl (cz, 160, .inl (zN ((cm ad s0 y).2.1))))] := by
  have hw1 := hw.1
  refine metU (by decide) (Nat.le_of_ble_eq_true rfl) ?_
  intro p e s m below meth c ls A hx hb hr hlocks hml hown ht hl hP hK hSS hD hS hA
  have hl : lv_has ls 2 [(0, .ref w), (1, .int x)] := hl
  refine lv_iload_n hx hb d_Wa_comeTo_0 rfl (lv_at hl 1 rfl) ?_
  refine z_if_lt (tgt := 58) hx hb d_Wa_comeTo_1 hy (by decide) (fun g1 => ?_) (fun g1 => ?_)
  · rw [cm_n (by first | omega | (intro q; rw [g18] at q; cases q.2.2.1))]
    exact eUv hx hb hr hlocks hP hD hS [0, 1, 2] rfl rfl (by decide) d_Wa_comeTo_58
  · refine lv_iload_n hx hb d_Wa_comeTo_4 rfl (lv_at hl 1 rfl) ?_
    refine lv_aload_n hx hb d_Wa_comeTo_5 rfl (lv_at hl 0 rfl) ?_
    refine va_get (D := (dC, dI)) (ci := 3) (v := .int (nI ad)) (C := R_Wa) (T := F_Wa) (N := 4) hx hb ht in_Wa hown hK hP 0 rfl rfl 2 (by decide) (ht _ k_44) (fun _ h9 => h9) rfl d_Wa_comeTo_6 ?_
    refine z_icmp_ge (tgt := 58) hx hb d_Wa_comeTo_9 hy (tI_n (by omega)) (by decide) (fun g9 => ?_) (fun g9 => ?_)
    · rw [cm_n (by first | omega | (intro q; rw [g18] at q; cases q.2.2.1))]
      exact eUv hx hb hr hlocks hP hD hS [0, 1, 2] rfl rfl (by decide) d_Wa_comeTo_58
    · refine lv_aload_n hx hb d_Wa_comeTo_12 rfl (lv_at hl 0 rfl) ?_
      refine va_get (D := (dC, dI)) (ci := 3) (v := .ref qi) (C := R_Wa) (T := F_Wa) (N := 4) hx hb ht in_Wa hown hK hP 0 rfl rfl 1 (by decide) (ht _ k_43) (fun _ h9 => h9) rfl d_Wa_comeTo_13 ?_
      refine lv_iload_n hx hb d_Wa_comeTo_16 rfl (lv_at hl 1 rfl) ?_
      refine eqi (y := nI y.toNat) (x_yN hy (by omega)) ?_
      refine ldZ (q0 := 2) (t0 := 1) hx hb d_Wa_comeTo_17 hK hP rfl rfl (by omega) (by decide) ?_
      refine b_if_ne (tgt := 58) hx hb d_Wa_comeTo_18 (by decide) (fun g18 => ?_) (fun g18 => ?_)
      · rw [cm_n (by first | omega | (intro q; rw [g18] at q; cases q.2.2.1))]
        exact eUv hx hb hr hlocks hP hD hS [0, 1, 2] rfl rfl (by decide) d_Wa_comeTo_58
      · refine lv_aload_n hx hb d_Wa_comeTo_21 rfl (lv_at hl 0 rfl) ?_
        refine va_get (D := (dC, dI)) (ci := 3) (v := .int (nI s0.2.2)) (C := R_Wa) (T := F_Wa) (N := 4) hx hb ht in_Wa hown hK hP 0 rfl rfl 3 (by decide) (ht _ k_45) (fun _ h9 => h9) rfl d_Wa_comeTo_22 ?_
        refine lv_sipush (v := nI 160) hx hb d_Wa_comeTo_25 (by decide) ?_
        refine z_icmp_ge (tgt := 58) hx hb d_Wa_comeTo_28 (tI_n (by omega)) (tI_n (by omega)) (by decide) (fun g28 => ?_) (fun g28 => ?_)
        · rw [cm_n (by first | omega | (intro q; rw [g18] at q; cases q.2.2.1))]
          exact eUv hx hb hr hlocks hP hD hS [0, 1, 2] rfl rfl (by decide) d_Wa_comeTo_58
        · refine lv_aload_n hx hb d_Wa_comeTo_31 rfl (lv_at hl 0 rfl) ?_
          refine va_get (D := (dC, dI)) (ci := 3) (v := .ref qi) (C := R_Wa) (T := F_Wa) (N := 4) hx hb ht in_Wa hown hK hP 0 rfl rfl 1 (by decide) (ht _ k_43) (fun _ h9 => h9) rfl d_Wa_comeTo_32 ?_
          refine lv_iload_n hx hb d_Wa_comeTo_35 rfl (lv_at hl 1 rfl) ?_
          refine eqi (y := nI y.toNat) (x_yN hy (by omega)) ?_
          refine lv_iconst (v := nI 1) hx hb d_Wa_comeTo_36 (by decide) ?_
          refine eqi (y := bI true) (by decide) ?_
          refine stZ (q0 := 2) (t0 := 1) (w1 := [(w, .inr (3, [.ref qf, .ref qi, .int (nI ad), .int (nI s0.2.2)])), (qf, .inl (cf, 160, .inl (iN s0.1))), (qi, .inl (cz, 160, .inl (zN (updB s0.2.1 y.toNat true))))]) hx hb d_Wa_comeTo_37 hK hP hD hS rfl rfl (by omega) (by decide) rfl (fun H locs hP hD hS => ?_)
          refine lv_aload_n hx hb d_Wa_comeTo_38 rfl (lv_at hl 0 rfl) ?_
          refine va_get (D := (dC, dI)) (ci := 3) (v := .ref qf) (C := R_Wa) (T := F_Wa) (N := 4) hx hb ht in_Wa hown hK hP 0 rfl rfl 0 (by decide) (ht _ k_42) (fun _ h9 => h9) rfl d_Wa_comeTo_39 ?_
          refine lv_aload_n hx hb d_Wa_comeTo_42 rfl (lv_at hl 0 rfl) ?_
          refine va_get (D := (dC, dI)) (ci := 3) (v := .int (nI s0.2.2)) (C := R_Wa) (T := F_Wa) (N := 4) hx hb ht in_Wa hown hK hP 0 rfl rfl 3 (by decide) (ht _ k_45) (fun _ h9 => h9) rfl d_Wa_comeTo_43 ?_
          refine lv_iload_n hx hb d_Wa_comeTo_46 rfl (lv_at hl 1 rfl) ?_
          refine eqi (y := nI y.toNat) (x_yN hy (by omega)) ?_
          refine stI (q0 := 1) (t0 := 0) (w1 := [(w, .inr (3, [.ref qf, .ref qi, .int (nI ad), .int (nI s0.2.2)])), (qf, .inl (cf, 160, .inl (iN (updN s0.1 s0.2.2 y.toNat)))), (qi, .inl (cz, 160, .inl (zN (updB s0.2.1 y.toNat true))))]) hx hb d_Wa_comeTo_47 hK hP hD hS rfl rfl (by omega) (by decide) rfl (fun H locs hP hD hS => ?_)
          refine lv_aload_n hx hb d_Wa_comeTo_48 rfl (lv_at hl 0 rfl) ?_
          refine lv_dup hx hb d_Wa_comeTo_49 rfl ?_
          refine va_get (D := (dC, dI)) (ci := 3) (v := .int (nI s0.2.2)) (C := R_Wa) (T := F_Wa) (N := 4) hx hb ht in_Wa hown hK hP 0 rfl rfl 3 (by decide) (ht _ k_45) (fun _ h9 => h9) rfl d_Wa_comeTo_50 ?_
          refine lv_iconst (v := nI 1) hx hb d_Wa_comeTo_53 (by decide) ?_
          refine nAdd hx hb d_Wa_comeTo_54 ?_
          refine va_put (D := (dC, dI)) (ci := 3) (v := .int (nI (s0.2.2 + 1))) (ty := .int) (C := R_Wa) (T := F_Wa) (N := 4) hx hb ht in_Wa t_Wa t_Wa_ok n_Wa hown hK hP hD hS 0 rfl rfl 3 (by decide) (ht _ k_45) (fun _ h9 => h9) rfl (by decide +kernel) rfl rfl (Nat.le_of_ble_eq_true rfl) d_Wa_comeTo_55 (fun H locs hP hD hS => ?_)
          have hP : va_P (dC, dI) classes [(w, .inr (3, [.ref qf, .ref qi, .int (nI ad), .int (nI (s0.2.2 + 1))])), (qf, .inl (cf, 160, .inl (iN (updN s0.1 s0.2.2 y.toNat)))), (qi, .inl (cz, 160, .inl (zN (updB s0.2.1 y.toNat true))))] H := hP
          have hD : va_D A [(w, .inr (3, [.ref qf, .ref qi, .int (nI ad), .int (nI (s0.2.2 + 1))])), (qf, .inl (cf, 160, .inl (iN (updN s0.1 s0.2.2 y.toNat)))), (qi, .inl (cz, 160, .inl (zN (updB s0.2.1 y.toNat true))))] := hD
          rw [cm_y ⟨by omega, by omega, by assumption, by omega⟩]
          exact eUv hx hb hr hlocks hP hD hS [0, 1, 2] rfl rfl (by decide) d_Wa_comeTo_58

set_option maxHeartbeats 4000000 in
set_option maxRecDepth 100000 in
theorem c_Wa_comeToSuccessors (l : Launch) (dC : Nat → ClassId) (dI : Nat → Nat → Nat) (z : zT) (sz : Nat) (w : Nat) (qf : Nat) (qi : Nat) (cf : ClassId) (cz : ClassId) (ad : Nat) (s0 : wkT) (h : Nat) (q : Nat) (ca : ClassId) (b : Nat → Nat) (n : Nat) (a : Nat) (cs : Bool) (had : ad ≤ 160) (hw : wok s0) (hn : n ≤ 160) (hb8 : ∀ i, b i < 256) (ha : a < 160) : MU l y_Wa_comeToSuccessors b_Wa_comeToSuccessors 6 none 3 64 (dC, dI) z [.ref w, .ref h, .int (nI a), .int (bI cs)] [(w, .inr (3, [.ref qf, .ref qi, .int (nI ad), .int (nI s0.2.2)])), (qf, .inl (cf, 160, .inl (iN s0.1))), (qi, .inl (cz, 160, .inl (zN s0.2.1))), (h, .inr (1, [.ref q, .int (nI n)])), (q, .inl (ca, 160, .inl (iN b)))] [(cf, .int), (cz, .boolean), (ca, .int)] sz none [(w, .inr (3, [.ref qf, .ref qi, .int (nI ad), .int (nI ((suc b n ad cs a s0).2.2))])), (qf, .inl (cf, 160, .inl (iN ((suc b n ad cs a s0).1)))), (qi, .inl (cz, 160, .inl (zN ((suc b n ad cs a s0).2.1)))), (h, .inr (1, [.ref q, .int (nI n)])), (q, .inl (ca, 160, .inl (iN b)))] := by
  have hkb := kB_pos
  refine metU (by decide) (Nat.le_of_ble_eq_true rfl) ?_
  intro p e s m below meth c ls A hx hb hr hlocks hml hown ht hl hP hK hSS hD hS hA
  have hl : lv_has ls 6 [(0, .ref w), (1, .ref h), (2, .int (nI a)), (3, .int (bI cs))] := hl
  refine lv_aload_n hx hb d_Wa_comeToSuccessors_0 rfl (lv_at hl 1 rfl) ?_
  refine lv_iload_n hx hb d_Wa_comeToSuccessors_1 rfl (lv_at hl 2 rfl) ?_
  refine rV (As := [.int (nI a)]) (rest := []) hx hb hml hown ht (c_Im_codeKind l dC dI z h q ca b n (nI a) ((a : Nat) : Int) (by first | assumption | omega) (by first | assumption | omega) (tI_n (by omega))) yv_Im_codeKind k_219 (Nat.le_of_ble_eq_true rfl) (Nat.le_of_ble_eq_true rfl) hP hK hSS hS [3, 4] [2] rfl rfl 3 1 rfl rfl rfl hl rfl rfl (Nat.le_of_ble_eq_true rfl) (Nat.zero_le _) (Nat.zero_le _) d_Wa_comeToSuccessors_2 ?_
  rcases ek : ckd b n (a : Int) with _ | k
  · refine eqi (y := iI (-1)) rfl ?_
    refine lv_istore (lv' := [(4, .int (iI (-1))), (0, .ref w), (1, .ref h), (2, .int (nI a)), (3, .int (bI cs))]) hx hb d_Wa_comeToSuccessors_5 hl (Nat.le_of_ble_eq_true rfl) rfl (fun ls hl => ?_)
    refine lv_iload hx hb d_Wa_comeToSuccessors_7 (lv_at hl 0 rfl) ?_
    refine lv_iconst (v := iI (-1)) hx hb d_Wa_comeToSuccessors_9 (by decide) ?_
    refine z_icmp_ne (tgt := 14) hx hb d_Wa_comeToSuccessors_10 (iI_toInt (by omega) (by omega)) (iI_toInt (by omega) (by omega)) (by decide) (fun g10 => ?_) (fun g10 => ?_)
    · exfalso; omega
    · rw [suc_none ek]
      exact eUv hx hb hr hlocks hP hD hS [0, 1, 2, 3, 4] rfl rfl (by decide) d_Wa_comeToSuccessors_13
  · obtain ⟨hk, hak⟩ := ckd_in ek
    have hnum := num_in (a := a) (k := k) hb8
    refine eqi (y := nI k) rfl ?_
    refine lv_istore (lv' := [(4, .int (nI k)), (0, .ref w), (1, .ref h), (2, .int (nI a)), (3, .int (bI cs))]) hx hb d_Wa_comeToSuccessors_5 hl (Nat.le_of_ble_eq_true rfl) rfl (fun ls hl => ?_)
    refine lv_iload hx hb d_Wa_comeToSuccessors_7 (lv_at hl 0 rfl) ?_
    refine lv_iconst (v := iI (-1)) hx hb d_Wa_comeToSuccessors_9 (by decide) ?_
    refine z_icmp_ne (tgt := 14) hx hb d_Wa_comeToSuccessors_10 (tI_n (by omega)) (iI_toInt (by omega) (by omega)) (by decide) (fun g10 => ?_) (fun g10 => ?_)
    · refine lv_iload_n hx hb d_Wa_comeToSuccessors_14 rfl (lv_at hl 3 rfl) ?_
      refine lv_iload hx hb d_Wa_comeToSuccessors_15 (lv_at hl 0 rfl) ?_
      refine rS (As := [.int (nI k)]) (rest := [.int (nI a)]) hx hb hml hown ht (c_Ki_bytes l dC dI z k (by first | assumption | omega)) ys_Ki_bytes k_220 (Nat.le_of_ble_eq_true rfl) (Nat.le_of_ble_eq_true rfl) hP hK hSS hS [] [] rfl rfl hl rfl rfl (Nat.le_of_ble_eq_true rfl) (Nat.zero_le _) (Nat.zero_le _) d_Wa_comeToSuccessors_17 ?_
      refine nAdd hx hb d_Wa_comeToSuccessors_20 ?_
      refine lv_istore (lv' := [(5, .int (nI (a + (kB k)))), (4, .int (nI k)), (0, .ref w), (1, .ref h), (2, .int (nI a)), (3, .int (bI cs))]) hx hb d_Wa_comeToSuccessors_21 hl (Nat.le_of_ble_eq_true rfl) rfl (fun ls hl => ?_)
      have cut37 : ∀  (s1 : wkT) (ls : Array Slot) (H : Heap) (locs : List Loc), (suc b n ad cs a s0 = suc3 b ad a k cs (suc2 b ad a k s1)) → (wok s1) → lv_has ls 6 [(5, .int (nI (a + (kB k)))), (4, .int (nI k)), (0, .ref w), (1, .ref h), (2, .int (nI a)), (3, .int (bI cs))] → va_P (dC, dI) classes [(w, .inr (3, [.ref qf, .ref qi, .int (nI ad), .int (nI s1.2.2)])), (qf, .inl (cf, 160, .inl (iN s1.1))), (qi, .inl (cz, 160, .inl (zN s1.2.1))), (h, .inr (1, [.ref q, .int (nI n)])), (q, .inl (ca, 160, .inl (iN b)))] H → va_D A [(w, .inr (3, [.ref qf, .ref qi, .int (nI ad), .int (nI s1.2.2)])), (qf, .inl (cf, 160, .inl (iN s1.1))), (qi, .inl (cz, 160, .inl (zN s1.2.1))), (h, .inr (1, [.ref q, .int (nI n)])), (q, .inl (ca, 160, .inl (iN b)))] → va_S A s.heap H locs → W p l e (rmq 3 64) s m [.ref w, .ref h, .int (nI a), .int (bI cs)].toArray below meth c H locs 0 0 (MQ below (qcU none (dC, dI) [(w, .inr (3, [.ref qf, .ref qi, .int (nI ad), .int (nI ((suc b n ad cs a s0).2.2))])), (qf, .inl (cf, 160, .inl (iN ((suc b n ad cs a s0).1)))), (qi, .inl (cz, 160, .inl (zN ((suc b n ad cs a s0).2.1)))), (h, .inr (1, [.ref q, .int (nI n)])), (q, .inl (ca, 160, .inl (iN b)))] A) [.ref w, .ref h, .int (nI a), .int (bI cs)].toArray s 0 0 A) (F0 m 37 ls []) := by
        intro s1 ls H locs hR1 hw1 hl hP hD hS
        have cut58 : ∀  (s2 : wkT) (ls : Array Slot) (H : Heap) (locs : List Loc), (suc b n ad cs a s0 = suc3 b ad a k cs s2) → (wok s2) → lv_has ls 6 [(5, .int (nI (a + (kB k)))), (4, .int (nI k)), (0, .ref w), (1, .ref h), (2, .int (nI a)), (3, .int (bI cs))] → va_P (dC, dI) classes [(w, .inr (3, [.ref qf, .ref qi, .int (nI ad), .int (nI s2.2.2)])), (qf, .inl (cf, 160, .inl (iN s2.1))), (qi, .inl (cz, 160, .inl (zN s2.2.1))), (h, .inr (1, [.ref q, .int (nI n)])), (q, .inl (ca, 160, .inl (iN b)))] H → va_D A [(w, .inr (3, [.ref qf, .ref qi, .int (nI ad), .int (nI s2.2.2)])), (qf, .inl (cf, 160, .inl (iN s2.1))), (qi, .inl (cz, 160, .inl (zN s2.2.1))), (h, .inr (1, [.ref q, .int (nI n)])), (q, .inl (ca, 160, .inl (iN b)))] → va_S A s.heap H locs → W p l e (rmq 3 64) s m [.ref w, .ref h, .int (nI a), .int (bI cs)].toArray below meth c H locs 0 0 (MQ below (qcU none (dC, dI) [(w, .inr (3, [.ref qf, .ref qi, .int (nI ad), .int (nI ((suc b n ad cs a s0).2.2))])), (qf, .inl (cf, 160, .inl (iN ((suc b n ad cs a s0).1)))), (qi, .inl (cz, 160, .inl (zN ((suc b n ad cs a s0).2.1)))), (h, .inr (1, [.ref q, .int (nI n)])), (q, .inl (ca, 160, .inl (iN b)))] A) [.ref w, .ref h, .int (nI a), .int (bI cs)].toArray s 0 0 A) (F0 m 58 ls []) := by
          intro s2 ls H locs hR2 hw2 hl hP hD hS
          refine lv_iload hx hb d_Wa_comeToSuccessors_58 (lv_at hl 1 rfl) ?_
          refine lv_bipush (v := nI 7) hx hb d_Wa_comeToSuccessors_60 (by decide) ?_
          refine z_icmp_eq (tgt := 83) hx hb d_Wa_comeToSuccessors_62 (tI_n (by omega)) (tI_n (by omega)) (by decide) (fun g62 => ?_) (fun g62 => ?_)
          · refine lv_aload_n hx hb d_Wa_comeToSuccessors_83 rfl (lv_at hl 2 rfl) ?_
            refine lv_aload_n hx hb d_Wa_comeToSuccessors_84 rfl (lv_at hl 3 rfl) ?_
            refine lv_iload_n hx hb d_Wa_comeToSuccessors_85 rfl (lv_at hl 4 rfl) ?_
            refine lv_iload hx hb d_Wa_comeToSuccessors_86 (lv_at hl 1 rfl) ?_
            refine rV (As := [.int (nI a), .int (nI k)]) (rest := [.ref w]) hx hb hml hown ht (c_Im_number l dC dI z h q ca b n a k (by first | assumption | omega) (by first | assumption | omega) (by first | assumption | omega) (by first | assumption | omega)) yv_Im_number k_225 (Nat.le_of_ble_eq_true rfl) (Nat.le_of_ble_eq_true rfl) hP hK hSS hS [3, 4] [2] rfl rfl 3 1 rfl rfl rfl hl rfl rfl (Nat.le_of_ble_eq_true rfl) (Nat.zero_le _) (Nat.zero_le _) d_Wa_comeToSuccessors_88 ?_
            refine uV (As := [.int (iI (num b a k))]) (rest := []) (wr := [(h, .inr (1, [.ref q, .int (nI n)])), (q, .inl (ca, 160, .inl (iN b)))]) hx hb hml hown ht (c_Wa_comeTo l dC dI z _ w qf qi cf cz ad s2 (iI (num b a k)) (num b a k) (by first | assumption | omega) (by first | assumption | omega) (iI_toInt (by omega) (by omega))) yv_Wa_comeTo k_224 (Nat.le_of_ble_eq_true rfl) (Nat.le_of_ble_eq_true rfl) hP hK hSS hD hS hA [0, 1, 2] [3, 4] [0, 1] rfl rfl (by decide) rfl (by decide) (by decide) rfl 0 3 rfl rfl rfl hl rfl rfl (Nat.le_of_ble_eq_true rfl) (Nat.zero_le _) (Nat.zero_le _) d_Wa_comeToSuccessors_91 (fun H locs hP hD hS => ?_)
            have hP : va_P (dC, dI) classes [(h, .inr (1, [.ref q, .int (nI n)])), (q, .inl (ca, 160, .inl (iN b))), (w, .inr (3, [.ref qf, .ref qi, .int (nI ad), .int (nI ((cm ad s2 (num b a k)).2.2))])), (qf, .inl (cf, 160, .inl (iN ((cm ad s2 (num b a k)).1)))), (qi, .inl (cz, 160, .inl (zN ((cm ad s2 (num b a k)).2.1))))] H := hP
            have hD : va_D A [(h, .inr (1, [.ref q, .int (nI n)])), (q, .inl (ca, 160, .inl (iN b))), (w, .inr (3, [.ref qf, .ref qi, .int (nI ad), .int (nI ((cm ad s2 (num b a k)).2.2))])), (qf, .inl (cf, 160, .inl (iN ((cm ad s2 (num b a k)).1)))), (qi, .inl (cz, 160, .inl (zN ((cm ad s2 (num b a k)).2.1))))] := hD
            refine stk (st2 := []) rfl ?_
            rw [hR2, suc3, if_pos (by first | omega | exact Or.inr (Or.inr ⟨by omega, g80⟩))]
            exact eUv hx hb hr hlocks hP hD hS [2, 3, 4, 0, 1] rfl rfl (by decide) d_Wa_comeToSuccessors_94
          · refine lv_iload hx hb d_Wa_comeToSuccessors_65 (lv_at hl 1 rfl) ?_
            refine lv_bipush (v := nI 9) hx hb d_Wa_comeToSuccessors_67 (by decide) ?_
            refine z_icmp_eq (tgt := 83) hx hb d_Wa_comeToSuccessors_69 (tI_n (by omega)) (tI_n (by omega)) (by decide) (fun g69 => ?_) (fun g69 => ?_)
            · refine lv_aload_n hx hb d_Wa_comeToSuccessors_83 rfl (lv_at hl 2 rfl) ?_
              refine lv_aload_n hx hb d_Wa_comeToSuccessors_84 rfl (lv_at hl 3 rfl) ?_
              refine lv_iload_n hx hb d_Wa_comeToSuccessors_85 rfl (lv_at hl 4 rfl) ?_
              refine lv_iload hx hb d_Wa_comeToSuccessors_86 (lv_at hl 1 rfl) ?_
              refine rV (As := [.int (nI a), .int (nI k)]) (rest := [.ref w]) hx hb hml hown ht (c_Im_number l dC dI z h q ca b n a k (by first | assumption | omega) (by first | assumption | omega) (by first | assumption | omega) (by first | assumption | omega)) yv_Im_number k_225 (Nat.le_of_ble_eq_true rfl) (Nat.le_of_ble_eq_true rfl) hP hK hSS hS [3, 4] [2] rfl rfl 3 1 rfl rfl rfl hl rfl rfl (Nat.le_of_ble_eq_true rfl) (Nat.zero_le _) (Nat.zero_le _) d_Wa_comeToSuccessors_88 ?_
              refine uV (As := [.int (iI (num b a k))]) (rest := []) (wr := [(h, .inr (1, [.ref q, .int (nI n)])), (q, .inl (ca, 160, .inl (iN b)))]) hx hb hml hown ht (c_Wa_comeTo l dC dI z _ w qf qi cf cz ad s2 (iI (num b a k)) (num b a k) (by first | assumption | omega) (by first | assumption | omega) (iI_toInt (by omega) (by omega))) yv_Wa_comeTo k_224 (Nat.le_of_ble_eq_true rfl) (Nat.le_of_ble_eq_true rfl) hP hK hSS hD hS hA [0, 1, 2] [3, 4] [0, 1] rfl rfl (by decide) rfl (by decide) (by decide) rfl 0 3 rfl rfl rfl hl rfl rfl (Nat.le_of_ble_eq_true rfl) (Nat.zero_le _) (Nat.zero_le _) d_Wa_comeToSuccessors_91 (fun H locs hP hD hS => ?_)
              have hP : va_P (dC, dI) classes [(h, .inr (1, [.ref q, .int (nI n)])), (q, .inl (ca, 160, .inl (iN b))), (w, .inr (3, [.ref qf, .ref qi, .int (nI ad), .int (nI ((cm ad s2 (num b a k)).2.2))])), (qf, .inl (cf, 160, .inl (iN ((cm ad s2 (num b a k)).1)))), (qi, .inl (cz, 160, .inl (zN ((cm ad s2 (num b a k)).2.1))))] H := hP
              have hD : va_D A [(h, .inr (1, [.ref q, .int (nI n)])), (q, .inl (ca, 160, .inl (iN b))), (w, .inr (3, [.ref qf, .ref qi, .int (nI ad), .int (nI ((cm ad s2 (num b a k)).2.2))])), (qf, .inl (cf, 160, .inl (iN ((cm ad s2 (num b a k)).1)))), (qi, .inl (cz, 160, .inl (zN ((cm ad s2 (num b a k)).2.1))))] := hD
              refine stk (st2 := []) rfl ?_
              rw [hR2, suc3, if_pos (by first | omega | exact Or.inr (Or.inr ⟨by omega, g80⟩))]
              exact eUv hx hb hr hlocks hP hD hS [2, 3, 4, 0, 1] rfl rfl (by decide) d_Wa_comeToSuccessors_94
            · refine lv_iload hx hb d_Wa_comeToSuccessors_72 (lv_at hl 1 rfl) ?_
              refine lv_bipush (v := nI 8) hx hb d_Wa_comeToSuccessors_74 (by decide) ?_
              refine z_icmp_ne (tgt := 94) hx hb d_Wa_comeToSuccessors_76 (tI_n (by omega)) (tI_n (by omega)) (by decide) (fun g76 => ?_) (fun g76 => ?_)
              · rw [hR2, suc3, if_neg (by first | omega | (intro q; rw [g80] at q; simp at q; omega))]
                exact eUv hx hb hr hlocks hP hD hS [0, 1, 2, 3, 4] rfl rfl (by decide) d_Wa_comeToSuccessors_94
              · refine lv_iload_n hx hb d_Wa_comeToSuccessors_79 rfl (lv_at hl 5 rfl) ?_
                refine b_if_eq (tgt := 94) hx hb d_Wa_comeToSuccessors_80 (by decide) (fun g80 => ?_) (fun g80 => ?_)
                · rw [hR2, suc3, if_neg (by first | omega | (intro q; rw [g80] at q; simp at q; omega))]
                  exact eUv hx hb hr hlocks hP hD hS [0, 1, 2, 3, 4] rfl rfl (by decide) d_Wa_comeToSuccessors_94
                · refine lv_aload_n hx hb d_Wa_comeToSuccessors_83 rfl (lv_at hl 2 rfl) ?_
                  refine lv_aload_n hx hb d_Wa_comeToSuccessors_84 rfl (lv_at hl 3 rfl) ?_
                  refine lv_iload_n hx hb d_Wa_comeToSuccessors_85 rfl (lv_at hl 4 rfl) ?_
                  refine lv_iload hx hb d_Wa_comeToSuccessors_86 (lv_at hl 1 rfl) ?_
                  refine rV (As := [.int (nI a), .int (nI k)]) (rest := [.ref w]) hx hb hml hown ht (c_Im_number l dC dI z h q ca b n a k (by first | assumption | omega) (by first | assumption | omega) (by first | assumption | omega) (by first | assumption | omega)) yv_Im_number k_225 (Nat.le_of_ble_eq_true rfl) (Nat.le_of_ble_eq_true rfl) hP hK hSS hS [3, 4] [2] rfl rfl 3 1 rfl rfl rfl hl rfl rfl (Nat.le_of_ble_eq_true rfl) (Nat.zero_le _) (Nat.zero_le _) d_Wa_comeToSuccessors_88 ?_
                  refine uV (As := [.int (iI (num b a k))]) (rest := []) (wr := [(h, .inr (1, [.ref q, .int (nI n)])), (q, .inl (ca, 160, .inl (iN b)))]) hx hb hml hown ht (c_Wa_comeTo l dC dI z _ w qf qi cf cz ad s2 (iI (num b a k)) (num b a k) (by first | assumption | omega) (by first | assumption | omega) (iI_toInt (by omega) (by omega))) yv_Wa_comeTo k_224 (Nat.le_of_ble_eq_true rfl) (Nat.le_of_ble_eq_true rfl) hP hK hSS hD hS hA [0, 1, 2] [3, 4] [0, 1] rfl rfl (by decide) rfl (by decide) (by decide) rfl 0 3 rfl rfl rfl hl rfl rfl (Nat.le_of_ble_eq_true rfl) (Nat.zero_le _) (Nat.zero_le _) d_Wa_comeToSuccessors_91 (fun H locs hP hD hS => ?_)
                  have hP : va_P (dC, dI) classes [(h, .inr (1, [.ref q, .int (nI n)])), (q, .inl (ca, 160, .inl (iN b))), (w, .inr (3, [.ref qf, .ref qi, .int (nI ad), .int (nI ((cm ad s2 (num b a k)).2.2))])), (qf, .inl (cf, 160, .inl (iN ((cm ad s2 (num b a k)).1)))), (qi, .inl (cz, 160, .inl (zN ((cm ad s2 (num b a k)).2.1))))] H := hP
                  have hD : va_D A [(h, .inr (1, [.ref q, .int (nI n)])), (q, .inl (ca, 160, .inl (iN b))), (w, .inr (3, [.ref qf, .ref qi, .int (nI ad), .int (nI ((cm ad s2 (num b a k)).2.2))])), (qf, .inl (cf, 160, .inl (iN ((cm ad s2 (num b a k)).1)))), (qi, .inl (cz, 160, .inl (zN ((cm ad s2 (num b a k)).2.1))))] := hD
                  refine stk (st2 := []) rfl ?_
                  rw [hR2, suc3, if_pos (by first | omega | exact Or.inr (Or.inr ⟨by omega, g80⟩))]
                  exact eUv hx hb hr hlocks hP hD hS [2, 3, 4, 0, 1] rfl rfl (by decide) d_Wa_comeToSuccessors_94
        refine lv_iload hx hb d_Wa_comeToSuccessors_37 (lv_at hl 1 rfl) ?_
        refine lv_bipush (v := nI 10) hx hb d_Wa_comeToSuccessors_39 (by decide) ?_
        refine z_icmp_ne (tgt := 58) hx hb d_Wa_comeToSuccessors_41 (tI_n (by omega)) (tI_n (by omega)) (by decide) (fun g41 => ?_) (fun g41 => ?_)
        · exact cut58 s1 _ _ _ (by rw [hR1, suc2, if_neg (by omega)]) (hw1) (lv_sub hl [0, 1, 2, 3, 4, 5] rfl) (hP.sub [0, 1, 2, 3, 4] rfl) (hD.sub [0, 1, 2, 3, 4] (by decide) rfl) hS
        · refine lv_aload_n hx hb d_Wa_comeToSuccessors_44 rfl (lv_at hl 2 rfl) ?_
          refine lv_iload hx hb d_Wa_comeToSuccessors_45 (lv_at hl 0 rfl) ?_
          refine lv_aload_n hx hb d_Wa_comeToSuccessors_47 rfl (lv_at hl 3 rfl) ?_
          refine lv_iload_n hx hb d_Wa_comeToSuccessors_48 rfl (lv_at hl 4 rfl) ?_
          refine lv_iload hx hb d_Wa_comeToSuccessors_49 (lv_at hl 1 rfl) ?_
          refine rV (As := [.int (nI a), .int (nI k)]) (rest := [.int (nI (a + (kB k))), .ref w]) hx hb hml hown ht (c_Im_number l dC dI z h q ca b n a k (by first | assumption | omega) (by first | assumption | omega) (by first | assumption | omega) (by first | assumption | omega)) yv_Im_number k_225 (Nat.le_of_ble_eq_true rfl) (Nat.le_of_ble_eq_true rfl) hP hK hSS hS [3, 4] [2] rfl rfl 3 1 rfl rfl rfl hl rfl rfl (Nat.le_of_ble_eq_true rfl) (Nat.zero_le _) (Nat.zero_le _) d_Wa_comeToSuccessors_51 ?_
          refine zAdd hx hb d_Wa_comeToSuccessors_54 (nI_iI _) rfl ?_
          refine uV (As := [.int (iI (((a + (kB k) : Nat) : Int) + (num b a k)))]) (rest := []) (wr := [(h, .inr (1, [.ref q, .int (nI n)])), (q, .inl (ca, 160, .inl (iN b)))]) hx hb hml hown ht (c_Wa_comeTo l dC dI z _ w qf qi cf cz ad s1 (iI (((a + (kB k) : Nat) : Int) + (num b a k))) (((a + (kB k) : Nat) : Int) + (num b a k)) (by first | assumption | omega) (by first | assumption | omega) (iI_toInt (by omega) (by omega))) yv_Wa_comeTo k_224 (Nat.le_of_ble_eq_true rfl) (Nat.le_of_ble_eq_true rfl) hP hK hSS hD hS hA [0, 1, 2] [3, 4] [0, 1] rfl rfl (by decide) rfl (by decide) (by decide) rfl 0 3 rfl rfl rfl hl rfl rfl (Nat.le_of_ble_eq_true rfl) (Nat.zero_le _) (Nat.zero_le _) d_Wa_comeToSuccessors_55 (fun H locs hP hD hS => ?_)
          have hP : va_P (dC, dI) classes [(h, .inr (1, [.ref q, .int (nI n)])), (q, .inl (ca, 160, .inl (iN b))), (w, .inr (3, [.ref qf, .ref qi, .int (nI ad), .int (nI ((cm ad s1 (((a + (kB k) : Nat) : Int) + (num b a k))).2.2))])), (qf, .inl (cf, 160, .inl (iN ((cm ad s1 (((a + (kB k) : Nat) : Int) + (num b a k))).1)))), (qi, .inl (cz, 160, .inl (zN ((cm ad s1 (((a + (kB k) : Nat) : Int) + (num b a k))).2.1))))] H := hP
          have hD : va_D A [(h, .inr (1, [.ref q, .int (nI n)])), (q, .inl (ca, 160, .inl (iN b))), (w, .inr (3, [.ref qf, .ref qi, .int (nI ad), .int (nI ((cm ad s1 (((a + (kB k) : Nat) : Int) + (num b a k))).2.2))])), (qf, .inl (cf, 160, .inl (iN ((cm ad s1 (((a + (kB k) : Nat) : Int) + (num b a k))).1)))), (qi, .inl (cz, 160, .inl (zN ((cm ad s1 (((a + (kB k) : Nat) : Int) + (num b a k))).2.1))))] := hD
          refine stk (st2 := []) rfl ?_
          exact cut58 (cm ad s1 (((a + (kB k) : Nat) : Int) + (num b a k))) _ _ _ (by rw [hR1, suc2, if_pos (by omega)]) (cm_ok had hw1) (lv_sub hl [0, 1, 2, 3, 4, 5] rfl) (hP.sub [2, 3, 4, 0, 1] rfl) (hD.sub [2, 3, 4, 0, 1] (by decide) rfl) hS
      refine lv_iload hx hb d_Wa_comeToSuccessors_23 (lv_at hl 1 rfl) ?_
      refine rS (As := [.int (nI k)]) (rest := []) hx hb hml hown ht (c_Ki_fallsThrough l dC dI z k (by first | assumption | omega)) ys_Ki_fallsThrough k_221 (Nat.le_of_ble_eq_true rfl) (Nat.le_of_ble_eq_true rfl) hP hK hSS hS [] [] rfl rfl hl rfl rfl (Nat.le_of_ble_eq_true rfl) (Nat.zero_le _) (Nat.zero_le _) d_Wa_comeToSuccessors_25 ?_
      refine b_if_eq (tgt := 37) hx hb d_Wa_comeToSuccessors_28 (by decide) (fun g28 => ?_) (fun g28 => ?_)
      · exact cut37 s0 _ _ _ (by rw [suc_some ek, suc1, if_neg (by rw [g28]; decide)]) (hw) (lv_sub hl [0, 1, 2, 3, 4, 5] rfl) (hP.sub [0, 1, 2, 3, 4] rfl) (hD.sub [0, 1, 2, 3, 4] (by decide) rfl) hS
      · refine lv_aload_n hx hb d_Wa_comeToSuccessors_31 rfl (lv_at hl 2 rfl) ?_
        refine lv_iload hx hb d_Wa_comeToSuccessors_32 (lv_at hl 0 rfl) ?_
        refine uV (As := [.int (nI (a + (kB k)))]) (rest := []) (wr := [(h, .inr (1, [.ref q, .int (nI n)])), (q, .inl (ca, 160, .inl (iN b)))]) hx hb hml hown ht (c_Wa_comeTo l dC dI z _ w qf qi cf cz ad s0 (nI (a + (kB k))) ((a + (kB k) : Nat) : Int) (by first | assumption | omega) (by first | assumption | omega) (tI_n (by omega))) yv_Wa_comeTo k_224 (Nat.le_of_ble_eq_true rfl) (Nat.le_of_ble_eq_true rfl) hP hK hSS hD hS hA [0, 1, 2] [3, 4] [0, 1] rfl rfl (by decide) rfl (by decide) (by decide) rfl 0 3 rfl rfl rfl hl rfl rfl (Nat.le_of_ble_eq_true rfl) (Nat.zero_le _) (Nat.zero_le _) d_Wa_comeToSuccessors_34 (fun H locs hP hD hS => ?_)
        have hP : va_P (dC, dI) classes [(h, .inr (1, [.ref q, .int (nI n)])), (q, .inl (ca, 160, .inl (iN b))), (w, .inr (3, [.ref qf, .ref qi, .int (nI ad), .int (nI ((cm ad s0 ((a + (kB k) : Nat) : Int)).2.2))])), (qf, .inl (cf, 160, .inl (iN ((cm ad s0 ((a + (kB k) : Nat) : Int)).1)))), (qi, .inl (cz, 160, .inl (zN ((cm ad s0 ((a + (kB k) : Nat) : Int)).2.1))))] H := hP
        have hD : va_D A [(h, .inr (1, [.ref q, .int (nI n)])), (q, .inl (ca, 160, .inl (iN b))), (w, .inr (3, [.ref qf, .ref qi, .int (nI ad), .int (nI ((cm ad s0 ((a + (kB k) : Nat) : Int)).2.2))])), (qf, .inl (cf, 160, .inl (iN ((cm ad s0 ((a + (kB k) : Nat) : Int)).1)))), (qi, .inl (cz, 160, .inl (zN ((cm ad s0 ((a + (kB k) : Nat) : Int)).2.1))))] := hD
        refine stk (st2 := []) rfl ?_
        exact cut37 (cm ad s0 ((a + (kB k) : Nat) : Int)) _ _ _ (by rw [suc_some ek, suc1, if_pos g28]) (cm_ok had hw) (lv_sub hl [0, 1, 2, 3, 4, 5] rfl) (hP.sub [2, 3, 4, 0, 1] rfl) (hD.sub [2, 3, 4, 0, 1] (by decide) rfl) hS
    · exfalso; omega

set_option maxHeartbeats 4000000 in
set_option maxRecDepth 100000 in
theorem c_Wa_follow (l : Launch) (dC : Nat → ClassId) (dI : Nat → Nat → Nat) (z : zT) (sz : Nat) (w : Nat) (qf : Nat) (qi : Nat) (cf : ClassId) (cz : ClassId) (ad : Nat) (s0 : wkT) (h : Nat) (q : Nat) (ca : ClassId) (b : Nat → Nat) (n : Nat) (cs : Bool) (had : ad ≤ 160) (hw : wok s0) (hn : n ≤ 160) (hb8 : ∀ i, b i < 256) : MU l y_Wa_follow b_Wa_follow 4 none 4 89 (dC, dI) z [.ref w, .ref h, .int (bI cs)] [(w, .inr (3, [.ref qf, .ref qi, .int (nI ad), .int (nI s0.2.2)])), (qf, .inl (cf, 160, .inl (iN s0.1))), (qi, .inl (cz, 160, .inl (zN s0.2.1))), (h, .inr (1, [.ref q, .int (nI n)])), (q, .inl (ca, 160, .inl (iN b)))] [(cf, .int), (cz, .boolean), (ca, .int)] sz none [(w, .inr (3, [.ref qf, .ref qi, .int (nI ad), .int (nI ((fol b n ad cs 160 0 s0).2.2))])), (qf, .inl (cf, 160, .inl (iN ((fol b n ad cs 160 0 s0).1)))), (qi, .inl (cz, 160, .inl (zN ((fol b n ad cs 160 0 s0).2.1)))), (h, .inr (1, [.ref q, .int (nI n)])), (q, .inl (ca, 160, .inl (iN b)))] := by
  refine metU (by decide) (Nat.le_of_ble_eq_true rfl) ?_
  intro p e s m below meth c ls A hx hb hr hlocks hml hown ht hl hP hK hSS hD hS hA
  have hl : lv_has ls 4 [(0, .ref w), (1, .ref h), (2, .int (bI cs))] := hl
  refine lv_iconst (v := nI 0) hx hb d_Wa_follow_0 (by decide) ?_
  refine lv_istore_n (lv' := [(3, .int (nI 0)), (0, .ref w), (1, .ref h), (2, .int (bI cs))]) hx hb d_Wa_follow_1 rfl hl (Nat.le_of_ble_eq_true rfl) rfl (fun ls hl => ?_)
  have loop2 : ∀ (j : Nat) (k : Nat) (s1 : wkT) (ls : Array Slot) (H : Heap) (locs : List Loc), (k + j = 160) → (wok s1) → (fol b n ad cs 160 0 s0 = fol b n ad cs j k s1) → lv_has ls 4 [(3, .int (nI k)), (0, .ref w), (1, .ref h), (2, .int (bI cs))] → va_P (dC, dI) classes [(w, .inr (3, [.ref qf, .ref qi, .int (nI ad), .int (nI s1.2.2)])), (qf, .inl (cf, 160, .inl (iN s1.1))), (qi, .inl (cz, 160, .inl (zN s1.2.1))), (h, .inr (1, [.ref q, .int (nI n)])), (q, .inl (ca, 160, .inl (iN b)))] H → va_D A [(w, .inr (3, [.ref qf, .ref qi, .int (nI ad), .int (nI s1.2.2)])), (qf, .inl (cf, 160, .inl (iN s1.1))), (qi, .inl (cz, 160, .inl (zN s1.2.1))), (h, .inr (1, [.ref q, .int (nI n)])), (q, .inl (ca, 160, .inl (iN b)))] → va_S A s.heap H locs → W p l e (rmq 4 89) s m [.ref w, .ref h, .int (bI cs)].toArray below meth c H locs 0 0 (MQ below (qcU none (dC, dI) [(w, .inr (3, [.ref qf, .ref qi, .int (nI ad), .int (nI ((fol b n ad cs 160 0 s0).2.2))])), (qf, .inl (cf, 160, .inl (iN ((fol b n ad cs 160 0 s0).1)))), (qi, .inl (cz, 160, .inl (zN ((fol b n ad cs 160 0 s0).2.1)))), (h, .inr (1, [.ref q, .int (nI n)])), (q, .inl (ca, 160, .inl (iN b)))] A) [.ref w, .ref h, .int (bI cs)].toArray s 0 0 A) (F0 m 2 ls []) := by
    intro j
    induction j with
    | zero =>
      intro k s1 ls H locs hk hw1 hR hl hP hD hS
      have hq := hw1.1
      refine lv_iload_n hx hb d_Wa_follow_2 rfl (lv_at hl 0 rfl) ?_
      refine lv_aload_n hx hb d_Wa_follow_3 rfl (lv_at hl 1 rfl) ?_
      refine va_get (D := (dC, dI)) (ci := 3) (v := .int (nI s1.2.2)) (C := R_Wa) (T := F_Wa) (N := 4) hx hb ht in_Wa hown hK hP 0 rfl rfl 3 (by decide) (ht _ k_45) (fun _ h9 => h9) rfl d_Wa_follow_4 ?_
      refine z_icmp_ge (tgt := 35) hx hb d_Wa_follow_7 (tI_n (by omega)) (tI_n (by omega)) (by decide) (fun g7 => ?_) (fun g7 => ?_)
      · rw [hR]
        exact eUv hx hb hr hlocks hP hD hS [0, 1, 2, 3, 4] rfl rfl (by decide) d_Wa_follow_35
      · refine lv_iload_n hx hb d_Wa_follow_10 rfl (lv_at hl 0 rfl) ?_
        refine lv_sipush (v := nI 160) hx hb d_Wa_follow_11 (by decide) ?_
        refine z_icmp_ge (tgt := 35) hx hb d_Wa_follow_14 (tI_n (by omega)) (tI_n (by omega)) (by decide) (fun g14 => ?_) (fun g14 => ?_)
        · rw [hR]
          exact eUv hx hb hr hlocks hP hD hS [0, 1, 2, 3, 4] rfl rfl (by decide) d_Wa_follow_35
        · exfalso; omega
    | succ j ih =>
      intro k s1 ls H locs hk hw1 hR hl hP hD hS
      have hq := hw1.1
      refine lv_iload_n hx hb d_Wa_follow_2 rfl (lv_at hl 0 rfl) ?_
      refine lv_aload_n hx hb d_Wa_follow_3 rfl (lv_at hl 1 rfl) ?_
      refine va_get (D := (dC, dI)) (ci := 3) (v := .int (nI s1.2.2)) (C := R_Wa) (T := F_Wa) (N := 4) hx hb ht in_Wa hown hK hP 0 rfl rfl 3 (by decide) (ht _ k_45) (fun _ h9 => h9) rfl d_Wa_follow_4 ?_
      refine z_icmp_ge (tgt := 35) hx hb d_Wa_follow_7 (tI_n (by omega)) (tI_n (by omega)) (by decide) (fun g7 => ?_) (fun g7 => ?_)
      · rw [hR, fol, if_neg (by omega)]
        exact eUv hx hb hr hlocks hP hD hS [0, 1, 2, 3, 4] rfl rfl (by decide) d_Wa_follow_35
      · refine lv_iload_n hx hb d_Wa_follow_10 rfl (lv_at hl 0 rfl) ?_
        refine lv_sipush (v := nI 160) hx hb d_Wa_follow_11 (by decide) ?_
        refine z_icmp_ge (tgt := 35) hx hb d_Wa_follow_14 (tI_n (by omega)) (tI_n (by omega)) (by decide) (fun g14 => ?_) (fun g14 => ?_)
        · exfalso; omega
        · refine lv_aload_n hx hb d_Wa_follow_17 rfl (lv_at hl 1 rfl) ?_
          refine lv_aload_n hx hb d_Wa_follow_18 rfl (lv_at hl 2 rfl) ?_
          refine lv_aload_n hx hb d_Wa_follow_19 rfl (lv_at hl 1 rfl) ?_
          refine va_get (D := (dC, dI)) (ci := 3) (v := .ref qf) (C := R_Wa) (T := F_Wa) (N := 4) hx hb ht in_Wa hown hK hP 0 rfl rfl 0 (by decide) (ht _ k_42) (fun _ h9 => h9) rfl d_Wa_follow_20 ?_
          refine lv_iload_n hx hb d_Wa_follow_23 rfl (lv_at hl 0 rfl) ?_
          refine ldI (q0 := 1) (t0 := 0) hx hb d_Wa_follow_24 hK hP rfl rfl (by omega) (by decide) ?_
          refine lv_iload_n hx hb d_Wa_follow_25 rfl (lv_at hl 3 rfl) ?_
          refine uV (As := [.ref h, .int (nI (s1.1 k)), .int (bI cs)]) (rest := []) (wr := []) hx hb hml hown ht (c_Wa_comeToSuccessors l dC dI z _ w qf qi cf cz ad s1 h q ca b n (s1.1 k) cs (by first | assumption | omega) (by first | assumption | omega) (by first | assumption | omega) (by first | assumption | omega) (hw1.2 k (by omega))) yv_Wa_comeToSuccessors k_215 (Nat.le_of_ble_eq_true rfl) (Nat.le_of_ble_eq_true rfl) hP hK hSS hD hS hA [0, 1, 2, 3, 4] [] [0, 1, 2] rfl rfl (by decide) rfl (by decide) (by decide) rfl 0 3 rfl rfl rfl hl rfl rfl (Nat.le_of_ble_eq_true rfl) (Nat.zero_le _) (Nat.zero_le _) d_Wa_follow_26 (fun H locs hP hD hS => ?_)
          have hP : va_P (dC, dI) classes [(w, .inr (3, [.ref qf, .ref qi, .int (nI ad), .int (nI ((suc b n ad cs (s1.1 k) s1).2.2))])), (qf, .inl (cf, 160, .inl (iN ((suc b n ad cs (s1.1 k) s1).1)))), (qi, .inl (cz, 160, .inl (zN ((suc b n ad cs (s1.1 k) s1).2.1)))), (h, .inr (1, [.ref q, .int (nI n)])), (q, .inl (ca, 160, .inl (iN b)))] H := hP
          have hD : va_D A [(w, .inr (3, [.ref qf, .ref qi, .int (nI ad), .int (nI ((suc b n ad cs (s1.1 k) s1).2.2))])), (qf, .inl (cf, 160, .inl (iN ((suc b n ad cs (s1.1 k) s1).1)))), (qi, .inl (cz, 160, .inl (zN ((suc b n ad cs (s1.1 k) s1).2.1)))), (h, .inr (1, [.ref q, .int (nI n)])), (q, .inl (ca, 160, .inl (iN b)))] := hD
          refine stk (st2 := []) rfl ?_
          refine lv_iinc (k := 0) (v := nI (k + 1)) (lv' := [(3, .int (nI (k + 1))), (0, .ref w), (1, .ref h), (2, .int (bI cs))]) hx hb d_Wa_follow_29 hl rfl (nI_inc1 _) (Nat.le_of_ble_eq_true rfl) rfl (fun ls hl => ?_)
          refine lv_goto (tgt := 2) hx hb d_Wa_follow_32 (by decide) ?_
          exact ih (k + 1) (suc b n ad cs (s1.1 k) s1) _ _ _ (by omega) (suc_ok had hw1) (by rw [hR, fol, if_pos (by omega)]) (lv_sub hl [0, 1, 2, 3] rfl) (hP.sub [0, 1, 2, 3, 4] rfl) (hD.sub [0, 1, 2, 3, 4] (by decide) rfl) hS
  exact loop2 160 0 s0 _ _ _ (rfl) (hw) (rfl) (lv_sub hl [0, 1, 2, 3] rfl) (hP.sub [0, 1, 2, 3, 4] rfl) (hD.sub [0, 1, 2, 3, 4] (by decide) rfl) hS
