set_option maxHeartbeats 4000000 in
set_option maxRecDepth 100000 in
theorem c_Im_count (l : Launch) (dC : Nat → ClassId) (dI : Nat → Nat → Nat) (z : zT) (h : Nat) (q : Nat) (ca : ClassId) (b : Nat → Nat) (n : Nat) : MR l y_Im_count b_Im_count 1 (some .int) 0 0 (dC, dI) z [.ref h] [(h, .inr (1, [.ref q, .int (nI n)])), (q, .inl (ca, 160, .inl (iN b)))] [(ca, .int)] (.int (nI n)) := by
  refine metR (by decide) (Nat.le_of_ble_eq_true rfl) ?_
  intro p e s m below meth c ls hx hb hr hlocks hml hown ht hl hP hK hSS
  have hl : lv_has ls 1 [(0, .ref h)] := hl
  have hS : va_S (fun _ => False) s.heap s.heap [] := va_S.rf
  refine lv_aload_n hx hb d_Im_count_0 rfl (lv_at hl 0 rfl) ?_
  refine va_get (D := (dC, dI)) (ci := 1) (v := .int (nI n)) (C := R_Im) (T := F_Im) (N := 2) hx hb ht in_Im hown hK hP 0 rfl rfl 1 (by decide) (ht _ k_29) (fun _ h9 => h9) rfl d_Im_count_1 ?_
  exact eRi hx hb hr hlocks d_Im_count_4 (rfl)

set_option maxHeartbeats 4000000 in
set_option maxRecDepth 100000 in
theorem c_Im_holds (l : Launch) (dC : Nat → ClassId) (dI : Nat → Nat → Nat) (z : zT) (h : Nat) (q : Nat) (ca : ClassId) (b : Nat → Nat) (n : Nat) (x : Int32) (y : Int) (hn : n ≤ 160) (hy : x.toInt = y) : MR l y_Im_holds b_Im_holds 2 (some .boolean) 0 0 (dC, dI) z [.ref h, .int x] [(h, .inr (1, [.ref q, .int (nI n)])), (q, .inl (ca, 160, .inl (iN b)))] [(ca, .int)] (.int (bI (decide (0 ≤ y ∧ y < (n : Int))))) := by
  refine metR (by decide) (Nat.le_of_ble_eq_true rfl) ?_
  intro p e s m below meth c ls hx hb hr hlocks hml hown ht hl hP hK hSS
  have hl : lv_has ls 2 [(0, .ref h), (1, .int x)] := hl
  have hS : va_S (fun _ => False) s.heap s.heap [] := va_S.rf
  refine lv_iload_n hx hb d_Im_holds_0 rfl (lv_at hl 1 rfl) ?_
  refine z_if_lt (tgt := 16) hx hb d_Im_holds_1 hy (by decide) (fun g1 => ?_) (fun g1 => ?_)
  · refine lv_iconst (v := nI 0) hx hb d_Im_holds_16 (by decide) ?_
    refine eqi (y := bI false) (by decide) ?_
    exact eRz hx hb hr hlocks (bI_narrow _) d_Im_holds_17 (bI_zero (by omega))
  · refine lv_iload_n hx hb d_Im_holds_4 rfl (lv_at hl 1 rfl) ?_
    refine lv_aload_n hx hb d_Im_holds_5 rfl (lv_at hl 0 rfl) ?_
    refine va_get (D := (dC, dI)) (ci := 1) (v := .int (nI n)) (C := R_Im) (T := F_Im) (N := 2) hx hb ht in_Im hown hK hP 0 rfl rfl 1 (by decide) (ht _ k_29) (fun _ h9 => h9) rfl d_Im_holds_6 ?_
    refine z_icmp_ge (tgt := 16) hx hb d_Im_holds_9 hy (tI_n (by omega)) (by decide) (fun g9 => ?_) (fun g9 => ?_)
    · refine lv_iconst (v := nI 0) hx hb d_Im_holds_16 (by decide) ?_
      refine eqi (y := bI false) (by decide) ?_
      exact eRz hx hb hr hlocks (bI_narrow _) d_Im_holds_17 (bI_zero (by omega))
    · refine lv_iconst (v := nI 1) hx hb d_Im_holds_12 (by decide) ?_
      refine lv_goto (tgt := 17) hx hb d_Im_holds_13 (by decide) ?_
      refine eqi (y := bI true) (by decide) ?_
      exact eRz hx hb hr hlocks (bI_narrow _) d_Im_holds_17 (bI_one (by omega))

set_option maxHeartbeats 4000000 in
set_option maxRecDepth 100000 in
theorem c_Im_at (l : Launch) (dC : Nat → ClassId) (dI : Nat → Nat → Nat) (z : zT) (h : Nat) (q : Nat) (ca : ClassId) (b : Nat → Nat) (n : Nat) (x : Int32) (y : Int) (hn : n ≤ 160) (hy : x.toInt = y) : MR l y_Im_at b_Im_at 2 (some .int) 1 21 (dC, dI) z [.ref h, .int x] [(h, .inr (1, [.ref q, .int (nI n)])), (q, .inl (ca, 160, .inl (iN b)))] [(ca, .int)] (.int (iI (atZ b n y))) := by
  refine metR (by decide) (Nat.le_of_ble_eq_true rfl) ?_
  intro p e s m below meth c ls hx hb hr hlocks hml hown ht hl hP hK hSS
  have hl : lv_has ls 2 [(0, .ref h), (1, .int x)] := hl
  have hS : va_S (fun _ => False) s.heap s.heap [] := va_S.rf
  refine lv_aload_n hx hb d_Im_at_0 rfl (lv_at hl 0 rfl) ?_
  refine lv_iload_n hx hb d_Im_at_1 rfl (lv_at hl 1 rfl) ?_
  refine rV (As := [.int x]) (rest := []) hx hb hml hown ht (c_Im_holds l dC dI z h q ca b n x y (by first | assumption | omega) hy) yv_Im_holds k_162 (Nat.le_of_ble_eq_true rfl) (Nat.le_of_ble_eq_true rfl) hP hK hSS hS [0, 1] [0] rfl rfl 0 1 rfl rfl rfl hl rfl rfl (Nat.le_of_ble_eq_true rfl) (Nat.zero_le _) (Nat.zero_le _) d_Im_at_2 ?_
  refine b_if_eq (tgt := 17) hx hb d_Im_at_5 (by decide) (fun g5 => ?_) (fun g5 => ?_)
  · have g := of_decide_eq_false g5
    refine lv_iconst (v := iI (-1)) hx hb d_Im_at_17 (by decide) ?_
    exact eRi hx hb hr hlocks d_Im_at_18 (by rw [atZ, if_neg g])
  · have g := of_decide_eq_true g5
    refine lv_aload_n hx hb d_Im_at_8 rfl (lv_at hl 0 rfl) ?_
    refine va_get (D := (dC, dI)) (ci := 1) (v := .ref q) (C := R_Im) (T := F_Im) (N := 2) hx hb ht in_Im hown hK hP 0 rfl rfl 0 (by decide) (ht _ k_28) (fun _ h9 => h9) rfl d_Im_at_9 ?_
    refine lv_iload_n hx hb d_Im_at_12 rfl (lv_at hl 1 rfl) ?_
    refine eqi (y := nI y.toNat) (x_yN hy (by omega)) ?_
    refine ldI (q0 := 1) (t0 := 0) hx hb d_Im_at_13 hK hP rfl rfl (by omega) (by decide) ?_
    refine lv_goto (tgt := 18) hx hb d_Im_at_14 (by decide) ?_
    exact eRi hx hb hr hlocks d_Im_at_18 (by rw [nI_iI, atZ, if_pos g])

set_option maxHeartbeats 4000000 in
set_option maxRecDepth 100000 in
theorem c_Im_add (l : Launch) (dC : Nat → ClassId) (dI : Nat → Nat → Nat) (z : zT) (sz : Nat) (h : Nat) (q : Nat) (ca : ClassId) (b : Nat → Nat) (n : Nat) (v : Nat) (hn : n < 160) : MU l y_Im_add b_Im_add 2 none 0 0 (dC, dI) z [.ref h, .int (nI v)] [(h, .inr (1, [.ref q, .int (nI n)])), (q, .inl (ca, 160, .inl (iN b)))] [(ca, .int)] sz none [(h, .inr (1, [.ref q, .int (nI (n + 1))])), (q, .inl (ca, 160, .inl (iN (updN b n v))))] := by
  refine metU (by decide) (Nat.le_of_ble_eq_true rfl) ?_
  intro p e s m below meth c ls A hx hb hr hlocks hml hown ht hl hP hK hSS hD hS hA
  have hl : lv_has ls 2 [(0, .ref h), (1, .int (nI v))] := hl
  refine lv_aload_n hx hb d_Im_add_0 rfl (lv_at hl 0 rfl) ?_
  refine va_get (D := (dC, dI)) (ci := 1) (v := .int (nI n)) (C := R_Im) (T := F_Im) (N := 2) hx hb ht in_Im hown hK hP 0 rfl rfl 1 (by decide) (ht _ k_29) (fun _ h9 => h9) rfl d_Im_add_1 ?_
  refine lv_sipush (v := nI 160) hx hb d_Im_add_4 (by decide) ?_
  refine z_icmp_ge (tgt := 30) hx hb d_Im_add_7 (tI_n (by omega)) (tI_n (by omega)) (by decide) (fun g7 => ?_) (fun g7 => ?_)
  · exfalso; omega
  · refine lv_aload_n hx hb d_Im_add_10 rfl (lv_at hl 0 rfl) ?_
    refine va_get (D := (dC, dI)) (ci := 1) (v := .ref q) (C := R_Im) (T := F_Im) (N := 2) hx hb ht in_Im hown hK hP 0 rfl rfl 0 (by decide) (ht _ k_28) (fun _ h9 => h9) rfl d_Im_add_11 ?_
    refine lv_aload_n hx hb d_Im_add_14 rfl (lv_at hl 0 rfl) ?_
    refine va_get (D := (dC, dI)) (ci := 1) (v := .int (nI n)) (C := R_Im) (T := F_Im) (N := 2) hx hb ht in_Im hown hK hP 0 rfl rfl 1 (by decide) (ht _ k_29) (fun _ h9 => h9) rfl d_Im_add_15 ?_
    refine lv_iload_n hx hb d_Im_add_18 rfl (lv_at hl 1 rfl) ?_
    refine stI (q0 := 1) (t0 := 0) (w1 := [(h, .inr (1, [.ref q, .int (nI n)])), (q, .inl (ca, 160, .inl (iN (updN b n v))))]) hx hb d_Im_add_19 hK hP hD hS rfl rfl (by omega) (by decide) rfl (fun H locs hP hD hS => ?_)
    refine lv_aload_n hx hb d_Im_add_20 rfl (lv_at hl 0 rfl) ?_
    refine lv_dup hx hb d_Im_add_21 rfl ?_
    refine va_get (D := (dC, dI)) (ci := 1) (v := .int (nI n)) (C := R_Im) (T := F_Im) (N := 2) hx hb ht in_Im hown hK hP 0 rfl rfl 1 (by decide) (ht _ k_29) (fun _ h9 => h9) rfl d_Im_add_22 ?_
    refine lv_iconst (v := nI 1) hx hb d_Im_add_25 (by decide) ?_
    refine nAdd hx hb d_Im_add_26 ?_
    refine va_put (D := (dC, dI)) (ci := 1) (v := .int (nI (n + 1))) (ty := .int) (C := R_Im) (T := F_Im) (N := 2) hx hb ht in_Im t_Im t_Im_ok n_Im hown hK hP hD hS 0 rfl rfl 1 (by decide) (ht _ k_29) (fun _ h9 => h9) rfl (by decide +kernel) rfl rfl (Nat.le_of_ble_eq_true rfl) d_Im_add_27 (fun H locs hP hD hS => ?_)
    have hP : va_P (dC, dI) classes [(h, .inr (1, [.ref q, .int (nI (n + 1))])), (q, .inl (ca, 160, .inl (iN (updN b n v))))] H := hP
    have hD : va_D A [(h, .inr (1, [.ref q, .int (nI (n + 1))])), (q, .inl (ca, 160, .inl (iN (updN b n v))))] := hD
    exact eUv hx hb hr hlocks hP hD hS [0, 1] rfl rfl (by decide) d_Im_add_30

set_option maxHeartbeats 4000000 in
set_option maxRecDepth 100000 in
theorem c_Im_drop (l : Launch) (dC : Nat → ClassId) (dI : Nat → Nat → Nat) (z : zT) (sz : Nat) (h : Nat) (q : Nat) (ca : ClassId) (b : Nat → Nat) (n : Nat) : MU l y_Im_drop b_Im_drop 1 none 0 0 (dC, dI) z [.ref h] [(h, .inr (1, [.ref q, .int (nI n)])), (q, .inl (ca, 160, .inl (iN b)))] [(ca, .int)] sz none [(h, .inr (1, [.ref q, .int (nI 0)])), (q, .inl (ca, 160, .inl (iN b)))] := by
  refine metU (by decide) (Nat.le_of_ble_eq_true rfl) ?_
  intro p e s m below meth c ls A hx hb hr hlocks hml hown ht hl hP hK hSS hD hS hA
  have hl : lv_has ls 1 [(0, .ref h)] := hl
  refine lv_aload_n hx hb d_Im_drop_0 rfl (lv_at hl 0 rfl) ?_
  refine lv_iconst (v := nI 0) hx hb d_Im_drop_1 (by decide) ?_
  refine va_put (D := (dC, dI)) (ci := 1) (v := .int (nI 0)) (ty := .int) (C := R_Im) (T := F_Im) (N := 2) hx hb ht in_Im t_Im t_Im_ok n_Im hown hK hP hD hS 0 rfl rfl 1 (by decide) (ht _ k_29) (fun _ h9 => h9) rfl (by decide +kernel) rfl rfl (Nat.le_of_ble_eq_true rfl) d_Im_drop_2 (fun H locs hP hD hS => ?_)
  have hP : va_P (dC, dI) classes [(h, .inr (1, [.ref q, .int (nI 0)])), (q, .inl (ca, 160, .inl (iN b)))] H := hP
  have hD : va_D A [(h, .inr (1, [.ref q, .int (nI 0)])), (q, .inl (ca, 160, .inl (iN b)))] := hD
  exact eUv hx hb hr hlocks hP hD hS [0, 1] rfl rfl (by decide) d_Im_drop_5

set_option maxHeartbeats 4000000 in
set_option maxRecDepth 100000 in
theorem c_Im_codeKind (l : Launch) (dC : Nat → ClassId) (dI : Nat → Nat → Nat) (z : zT) (h : Nat) (q : Nat) (ca : ClassId) (b : Nat → Nat) (n : Nat) (x : Int32) (y : Int) (hn : n ≤ 160) (hb8 : ∀ i, b i < 256) (hy : x.toInt = y) : MR l y_Im_codeKind b_Im_codeKind 3 (some .int) 2 42 (dC, dI) z [.ref h, .int x] [(h, .inr (1, [.ref q, .int (nI n)])), (q, .inl (ca, 160, .inl (iN b)))] [(ca, .int)] (.int (oI (ckd b n y))) := by
  refine metR (by decide) (Nat.le_of_ble_eq_true rfl) ?_
  intro p e s m below meth c ls hx hb hr hlocks hml hown ht hl hP hK hSS
  have hl : lv_has ls 3 [(0, .ref h), (1, .int x)] := hl
  have hS : va_S (fun _ => False) s.heap s.heap [] := va_S.rf
  refine lv_aload_n hx hb d_Im_codeKind_0 rfl (lv_at hl 0 rfl) ?_
  refine lv_iload_n hx hb d_Im_codeKind_1 rfl (lv_at hl 1 rfl) ?_
  refine rV (As := [.int x]) (rest := []) hx hb hml hown ht (c_Im_at l dC dI z h q ca b n x y (by first | assumption | omega) hy) yv_Im_at k_179 (Nat.le_of_ble_eq_true rfl) (Nat.le_of_ble_eq_true rfl) hP hK hSS hS [0, 1] [0] rfl rfl 0 1 rfl rfl rfl hl rfl rfl (Nat.le_of_ble_eq_true rfl) (Nat.zero_le _) (Nat.zero_le _) d_Im_codeKind_2 ?_
  refine rS (As := [.int (iI (atZ b n y))]) (rest := []) hx hb hml hown ht (c_Ki_ofFirst l dC dI z (iI (atZ b n y)) (atZ b n y) (atZ_toInt hb8)) ys_Ki_ofFirst k_180 (Nat.le_of_ble_eq_true rfl) (Nat.le_of_ble_eq_true rfl) hP hK hSS hS [] [] rfl rfl hl rfl rfl (Nat.le_of_ble_eq_true rfl) (Nat.zero_le _) (Nat.zero_le _) d_Im_codeKind_5 ?_
  rcases ek : kd (atZ b n y) with _ | k
  · refine eqi (y := iI (-1)) rfl ?_
    refine lv_istore_n (lv' := [(2, .int (iI (-1))), (0, .ref h), (1, .int x)]) hx hb d_Im_codeKind_8 rfl hl (Nat.le_of_ble_eq_true rfl) rfl (fun ls hl => ?_)
    refine lv_iload_n hx hb d_Im_codeKind_9 rfl (lv_at hl 0 rfl) ?_
    refine lv_iconst (v := iI (-1)) hx hb d_Im_codeKind_10 (by decide) ?_
    refine z_icmp_eq (tgt := 31) hx hb d_Im_codeKind_11 (iI_toInt (by omega) (by omega)) (iI_toInt (by omega) (by omega)) (by decide) (fun g11 => ?_) (fun g11 => ?_)
    · refine lv_iconst (v := iI (-1)) hx hb d_Im_codeKind_31 (by decide) ?_
      exact eRi hx hb hr hlocks d_Im_codeKind_32 (by first | (rw [ckd_n ek]; rfl) | (rw [ckd_z ek (by omega)]; rfl))
    · exfalso; omega
  · have hk := kd_lt ek
    have hx1 := kd_held ek
    have hB := kB_pos k
    refine eqi (y := nI k) rfl ?_
    refine lv_istore_n (lv' := [(2, .int (nI k)), (0, .ref h), (1, .int x)]) hx hb d_Im_codeKind_8 rfl hl (Nat.le_of_ble_eq_true rfl) rfl (fun ls hl => ?_)
    refine lv_iload_n hx hb d_Im_codeKind_9 rfl (lv_at hl 0 rfl) ?_
    refine lv_iconst (v := iI (-1)) hx hb d_Im_codeKind_10 (by decide) ?_
    refine z_icmp_eq (tgt := 31) hx hb d_Im_codeKind_11 (tI_n (by omega)) (iI_toInt (by omega) (by omega)) (by decide) (fun g11 => ?_) (fun g11 => ?_)
    · exfalso; omega
    · refine lv_iload_n hx hb d_Im_codeKind_14 rfl (lv_at hl 0 rfl) ?_
      refine rS (As := [.int (nI k)]) (rest := []) hx hb hml hown ht (c_Ki_bytes l dC dI z k (by first | assumption | omega)) ys_Ki_bytes k_187 (Nat.le_of_ble_eq_true rfl) (Nat.le_of_ble_eq_true rfl) hP hK hSS hS [] [] rfl rfl hl rfl rfl (Nat.le_of_ble_eq_true rfl) (Nat.zero_le _) (Nat.zero_le _) d_Im_codeKind_15 ?_
      refine lv_aload_n hx hb d_Im_codeKind_18 rfl (lv_at hl 1 rfl) ?_
      refine va_get (D := (dC, dI)) (ci := 1) (v := .int (nI n)) (C := R_Im) (T := F_Im) (N := 2) hx hb ht in_Im hown hK hP 0 rfl rfl 1 (by decide) (ht _ k_29) (fun _ h9 => h9) rfl d_Im_codeKind_19 ?_
      refine lv_iload_n hx hb d_Im_codeKind_22 rfl (lv_at hl 2 rfl) ?_
      refine zSub hx hb d_Im_codeKind_23 (nI_iI _) (x_iI hy) ?_
      refine z_icmp_gt (tgt := 31) hx hb d_Im_codeKind_24 (tI_n (by omega)) (iI_toInt (by omega) (by omega)) (by decide) (fun g24 => ?_) (fun g24 => ?_)
      · refine lv_iconst (v := iI (-1)) hx hb d_Im_codeKind_31 (by decide) ?_
        exact eRi hx hb hr hlocks d_Im_codeKind_32 (by first | (rw [ckd_n ek]; rfl) | (rw [ckd_z ek (by omega)]; rfl))
      · refine lv_iload_n hx hb d_Im_codeKind_27 rfl (lv_at hl 0 rfl) ?_
        refine lv_goto (tgt := 32) hx hb d_Im_codeKind_28 (by decide) ?_
        exact eRi hx hb hr hlocks d_Im_codeKind_32 (by rw [ckd_y ek (by omega)]; rfl)

set_option maxHeartbeats 4000000 in
set_option maxRecDepth 100000 in
theorem c_Im_codeLength (l : Launch) (dC : Nat → ClassId) (dI : Nat → Nat → Nat) (z : zT) (h : Nat) (q : Nat) (ca : ClassId) (b : Nat → Nat) (n : Nat) (x : Int32) (y : Int) (hn : n ≤ 160) (hb8 : ∀ i, b i < 256) (hy : x.toInt = y) : MR l y_Im_codeLength b_Im_codeLength 3 (some .int) 3 64 (dC, dI) z [.ref h, .int x] [(h, .inr (1, [.ref q, .int (nI n)])), (q, .inl (ca, 160, .inl (iN b)))] [(ca, .int)] (.int (nI (cln b n y))) := by
  refine metR (by decide) (Nat.le_of_ble_eq_true rfl) ?_
  intro p e s m below meth c ls hx hb hr hlocks hml hown ht hl hP hK hSS
  have hl : lv_has ls 3 [(0, .ref h), (1, .int x)] := hl
  have hS : va_S (fun _ => False) s.heap s.heap [] := va_S.rf
  refine lv_aload_n hx hb d_Im_codeLength_0 rfl (lv_at hl 0 rfl) ?_
  refine lv_iload_n hx hb d_Im_codeLength_1 rfl (lv_at hl 1 rfl) ?_
  refine rV (As := [.int x]) (rest := []) hx hb hml hown ht (c_Im_codeKind l dC dI z h q ca b n x y (by first | assumption | omega) (by first | assumption | omega) hy) yv_Im_codeKind k_175 (Nat.le_of_ble_eq_true rfl) (Nat.le_of_ble_eq_true rfl) hP hK hSS hS [0, 1] [0] rfl rfl 0 1 rfl rfl rfl hl rfl rfl (Nat.le_of_ble_eq_true rfl) (Nat.zero_le _) (Nat.zero_le _) d_Im_codeLength_2 ?_
  rcases ek : ckd b n y with _ | k
  · refine eqi (y := iI (-1)) rfl ?_
    refine lv_istore_n (lv' := [(2, .int (iI (-1))), (0, .ref h), (1, .int x)]) hx hb d_Im_codeLength_5 rfl hl (Nat.le_of_ble_eq_true rfl) rfl (fun ls hl => ?_)
    refine lv_iload_n hx hb d_Im_codeLength_6 rfl (lv_at hl 0 rfl) ?_
    refine lv_iconst (v := iI (-1)) hx hb d_Im_codeLength_7 (by decide) ?_
    refine z_icmp_ne (tgt := 15) hx hb d_Im_codeLength_8 (iI_toInt (by omega) (by omega)) (iI_toInt (by omega) (by omega)) (by decide) (fun g8 => ?_) (fun g8 => ?_)
    · exfalso; omega
    · refine lv_iconst (v := nI 0) hx hb d_Im_codeLength_11 (by decide) ?_
      refine lv_goto (tgt := 19) hx hb d_Im_codeLength_12 (by decide) ?_
      exact eRi hx hb hr hlocks d_Im_codeLength_19 (by unfold cln; rw [ek])
  · have hk := ckd_lt ek
    refine eqi (y := nI k) rfl ?_
    refine lv_istore_n (lv' := [(2, .int (nI k)), (0, .ref h), (1, .int x)]) hx hb d_Im_codeLength_5 rfl hl (Nat.le_of_ble_eq_true rfl) rfl (fun ls hl => ?_)
    refine lv_iload_n hx hb d_Im_codeLength_6 rfl (lv_at hl 0 rfl) ?_
    refine lv_iconst (v := iI (-1)) hx hb d_Im_codeLength_7 (by decide) ?_
    refine z_icmp_ne (tgt := 15) hx hb d_Im_codeLength_8 (tI_n (by omega)) (iI_toInt (by omega) (by omega)) (by decide) (fun g8 => ?_) (fun g8 => ?_)
    · refine lv_iload_n hx hb d_Im_codeLength_15 rfl (lv_at hl 0 rfl) ?_
      refine rS (As := [.int (nI k)]) (rest := []) hx hb hml hown ht (c_Ki_bytes l dC dI z k (by first | assumption | omega)) ys_Ki_bytes k_187 (Nat.le_of_ble_eq_true rfl) (Nat.le_of_ble_eq_true rfl) hP hK hSS hS [] [] rfl rfl hl rfl rfl (Nat.le_of_ble_eq_true rfl) (Nat.zero_le _) (Nat.zero_le _) d_Im_codeLength_16 ?_
      exact eRi hx hb hr hlocks d_Im_codeLength_19 (by unfold cln; rw [ek])
    · exfalso; omega

set_option maxHeartbeats 4000000 in
set_option maxRecDepth 100000 in
theorem c_Im_number (l : Launch) (dC : Nat → ClassId) (dI : Nat → Nat → Nat) (z : zT) (h : Nat) (q : Nat) (ca : ClassId) (b : Nat → Nat) (n : Nat) (a : Nat) (k : Nat) (hn : n ≤ 160) (hb8 : ∀ i, b i < 256) (hk : k < 14) (ha : a + kB k ≤ n) : MR l y_Im_number b_Im_number 3 (some .int) 2 42 (dC, dI) z [.ref h, .int (nI a), .int (nI k)] [(h, .inr (1, [.ref q, .int (nI n)])), (q, .inl (ca, 160, .inl (iN b)))] [(ca, .int)] (.int (iI (num b a k))) := by
  refine metR (by decide) (Nat.le_of_ble_eq_true rfl) ?_
  intro p e s m below meth c ls hx hb hr hlocks hml hown ht hl hP hK hSS
  have hl : lv_has ls 3 [(0, .ref h), (1, .int (nI a)), (2, .int (nI k))] := hl
  have hS : va_S (fun _ => False) s.heap s.heap [] := va_S.rf
  refine lv_iload_n hx hb d_Im_number_0 rfl (lv_at hl 2 rfl) ?_
  refine rS (As := [.int (nI k)]) (rest := []) hx hb hml hown ht (c_Ki_number l dC dI z k (by first | assumption | omega)) ys_Ki_number k_229 (Nat.le_of_ble_eq_true rfl) (Nat.le_of_ble_eq_true rfl) hP hK hSS hS [] [] rfl rfl hl rfl rfl (Nat.le_of_ble_eq_true rfl) (Nat.zero_le _) (Nat.zero_le _) d_Im_number_1 ?_
  rcases kN_cases k hk with ek | ek | ek | ek
  · have hB : kB k = 1 := by simp [kB, ek]
    refine eqi (y := nI 0) (by rw [ek]) ?_
    refine lv_tableOut (tgt := 69) hx hb d_Im_number_4 (by decide) (by decide) ?_
    refine lv_iconst (v := nI 0) hx hb d_Im_number_69 (by decide) ?_
    exact eRi hx hb hr hlocks d_Im_number_70 (by rw [nI_iI, num, if_neg (by omega), if_neg (by omega), if_neg (by omega)]; rfl)
  · have hB : kB k = 2 := by simp [kB, ek]
    refine eqi (y := nI 1) (by rw [ek]) ?_
    refine lv_tableIn (off := 28) (tgt := 32) hx hb d_Im_number_4 (by decide) (by decide) (by decide) (by decide) ?_
    refine lv_aload_n hx hb d_Im_number_32 rfl (lv_at hl 0 rfl) ?_
    refine lv_iload_n hx hb d_Im_number_33 rfl (lv_at hl 1 rfl) ?_
    refine lv_iconst (v := nI 1) hx hb d_Im_number_34 (by decide) ?_
    refine nAdd hx hb d_Im_number_35 ?_
    refine rV (As := [.int (nI (a + 1))]) (rest := []) hx hb hml hown ht (c_Im_at l dC dI z h q ca b n (nI (a + 1)) ((a + 1 : Nat) : Int) (by first | assumption | omega) (tI_n (by omega))) yv_Im_at k_179 (Nat.le_of_ble_eq_true rfl) (Nat.le_of_ble_eq_true rfl) hP hK hSS hS [0, 1] [0] rfl rfl 0 1 rfl rfl rfl hl rfl rfl (Nat.le_of_ble_eq_true rfl) (Nat.zero_le _) (Nat.zero_le _) d_Im_number_36 ?_
    exact eRi hx hb hr hlocks d_Im_number_39 (by rw [atZ_n (by omega), num, if_pos ek])
  · have hB : kB k = 2 := by simp [kB, ek]
    refine eqi (y := nI 2) (by rw [ek]) ?_
    refine lv_tableIn (off := 36) (tgt := 40) hx hb d_Im_number_4 (by decide) (by decide) (by decide) (by decide) ?_
    refine lv_aload_n hx hb d_Im_number_40 rfl (lv_at hl 0 rfl) ?_
    refine lv_iload_n hx hb d_Im_number_41 rfl (lv_at hl 1 rfl) ?_
    refine lv_iconst (v := nI 1) hx hb d_Im_number_42 (by decide) ?_
    refine nAdd hx hb d_Im_number_43 ?_
    refine rV (As := [.int (nI (a + 1))]) (rest := []) hx hb hml hown ht (c_Im_at l dC dI z h q ca b n (nI (a + 1)) ((a + 1 : Nat) : Int) (by first | assumption | omega) (tI_n (by omega))) yv_Im_at k_179 (Nat.le_of_ble_eq_true rfl) (Nat.le_of_ble_eq_true rfl) hP hK hSS hS [0, 1] [0] rfl rfl 0 1 rfl rfl rfl hl rfl rfl (Nat.le_of_ble_eq_true rfl) (Nat.zero_le _) (Nat.zero_le _) d_Im_number_44 ?_
    refine lv_i2b (v := iI (sx8 (b (a + 1)))) hx hb d_Im_number_47 (by rw [atZ_n (by omega), ← nI_iI]; exact i2b_n (hb8 _)) ?_
    exact eRi hx hb hr hlocks d_Im_number_48 (by rw [num, if_neg (by omega), if_pos ek])
  · have hB : kB k = 3 := by simp [kB, ek]
    refine eqi (y := nI 3) (by rw [ek]) ?_
    refine lv_tableIn (off := 45) (tgt := 49) hx hb d_Im_number_4 (by decide) (by decide) (by decide) (by decide) ?_
    refine lv_sipush (v := nI 256) hx hb d_Im_number_49 (by decide) ?_
    refine lv_aload_n hx hb d_Im_number_52 rfl (lv_at hl 0 rfl) ?_
    refine lv_iload_n hx hb d_Im_number_53 rfl (lv_at hl 1 rfl) ?_
    refine lv_iconst (v := nI 1) hx hb d_Im_number_54 (by decide) ?_
    refine nAdd hx hb d_Im_number_55 ?_
    refine rV (As := [.int (nI (a + 1))]) (rest := [.int (nI 256)]) hx hb hml hown ht (c_Im_at l dC dI z h q ca b n (nI (a + 1)) ((a + 1 : Nat) : Int) (by first | assumption | omega) (tI_n (by omega))) yv_Im_at k_179 (Nat.le_of_ble_eq_true rfl) (Nat.le_of_ble_eq_true rfl) hP hK hSS hS [0, 1] [0] rfl rfl 0 1 rfl rfl rfl hl rfl rfl (Nat.le_of_ble_eq_true rfl) (Nat.zero_le _) (Nat.zero_le _) d_Im_number_56 ?_
    refine zMul hx hb d_Im_number_59 (nI_iI _) rfl ?_
    refine lv_aload_n hx hb d_Im_number_60 rfl (lv_at hl 0 rfl) ?_
    refine lv_iload_n hx hb d_Im_number_61 rfl (lv_at hl 1 rfl) ?_
    refine lv_iconst (v := nI 2) hx hb d_Im_number_62 (by decide) ?_
    refine nAdd hx hb d_Im_number_63 ?_
    refine rV (As := [.int (nI (a + 2))]) (rest := [.int (iI (((256 : Nat) : Int) * (atZ b n ((a + 1 : Nat) : Int))))]) hx hb hml hown ht (c_Im_at l dC dI z h q ca b n (nI (a + 2)) ((a + 2 : Nat) : Int) (by first | assumption | omega) (tI_n (by omega))) yv_Im_at k_179 (Nat.le_of_ble_eq_true rfl) (Nat.le_of_ble_eq_true rfl) hP hK hSS hS [0, 1] [0] rfl rfl 0 1 rfl rfl rfl hl rfl rfl (Nat.le_of_ble_eq_true rfl) (Nat.zero_le _) (Nat.zero_le _) d_Im_number_64 ?_
    refine zAdd hx hb d_Im_number_67 rfl rfl ?_
    exact eRi hx hb hr hlocks d_Im_number_68 (by rw [atZ_n (by omega), atZ_n (by omega), num, if_neg (by omega), if_neg (by omega), if_pos ek]; congr 1)
