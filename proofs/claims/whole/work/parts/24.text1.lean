set_option maxHeartbeats 4000000 in
set_option maxRecDepth 100000 in
theorem c_Te_count (l : Launch) (dC : Nat → ClassId) (dI : Nat → Nat → Nat) (z : zT) (h : Nat) (q : Nat) (cc : ClassId) (s0 : txT) (r0 : rdT) : MR l y_Te_count b_Te_count 1 (some .int) 0 0 (dC, dI) z [.ref h] [(h, .inr (2, [.ref q, .int (nI s0.2), .int (nI r0.1), .int (bI r0.2)])), (q, .inl (cc, 2400, .inl (iN s0.1)))] [(cc, .char)] (.int (nI s0.2)) := by
  refine metR (by decide) (Nat.le_of_ble_eq_true rfl) ?_
  intro p e s m below meth c ls hx hb hr hlocks hml hown ht hl hP hK hSS
  have hl : lv_has ls 1 [(0, .ref h)] := hl
  have hS : va_S (fun _ => False) s.heap s.heap [] := va_S.rf
  refine lv_aload_n hx hb d_Te_count_0 rfl (lv_at hl 0 rfl) ?_
  refine va_get (D := (dC, dI)) (ci := 2) (v := .int (nI s0.2)) (C := R_Te) (T := F_Te) (N := 4) hx hb ht in_Te hown hK hP 0 rfl rfl 1 (by decide) (ht _ k_63) (fun _ h9 => h9) rfl d_Te_count_1 ?_
  exact eRi hx hb hr hlocks d_Te_count_4 (rfl)

set_option maxHeartbeats 4000000 in
set_option maxRecDepth 100000 in
theorem c_Te_at (l : Launch) (dC : Nat → ClassId) (dI : Nat → Nat → Nat) (z : zT) (h : Nat) (q : Nat) (cc : ClassId) (s0 : txT) (pl0 : Nat) (rt0 : Bool) (x : Int32) (y : Int) (hs : s0.2 ≤ 2400) (hy : x.toInt = y) : MR l y_Te_at b_Te_at 2 (some .int) 0 0 (dC, dI) z [.ref h, .int x] [(h, .inr (2, [.ref q, .int (nI s0.2), .int (nI pl0), .int (bI rt0)])), (q, .inl (cc, 2400, .inl (iN s0.1)))] [(cc, .char)] (.int (iI (atZ s0.1 s0.2 y))) := by
  refine metR (by decide) (Nat.le_of_ble_eq_true rfl) ?_
  intro p e s m below meth c ls hx hb hr hlocks hml hown ht hl hP hK hSS
  have hl : lv_has ls 2 [(0, .ref h), (1, .int x)] := hl
  have hS : va_S (fun _ => False) s.heap s.heap [] := va_S.rf
  refine lv_iload_n hx hb d_Te_at_0 rfl (lv_at hl 1 rfl) ?_
  refine z_if_lt (tgt := 21) hx hb d_Te_at_1 hy (by decide) (fun g1 => ?_) (fun g1 => ?_)
  · refine lv_iconst (v := iI (-1)) hx hb d_Te_at_21 (by decide) ?_
    exact eRi hx hb hr hlocks d_Te_at_22 (by rw [atZ, if_neg (by omega)])
  · refine lv_iload_n hx hb d_Te_at_4 rfl (lv_at hl 1 rfl) ?_
    refine lv_aload_n hx hb d_Te_at_5 rfl (lv_at hl 0 rfl) ?_
    refine va_get (D := (dC, dI)) (ci := 2) (v := .int (nI s0.2)) (C := R_Te) (T := F_Te) (N := 4) hx hb ht in_Te hown hK hP 0 rfl rfl 1 (by decide) (ht _ k_63) (fun _ h9 => h9) rfl d_Te_at_6 ?_
    refine z_icmp_ge (tgt := 21) hx hb d_Te_at_9 hy (tI_n (by omega)) (by decide) (fun g9 => ?_) (fun g9 => ?_)
    · refine lv_iconst (v := iI (-1)) hx hb d_Te_at_21 (by decide) ?_
      exact eRi hx hb hr hlocks d_Te_at_22 (by rw [atZ, if_neg (by omega)])
    · refine lv_aload_n hx hb d_Te_at_12 rfl (lv_at hl 0 rfl) ?_
      refine va_get (D := (dC, dI)) (ci := 2) (v := .ref q) (C := R_Te) (T := F_Te) (N := 4) hx hb ht in_Te hown hK hP 0 rfl rfl 0 (by decide) (ht _ k_62) (fun _ h9 => h9) rfl d_Te_at_13 ?_
      refine lv_iload_n hx hb d_Te_at_16 rfl (lv_at hl 1 rfl) ?_
      refine eqi (y := nI y.toNat) (x_yN hy (by omega)) ?_
      refine ldC (q0 := 1) (t0 := 0) hx hb d_Te_at_17 hK hP rfl rfl (by omega) (by decide) ?_
      refine lv_goto (tgt := 22) hx hb d_Te_at_18 (by decide) ?_
      exact eRi hx hb hr hlocks d_Te_at_22 (by rw [nI_iI, atZ, if_pos (by omega)])

set_option maxHeartbeats 4000000 in
set_option maxRecDepth 100000 in
theorem c_Te_drop (l : Launch) (dC : Nat → ClassId) (dI : Nat → Nat → Nat) (z : zT) (sz : Nat) (h : Nat) (q : Nat) (cc : ClassId) (s0 : txT) (r0 : rdT) : MU l y_Te_drop b_Te_drop 1 none 0 0 (dC, dI) z [.ref h] [(h, .inr (2, [.ref q, .int (nI s0.2), .int (nI r0.1), .int (bI r0.2)])), (q, .inl (cc, 2400, .inl (iN s0.1)))] [(cc, .char)] sz none [(h, .inr (2, [.ref q, .int (nI ((dr s0).2)), .int (nI r0.1), .int (bI r0.2)])), (q, .inl (cc, 2400, .inl (iN ((dr s0).1))))] := by
  refine metU (by decide) (Nat.le_of_ble_eq_true rfl) ?_
  intro p e s m below meth c ls A hx hb hr hlocks hml hown ht hl hP hK hSS hD hS hA
  have hl : lv_has ls 1 [(0, .ref h)] := hl
  refine lv_aload_n hx hb d_Te_drop_0 rfl (lv_at hl 0 rfl) ?_
  refine lv_iconst (v := nI 0) hx hb d_Te_drop_1 (by decide) ?_
  refine va_put (D := (dC, dI)) (ci := 2) (v := .int (nI 0)) (ty := .int) (C := R_Te) (T := F_Te) (N := 4) hx hb ht in_Te t_Te t_Te_ok n_Te hown hK hP hD hS 0 rfl rfl 1 (by decide) (ht _ k_63) (fun _ h9 => h9) rfl (by decide +kernel) rfl rfl (Nat.le_of_ble_eq_true rfl) d_Te_drop_2 (fun H locs hP hD hS => ?_)
  have hP : va_P (dC, dI) classes [(h, .inr (2, [.ref q, .int (nI 0), .int (nI r0.1), .int (bI r0.2)])), (q, .inl (cc, 2400, .inl (iN s0.1)))] H := hP
  have hD : va_D A [(h, .inr (2, [.ref q, .int (nI 0), .int (nI r0.1), .int (bI r0.2)])), (q, .inl (cc, 2400, .inl (iN s0.1)))] := hD
  exact eUv hx hb hr hlocks hP hD hS [0, 1] rfl rfl (by decide) d_Te_drop_5

set_option maxHeartbeats 4000000 in
set_option maxRecDepth 100000 in
theorem c_Te_put (l : Launch) (dC : Nat → ClassId) (dI : Nat → Nat → Nat) (z : zT) (sz : Nat) (h : Nat) (q : Nat) (cc : ClassId) (s0 : txT) (r0 : rdT) (i : Nat) (v : Nat) (hs : s0.2 ≤ 2400) (hi : i ≤ s0.2) (hi2 : i < 2400) (hv : v < 65536) : MU l y_Te_put b_Te_put 3 none 1 21 (dC, dI) z [.ref h, .int (nI i), .int (nI v)] [(h, .inr (2, [.ref q, .int (nI s0.2), .int (nI r0.1), .int (bI r0.2)])), (q, .inl (cc, 2400, .inl (iN s0.1)))] [(cc, .char)] sz none [(h, .inr (2, [.ref q, .int (nI ((pu s0 i v).2)), .int (nI r0.1), .int (bI r0.2)])), (q, .inl (cc, 2400, .inl (iN ((pu s0 i v).1))))] := by
  refine metU (by decide) (Nat.le_of_ble_eq_true rfl) ?_
  intro p e s m below meth c ls A hx hb hr hlocks hml hown ht hl hP hK hSS hD hS hA
  have hl : lv_has ls 3 [(0, .ref h), (1, .int (nI i)), (2, .int (nI v))] := hl
  refine lv_iload_n hx hb d_Te_put_0 rfl (lv_at hl 1 rfl) ?_
  refine z_if_lt (tgt := 40) hx hb d_Te_put_1 (tI_n (by omega)) (by decide) (fun g1 => ?_) (fun g1 => ?_)
  · exfalso; omega
  · refine lv_iload_n hx hb d_Te_put_4 rfl (lv_at hl 1 rfl) ?_
    refine lv_aload_n hx hb d_Te_put_5 rfl (lv_at hl 0 rfl) ?_
    refine va_get (D := (dC, dI)) (ci := 2) (v := .int (nI s0.2)) (C := R_Te) (T := F_Te) (N := 4) hx hb ht in_Te hown hK hP 0 rfl rfl 1 (by decide) (ht _ k_63) (fun _ h9 => h9) rfl d_Te_put_6 ?_
    refine z_icmp_gt (tgt := 40) hx hb d_Te_put_9 (tI_n (by omega)) (tI_n (by omega)) (by decide) (fun g9 => ?_) (fun g9 => ?_)
    · exfalso; omega
    · refine lv_iload_n hx hb d_Te_put_12 rfl (lv_at hl 1 rfl) ?_
      refine lv_sipush (v := nI 2400) hx hb d_Te_put_13 (by decide) ?_
      refine z_icmp_ge (tgt := 40) hx hb d_Te_put_16 (tI_n (by omega)) (tI_n (by omega)) (by decide) (fun g16 => ?_) (fun g16 => ?_)
      · exfalso; omega
      · refine lv_aload_n hx hb d_Te_put_19 rfl (lv_at hl 0 rfl) ?_
        refine va_get (D := (dC, dI)) (ci := 2) (v := .ref q) (C := R_Te) (T := F_Te) (N := 4) hx hb ht in_Te hown hK hP 0 rfl rfl 0 (by decide) (ht _ k_62) (fun _ h9 => h9) rfl d_Te_put_20 ?_
        refine lv_iload_n hx hb d_Te_put_23 rfl (lv_at hl 1 rfl) ?_
        refine lv_iload_n hx hb d_Te_put_24 rfl (lv_at hl 2 rfl) ?_
        refine stC (q0 := 1) (t0 := 0) (w1 := [(h, .inr (2, [.ref q, .int (nI s0.2), .int (nI r0.1), .int (bI r0.2)])), (q, .inl (cc, 2400, .inl (iN (updN s0.1 i v))))]) hx hb d_Te_put_25 hK hP hD hS rfl rfl (by omega) (by decide) (by omega) rfl (fun H locs hP hD hS => ?_)
        refine lv_aload_n hx hb d_Te_put_26 rfl (lv_at hl 0 rfl) ?_
        refine lv_aload_n hx hb d_Te_put_27 rfl (lv_at hl 0 rfl) ?_
        refine va_get (D := (dC, dI)) (ci := 2) (v := .int (nI s0.2)) (C := R_Te) (T := F_Te) (N := 4) hx hb ht in_Te hown hK hP 0 rfl rfl 1 (by decide) (ht _ k_63) (fun _ h9 => h9) rfl d_Te_put_28 ?_
        refine lv_iload_n hx hb d_Te_put_31 rfl (lv_at hl 1 rfl) ?_
        refine lv_iconst (v := nI 1) hx hb d_Te_put_32 (by decide) ?_
        refine nAdd hx hb d_Te_put_33 ?_
        refine va_mmax hx hb (by rw [hml]; exact hl.1.symm) hown (ht _ k_341) (ht _ k_253) (ht _ k_8) (ht _ k_254) (Nat.le_of_ble_eq_true rfl) (Nat.le_of_ble_eq_true rfl) (Nat.zero_le _) (Nat.zero_le _) d_Te_put_34 ?_
        refine eqi (y := nI (max s0.2 (i + 1))) (max_n (by omega) (by omega)) ?_
        refine va_put (D := (dC, dI)) (ci := 2) (v := .int (nI (max s0.2 (i + 1)))) (ty := .int) (C := R_Te) (T := F_Te) (N := 4) hx hb ht in_Te t_Te t_Te_ok n_Te hown hK hP hD hS 0 rfl rfl 1 (by decide) (ht _ k_63) (fun _ h9 => h9) rfl (by decide +kernel) rfl rfl (Nat.le_of_ble_eq_true rfl) d_Te_put_37 (fun H locs hP hD hS => ?_)
        have hP : va_P (dC, dI) classes [(h, .inr (2, [.ref q, .int (nI (max s0.2 (i + 1))), .int (nI r0.1), .int (bI r0.2)])), (q, .inl (cc, 2400, .inl (iN (updN s0.1 i v))))] H := hP
        have hD : va_D A [(h, .inr (2, [.ref q, .int (nI (max s0.2 (i + 1))), .int (nI r0.1), .int (bI r0.2)])), (q, .inl (cc, 2400, .inl (iN (updN s0.1 i v))))] := hD
        exact eUv hx hb hr hlocks hP hD hS [0, 1] rfl rfl (by decide) d_Te_put_40

set_option maxHeartbeats 4000000 in
set_option maxRecDepth 100000 in
theorem c_Te_add (l : Launch) (dC : Nat → ClassId) (dI : Nat → Nat → Nat) (z : zT) (sz : Nat) (h : Nat) (q : Nat) (cc : ClassId) (s0 : txT) (r0 : rdT) (v : Nat) (hs : s0.2 < 2400) (hv : v < 65536) : MU l y_Te_add b_Te_add 2 none 2 43 (dC, dI) z [.ref h, .int (nI v)] [(h, .inr (2, [.ref q, .int (nI s0.2), .int (nI r0.1), .int (bI r0.2)])), (q, .inl (cc, 2400, .inl (iN s0.1)))] [(cc, .char)] sz none [(h, .inr (2, [.ref q, .int (nI ((ap1 s0 v).2)), .int (nI r0.1), .int (bI r0.2)])), (q, .inl (cc, 2400, .inl (iN ((ap1 s0 v).1))))] := by
  refine metU (by decide) (Nat.le_of_ble_eq_true rfl) ?_
  intro p e s m below meth c ls A hx hb hr hlocks hml hown ht hl hP hK hSS hD hS hA
  have hl : lv_has ls 2 [(0, .ref h), (1, .int (nI v))] := hl
  refine lv_aload_n hx hb d_Te_add_0 rfl (lv_at hl 0 rfl) ?_
  refine lv_aload_n hx hb d_Te_add_1 rfl (lv_at hl 0 rfl) ?_
  refine va_get (D := (dC, dI)) (ci := 2) (v := .int (nI s0.2)) (C := R_Te) (T := F_Te) (N := 4) hx hb ht in_Te hown hK hP 0 rfl rfl 1 (by decide) (ht _ k_63) (fun _ h9 => h9) rfl d_Te_add_2 ?_
  refine lv_iload_n hx hb d_Te_add_5 rfl (lv_at hl 1 rfl) ?_
  refine uV (As := [.int (nI s0.2), .int (nI v)]) (rest := []) (wr := []) hx hb hml hown ht (c_Te_put l dC dI z _ h q cc s0 r0 s0.2 v (by first | assumption | omega) (by first | assumption | omega) (by first | assumption | omega) (by first | assumption | omega)) yv_Te_put k_337 (Nat.le_of_ble_eq_true rfl) (Nat.le_of_ble_eq_true rfl) hP hK hSS hD hS hA [0, 1] [] [0] rfl rfl (by decide) rfl (by decide) (by decide) rfl 0 2 rfl rfl rfl hl rfl rfl (Nat.le_of_ble_eq_true rfl) (Nat.zero_le _) (Nat.zero_le _) d_Te_add_6 (fun H locs hP hD hS => ?_)
  have hP : va_P (dC, dI) classes [(h, .inr (2, [.ref q, .int (nI ((pu s0 s0.2 v).2)), .int (nI r0.1), .int (bI r0.2)])), (q, .inl (cc, 2400, .inl (iN ((pu s0 s0.2 v).1))))] H := hP
  have hD : va_D A [(h, .inr (2, [.ref q, .int (nI ((pu s0 s0.2 v).2)), .int (nI r0.1), .int (bI r0.2)])), (q, .inl (cc, 2400, .inl (iN ((pu s0 s0.2 v).1))))] := hD
  refine stk (st2 := []) rfl ?_
  rw [← pu_add s0 v]
  exact eUv hx hb hr hlocks hP hD hS [0, 1] rfl rfl (by decide) d_Te_add_9

set_option maxHeartbeats 4000000 in
set_option maxRecDepth 100000 in
theorem c_Te_addComma (l : Launch) (dC : Nat → ClassId) (dI : Nat → Nat → Nat) (z : zT) (sz : Nat) (h : Nat) (q : Nat) (cc : ClassId) (s0 : txT) (r0 : rdT) (k : Nat) (hs : s0.2 < 2400) (hk : k < 100) : MU l y_Te_addComma b_Te_addComma 2 none 3 64 (dC, dI) z [.ref h, .int (nI k)] [(h, .inr (2, [.ref q, .int (nI s0.2), .int (nI r0.1), .int (bI r0.2)])), (q, .inl (cc, 2400, .inl (iN s0.1)))] [(cc, .char)] sz none [(h, .inr (2, [.ref q, .int (nI ((ap s0 (cmL k)).2)), .int (nI r0.1), .int (bI r0.2)])), (q, .inl (cc, 2400, .inl (iN ((ap s0 (cmL k)).1))))] := by
  refine metU (by decide) (Nat.le_of_ble_eq_true rfl) ?_
  intro p e s m below meth c ls A hx hb hr hlocks hml hown ht hl hP hK hSS hD hS hA
  have hl : lv_has ls 2 [(0, .ref h), (1, .int (nI k))] := hl
  refine lv_iload_n hx hb d_Te_addComma_0 rfl (lv_at hl 1 rfl) ?_
  refine z_if_le (tgt := 10) hx hb d_Te_addComma_1 (tI_n (by omega)) (by decide) (fun g1 => ?_) (fun g1 => ?_)
  · rw [ap_cm_n (by omega)]
    exact eUv hx hb hr hlocks hP hD hS [0, 1] rfl rfl (by decide) d_Te_addComma_10
  · refine lv_aload_n hx hb d_Te_addComma_4 rfl (lv_at hl 0 rfl) ?_
    refine lv_bipush (v := nI 44) hx hb d_Te_addComma_5 (by decide) ?_
    refine uV (As := [.int (nI 44)]) (rest := []) (wr := []) hx hb hml hown ht (c_Te_add l dC dI z _ h q cc s0 r0 44 (by first | assumption | omega) (by first | assumption | omega)) yv_Te_add k_333 (Nat.le_of_ble_eq_true rfl) (Nat.le_of_ble_eq_true rfl) hP hK hSS hD hS hA [0, 1] [] [0] rfl rfl (by decide) rfl (by decide) (by decide) rfl 0 2 rfl rfl rfl hl rfl rfl (Nat.le_of_ble_eq_true rfl) (Nat.zero_le _) (Nat.zero_le _) d_Te_addComma_7 (fun H locs hP hD hS => ?_)
    have hP : va_P (dC, dI) classes [(h, .inr (2, [.ref q, .int (nI ((ap1 s0 44).2)), .int (nI r0.1), .int (bI r0.2)])), (q, .inl (cc, 2400, .inl (iN ((ap1 s0 44).1))))] H := hP
    have hD : va_D A [(h, .inr (2, [.ref q, .int (nI ((ap1 s0 44).2)), .int (nI r0.1), .int (bI r0.2)])), (q, .inl (cc, 2400, .inl (iN ((ap1 s0 44).1))))] := hD
    refine stk (st2 := []) rfl ?_
    rw [ap_cm_y (by omega)]
    exact eUv hx hb hr hlocks hP hD hS [0, 1] rfl rfl (by decide) d_Te_addComma_10

set_option maxHeartbeats 4000000 in
set_option maxRecDepth 100000 in
theorem c_Te_addDigit (l : Launch) (dC : Nat → ClassId) (dI : Nat → Nat → Nat) (z : zT) (sz : Nat) (h : Nat) (q : Nat) (cc : ClassId) (s0 : txT) (r0 : rdT) (d : Nat) (hs : s0.2 < 2400) (hd : d ≤ 9) : MU l y_Te_addDigit b_Te_addDigit 2 none 3 64 (dC, dI) z [.ref h, .int (nI d)] [(h, .inr (2, [.ref q, .int (nI s0.2), .int (nI r0.1), .int (bI r0.2)])), (q, .inl (cc, 2400, .inl (iN s0.1)))] [(cc, .char)] sz none [(h, .inr (2, [.ref q, .int (nI ((ap1 s0 (48 + d)).2)), .int (nI r0.1), .int (bI r0.2)])), (q, .inl (cc, 2400, .inl (iN ((ap1 s0 (48 + d)).1))))] := by
  refine metU (by decide) (Nat.le_of_ble_eq_true rfl) ?_
  intro p e s m below meth c ls A hx hb hr hlocks hml hown ht hl hP hK hSS hD hS hA
  have hl : lv_has ls 2 [(0, .ref h), (1, .int (nI d))] := hl
  refine lv_aload_n hx hb d_Te_addDigit_0 rfl (lv_at hl 0 rfl) ?_
  refine lv_bipush (v := nI 48) hx hb d_Te_addDigit_1 (by decide) ?_
  refine lv_iload_n hx hb d_Te_addDigit_3 rfl (lv_at hl 1 rfl) ?_
  refine nAdd hx hb d_Te_addDigit_4 ?_
  refine lv_i2c (v := nI (48 + d)) hx hb d_Te_addDigit_5 (i2c_n (by omega)) ?_
  refine uV (As := [.int (nI (48 + d))]) (rest := []) (wr := []) hx hb hml hown ht (c_Te_add l dC dI z _ h q cc s0 r0 (48 + d) (by first | assumption | omega) (by first | assumption | omega)) yv_Te_add k_333 (Nat.le_of_ble_eq_true rfl) (Nat.le_of_ble_eq_true rfl) hP hK hSS hD hS hA [0, 1] [] [0] rfl rfl (by decide) rfl (by decide) (by decide) rfl 0 2 rfl rfl rfl hl rfl rfl (Nat.le_of_ble_eq_true rfl) (Nat.zero_le _) (Nat.zero_le _) d_Te_addDigit_6 (fun H locs hP hD hS => ?_)
  have hP : va_P (dC, dI) classes [(h, .inr (2, [.ref q, .int (nI ((ap1 s0 (48 + d)).2)), .int (nI r0.1), .int (bI r0.2)])), (q, .inl (cc, 2400, .inl (iN ((ap1 s0 (48 + d)).1))))] H := hP
  have hD : va_D A [(h, .inr (2, [.ref q, .int (nI ((ap1 s0 (48 + d)).2)), .int (nI r0.1), .int (bI r0.2)])), (q, .inl (cc, 2400, .inl (iN ((ap1 s0 (48 + d)).1))))] := hD
  refine stk (st2 := []) rfl ?_
  exact eUv hx hb hr hlocks hP hD hS [0, 1] rfl rfl (by decide) d_Te_addDigit_9

set_option maxHeartbeats 4000000 in
set_option maxRecDepth 100000 in
theorem c_Te_addNumber (l : Launch) (dC : Nat → ClassId) (dI : Nat → Nat → Nat) (z : zT) (sz : Nat) (h : Nat) (q : Nat) (cc : ClassId) (s0 : txT) (r0 : rdT) (v : Int) (hs : s0.2 + 6 ≤ 2400) (hv1 : -65536 ≤ v) (hv2 : v ≤ 65536) : MU l y_Te_addNumber b_Te_addNumber 4 none 4 85 (dC, dI) z [.ref h, .int (iI v)] [(h, .inr (2, [.ref q, .int (nI s0.2), .int (nI r0.1), .int (bI r0.2)])), (q, .inl (cc, 2400, .inl (iN s0.1)))] [(cc, .char)] sz none [(h, .inr (2, [.ref q, .int (nI ((ap s0 (nuL v)).2)), .int (nI r0.1), .int (bI r0.2)])), (q, .inl (cc, 2400, .inl (iN ((ap s0 (nuL v)).1))))] := by
  refine metU (by decide) (Nat.le_of_ble_eq_true rfl) ?_
  intro p e s m below meth c ls A hx hb hr hlocks hml hown ht hl hP hK hSS hD hS hA
  have hl : lv_has ls 4 [(0, .ref h), (1, .int (iI v))] := hl
  have cut10 : ∀  (s1 : txT) (ls : Array Slot) (H : Heap) (locs : List Loc), (ap s0 (nuL v) = ap s1 (nuF v.natAbs 5)) → (s1.2 ≤ s0.2 + 1) → lv_has ls 4 [(0, .ref h), (1, .int (iI v))] → va_P (dC, dI) classes [(h, .inr (2, [.ref q, .int (nI s1.2), .int (nI r0.1), .int (bI r0.2)])), (q, .inl (cc, 2400, .inl (iN s1.1)))] H → va_D A [(h, .inr (2, [.ref q, .int (nI s1.2), .int (nI r0.1), .int (bI r0.2)])), (q, .inl (cc, 2400, .inl (iN s1.1)))] → va_S A s.heap H locs → W p l e (rmq 4 85) s m [.ref h, .int (iI v)].toArray below meth c H locs 0 0 (MQ below (qcU none (dC, dI) [(h, .inr (2, [.ref q, .int (nI ((ap s0 (nuL v)).2)), .int (nI r0.1), .int (bI r0.2)])), (q, .inl (cc, 2400, .inl (iN ((ap s0 (nuL v)).1))))] A) [.ref h, .int (iI v)].toArray s 0 0 A) (F0 m 10 ls []) := by
    intro s1 ls H locs hR1 hl1 hl hP hD hS
    refine lv_iload_n hx hb d_Te_addNumber_10 rfl (lv_at hl 1 rfl) ?_
    refine va_mabs hx hb (by rw [hml]; exact hl.1.symm) hown (ht _ k_358) (ht _ k_359) (ht _ k_8) (ht _ k_360) (Nat.le_of_ble_eq_true rfl) (Nat.le_of_ble_eq_true rfl) (Nat.zero_le _) (Nat.zero_le _) d_Te_addNumber_11 ?_
    refine eqi (y := nI v.natAbs) (abs_n hv1 hv2) ?_
    refine lv_istore_n (lv' := [(2, .int (nI v.natAbs)), (0, .ref h), (1, .int (iI v))]) hx hb d_Te_addNumber_14 rfl hl (Nat.le_of_ble_eq_true rfl) rfl (fun ls hl => ?_)
    refine lv_sipush (v := nI 10000) hx hb d_Te_addNumber_15 (by decide) ?_
    refine lv_istore_n (lv' := [(3, .int (nI 10000)), (2, .int (nI v.natAbs)), (0, .ref h), (1, .int (iI v))]) hx hb d_Te_addNumber_18 rfl hl (Nat.le_of_ble_eq_true rfl) rfl (fun ls hl => ?_)
    have loop19 : ∀ (j : Nat) (s2 : txT) (ls : Array Slot) (H : Heap) (locs : List Loc), (ap s0 (nuL v) = ap s2 (nuF v.natAbs j)) → (j ≤ 5) → (s2.2 + j ≤ s0.2 + 6) → lv_has ls 4 [(3, .int (nI (10 ^ j / 10))), (2, .int (nI v.natAbs)), (0, .ref h), (1, .int (iI v))] → va_P (dC, dI) classes [(h, .inr (2, [.ref q, .int (nI s2.2), .int (nI r0.1), .int (bI r0.2)])), (q, .inl (cc, 2400, .inl (iN s2.1)))] H → va_D A [(h, .inr (2, [.ref q, .int (nI s2.2), .int (nI r0.1), .int (bI r0.2)])), (q, .inl (cc, 2400, .inl (iN s2.1)))] → va_S A s.heap H locs → W p l e (rmq 4 85) s m [.ref h, .int (iI v)].toArray below meth c H locs 0 0 (MQ below (qcU none (dC, dI) [(h, .inr (2, [.ref q, .int (nI ((ap s0 (nuL v)).2)), .int (nI r0.1), .int (bI r0.2)])), (q, .inl (cc, 2400, .inl (iN ((ap s0 (nuL v)).1))))] A) [.ref h, .int (iI v)].toArray s 0 0 A) (F0 m 19 ls []) := by
      intro j
      induction j with
      | zero =>
        intro s2 ls H locs hR2 hj hl2 hl hP hD hS
        refine lv_iload_n hx hb d_Te_addNumber_19 rfl (lv_at hl 0 rfl) ?_
        refine z_if_le (tgt := 51) hx hb d_Te_addNumber_20 (tI_n (by omega)) (by decide) (fun g20 => ?_) (fun g20 => ?_)
        · rw [hR2]
          exact eUv hx hb hr hlocks hP hD hS [0, 1] rfl rfl (by decide) d_Te_addNumber_51
        · exfalso; omega
      | succ j ih =>
        intro s2 ls H locs hR2 hj hl2 hl hP hD hS
        rw [ten_div] at hl
        obtain ⟨ht1, ht2⟩ := ten_pow (show j ≤ 4 by omega)
        have hdv := Nat.div_le_self v.natAbs (10 ^ j)
        refine lv_iload_n hx hb d_Te_addNumber_19 rfl (lv_at hl 0 rfl) ?_
        refine z_if_le (tgt := 51) hx hb d_Te_addNumber_20 (tI_n (by omega)) (by decide) (fun g20 => ?_) (fun g20 => ?_)
        · exfalso; omega
        · refine lv_iload_n hx hb d_Te_addNumber_23 rfl (lv_at hl 1 rfl) ?_
          refine lv_iload_n hx hb d_Te_addNumber_24 rfl (lv_at hl 0 rfl) ?_
          refine z_icmp_ge (tgt := 33) hx hb d_Te_addNumber_25 (tI_n (by omega)) (tI_n (by omega)) (by decide) (fun g25 => ?_) (fun g25 => ?_)
          · refine lv_aload_n hx hb d_Te_addNumber_33 rfl (lv_at hl 2 rfl) ?_
            refine lv_iload_n hx hb d_Te_addNumber_34 rfl (lv_at hl 1 rfl) ?_
            refine lv_iload_n hx hb d_Te_addNumber_35 rfl (lv_at hl 0 rfl) ?_
            refine nDiv hx hb d_Te_addNumber_36 (by omega) (by omega) (by omega) ?_
            refine lv_bipush (v := nI 10) hx hb d_Te_addNumber_37 (by decide) ?_
            refine nRem hx hb d_Te_addNumber_39 (by omega) (by omega) (by omega) ?_
            refine uV (As := [.int (nI ((v.natAbs / (10 ^ j)) % 10))]) (rest := []) (wr := []) hx hb hml hown ht (c_Te_addDigit l dC dI z _ h q cc s2 r0 ((v.natAbs / (10 ^ j)) % 10) (by first | assumption | omega) (by first | assumption | omega)) yv_Te_addDigit k_349 (Nat.le_of_ble_eq_true rfl) (Nat.le_of_ble_eq_true rfl) hP hK hSS hD hS hA [0, 1] [] [0] rfl rfl (by decide) rfl (by decide) (by decide) rfl 0 2 rfl rfl rfl hl rfl rfl (Nat.le_of_ble_eq_true rfl) (Nat.zero_le _) (Nat.zero_le _) d_Te_addNumber_40 (fun H locs hP hD hS => ?_)
            have hP : va_P (dC, dI) classes [(h, .inr (2, [.ref q, .int (nI ((ap1 s2 (48 + ((v.natAbs / (10 ^ j)) % 10))).2)), .int (nI r0.1), .int (bI r0.2)])), (q, .inl (cc, 2400, .inl (iN ((ap1 s2 (48 + ((v.natAbs / (10 ^ j)) % 10))).1))))] H := hP
            have hD : va_D A [(h, .inr (2, [.ref q, .int (nI ((ap1 s2 (48 + ((v.natAbs / (10 ^ j)) % 10))).2)), .int (nI r0.1), .int (bI r0.2)])), (q, .inl (cc, 2400, .inl (iN ((ap1 s2 (48 + ((v.natAbs / (10 ^ j)) % 10))).1))))] := hD
            refine stk (st2 := []) rfl ?_
            refine lv_iload_n hx hb d_Te_addNumber_43 rfl (lv_at hl 0 rfl) ?_
            refine lv_bipush (v := nI 10) hx hb d_Te_addNumber_44 (by decide) ?_
            refine nDiv hx hb d_Te_addNumber_46 (by omega) (by omega) (by omega) ?_
            refine lv_istore_n (lv' := [(3, .int (nI ((10 ^ j) / 10))), (2, .int (nI v.natAbs)), (0, .ref h), (1, .int (iI v))]) hx hb d_Te_addNumber_47 rfl hl (Nat.le_of_ble_eq_true rfl) rfl (fun ls hl => ?_)
            refine lv_goto (tgt := 19) hx hb d_Te_addNumber_48 (by decide) ?_
            exact ih (ap1 s2 (48 + v.natAbs / 10 ^ j % 10)) _ _ _ (by rw [hR2, nuF, ap_dg_y (by omega)]) (by omega) (by show s2.2 + 1 + j ≤ _; omega) (lv_sub hl [0, 1, 2, 3] rfl) (hP.sub [0, 1] rfl) (hD.sub [0, 1] (by decide) rfl) hS
          · refine lv_iload_n hx hb d_Te_addNumber_28 rfl (lv_at hl 0 rfl) ?_
            refine lv_iconst (v := nI 1) hx hb d_Te_addNumber_29 (by decide) ?_
            refine z_icmp_ne (tgt := 43) hx hb d_Te_addNumber_30 (tI_n (by omega)) (tI_n (by omega)) (by decide) (fun g30 => ?_) (fun g30 => ?_)
            · refine lv_iload_n hx hb d_Te_addNumber_43 rfl (lv_at hl 0 rfl) ?_
              refine lv_bipush (v := nI 10) hx hb d_Te_addNumber_44 (by decide) ?_
              refine nDiv hx hb d_Te_addNumber_46 (by omega) (by omega) (by omega) ?_
              refine lv_istore_n (lv' := [(3, .int (nI ((10 ^ j) / 10))), (2, .int (nI v.natAbs)), (0, .ref h), (1, .int (iI v))]) hx hb d_Te_addNumber_47 rfl hl (Nat.le_of_ble_eq_true rfl) rfl (fun ls hl => ?_)
              refine lv_goto (tgt := 19) hx hb d_Te_addNumber_48 (by decide) ?_
              exact ih s2 _ _ _ (by rw [hR2, nuF, ap_dg_n (by omega)]) (by omega) (by omega) (lv_sub hl [0, 1, 2, 3] rfl) (hP.sub [0, 1] rfl) (hD.sub [0, 1] (by decide) rfl) hS
            · refine lv_aload_n hx hb d_Te_addNumber_33 rfl (lv_at hl 2 rfl) ?_
              refine lv_iload_n hx hb d_Te_addNumber_34 rfl (lv_at hl 1 rfl) ?_
              refine lv_iload_n hx hb d_Te_addNumber_35 rfl (lv_at hl 0 rfl) ?_
              refine nDiv hx hb d_Te_addNumber_36 (by omega) (by omega) (by omega) ?_
              refine lv_bipush (v := nI 10) hx hb d_Te_addNumber_37 (by decide) ?_
              refine nRem hx hb d_Te_addNumber_39 (by omega) (by omega) (by omega) ?_
              refine uV (As := [.int (nI ((v.natAbs / (10 ^ j)) % 10))]) (rest := []) (wr := []) hx hb hml hown ht (c_Te_addDigit l dC dI z _ h q cc s2 r0 ((v.natAbs / (10 ^ j)) % 10) (by first | assumption | omega) (by first | assumption | omega)) yv_Te_addDigit k_349 (Nat.le_of_ble_eq_true rfl) (Nat.le_of_ble_eq_true rfl) hP hK hSS hD hS hA [0, 1] [] [0] rfl rfl (by decide) rfl (by decide) (by decide) rfl 0 2 rfl rfl rfl hl rfl rfl (Nat.le_of_ble_eq_true rfl) (Nat.zero_le _) (Nat.zero_le _) d_Te_addNumber_40 (fun H locs hP hD hS => ?_)
              have hP : va_P (dC, dI) classes [(h, .inr (2, [.ref q, .int (nI ((ap1 s2 (48 + ((v.natAbs / (10 ^ j)) % 10))).2)), .int (nI r0.1), .int (bI r0.2)])), (q, .inl (cc, 2400, .inl (iN ((ap1 s2 (48 + ((v.natAbs / (10 ^ j)) % 10))).1))))] H := hP
              have hD : va_D A [(h, .inr (2, [.ref q, .int (nI ((ap1 s2 (48 + ((v.natAbs / (10 ^ j)) % 10))).2)), .int (nI r0.1), .int (bI r0.2)])), (q, .inl (cc, 2400, .inl (iN ((ap1 s2 (48 + ((v.natAbs / (10 ^ j)) % 10))).1))))] := hD
              refine stk (st2 := []) rfl ?_
              refine lv_iload_n hx hb d_Te_addNumber_43 rfl (lv_at hl 0 rfl) ?_
              refine lv_bipush (v := nI 10) hx hb d_Te_addNumber_44 (by decide) ?_
              refine nDiv hx hb d_Te_addNumber_46 (by omega) (by omega) (by omega) ?_
              refine lv_istore_n (lv' := [(3, .int (nI ((10 ^ j) / 10))), (2, .int (nI v.natAbs)), (0, .ref h), (1, .int (iI v))]) hx hb d_Te_addNumber_47 rfl hl (Nat.le_of_ble_eq_true rfl) rfl (fun ls hl => ?_)
              refine lv_goto (tgt := 19) hx hb d_Te_addNumber_48 (by decide) ?_
              exact ih (ap1 s2 (48 + v.natAbs / 10 ^ j % 10)) _ _ _ (by rw [hR2, nuF, ap_dg_y (by omega)]) (by omega) (by show s2.2 + 1 + j ≤ _; omega) (lv_sub hl [0, 1, 2, 3] rfl) (hP.sub [0, 1] rfl) (hD.sub [0, 1] (by decide) rfl) hS
    exact loop19 5 s1 _ _ _ (hR1) (Nat.le_refl _) (by omega) (lv_sub hl [0, 1, 2, 3] rfl) (hP.sub [0, 1] rfl) (hD.sub [0, 1] (by decide) rfl) hS
  refine lv_iload_n hx hb d_Te_addNumber_0 rfl (lv_at hl 1 rfl) ?_
  refine z_if_ge (tgt := 10) hx hb d_Te_addNumber_1 (iI_toInt (by omega) (by omega)) (by decide) (fun g1 => ?_) (fun g1 => ?_)
  · exact cut10 s0 _ _ _ (by rw [nuL, if_neg (by omega)]; rfl) (Nat.le_succ _) (lv_sub hl [0, 1] rfl) (hP.sub [0, 1] rfl) (hD.sub [0, 1] (by decide) rfl) hS
  · refine lv_aload_n hx hb d_Te_addNumber_4 rfl (lv_at hl 0 rfl) ?_
    refine lv_bipush (v := nI 45) hx hb d_Te_addNumber_5 (by decide) ?_
    refine uV (As := [.int (nI 45)]) (rest := []) (wr := []) hx hb hml hown ht (c_Te_add l dC dI z _ h q cc s0 r0 45 (by first | assumption | omega) (by first | assumption | omega)) yv_Te_add k_333 (Nat.le_of_ble_eq_true rfl) (Nat.le_of_ble_eq_true rfl) hP hK hSS hD hS hA [0, 1] [] [0] rfl rfl (by decide) rfl (by decide) (by decide) rfl 0 2 rfl rfl rfl hl rfl rfl (Nat.le_of_ble_eq_true rfl) (Nat.zero_le _) (Nat.zero_le _) d_Te_addNumber_7 (fun H locs hP hD hS => ?_)
    have hP : va_P (dC, dI) classes [(h, .inr (2, [.ref q, .int (nI ((ap1 s0 45).2)), .int (nI r0.1), .int (bI r0.2)])), (q, .inl (cc, 2400, .inl (iN ((ap1 s0 45).1))))] H := hP
    have hD : va_D A [(h, .inr (2, [.ref q, .int (nI ((ap1 s0 45).2)), .int (nI r0.1), .int (bI r0.2)])), (q, .inl (cc, 2400, .inl (iN ((ap1 s0 45).1))))] := hD
    refine stk (st2 := []) rfl ?_
    exact cut10 (ap1 s0 45) _ _ _ (by rw [nuL, if_pos (by omega)]; rfl) (Nat.le_refl _) (lv_sub hl [0, 1] rfl) (hP.sub [0, 1] rfl) (hD.sub [0, 1] (by decide) rfl) hS
