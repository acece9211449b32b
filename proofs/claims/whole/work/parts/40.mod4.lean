set_option maxHeartbeats 4000000 in
set_option maxRecDepth 100000 in
theorem c_Mo_print (l : Launch) (dC : Nat → ClassId) (dI : Nat → Nat → Nat) (z : zT) (sz : Nat) (o : Nat) (gi : Nat) (ge : Nat) (gt : Nat) (go : Nat) (gb : Nat) (gm : Nat) (gl : Nat) (i0 : txT) (e0 : txT) (t0 : txT) (mk : Nat) (L0 : txT) (cl : ClassId) (f : Nat) (v : Int) (hf : f < 120) (hv1 : -65536 ≤ v) (hv2 : v ≤ 65536) : MU l y_Mo_print b_Mo_print 3 none 3 66 (dC, dI) z [.ref o, .int (nI f), .int (iI v)] [(o, .inr (5, [.ref gi, .ref ge, .ref gt, .ref go, .ref gb, .ref gm, .ref gl, .int (nI i0.2), .int (nI e0.2), .int (nI t0.2), .int (nI mk), .int (nI L0.2)])), (gl, .inl (cl, 32, .inl (iN L0.1)))] [(cl, .int)] sz none [(o, .inr (5, [.ref gi, .ref ge, .ref gt, .ref go, .ref gb, .ref gm, .ref gl, .int (nI i0.2), .int (nI e0.2), .int (nI t0.2), .int (nI mk), .int (nI ((ap (dr L0) (prL f v)).2))])), (gl, .inl (cl, 32, .inl (iN ((ap (dr L0) (prL f v)).1))))] := by
  have hfl := fr_len hf
  have hlg := lgO_le f
  refine metU (by decide) (Nat.le_of_ble_eq_true rfl) ?_
  intro p e s m below meth c ls A hx hb hr hlocks hml hown ht hl hP hK hSS hD hS hA
  have hl : lv_has ls 3 [(0, .ref o), (1, .int (nI f)), (2, .int (iI v))] := hl
  refine lv_aload_n hx hb d_Mo_print_0 rfl (lv_at hl 0 rfl) ?_
  refine lv_iload_n hx hb d_Mo_print_1 rfl (lv_at hl 1 rfl) ?_
  refine uV (As := [.int (nI f)]) (rest := []) (wr := []) hx hb hml hown ht (c_Mo_front l dC dI z _ o gi ge gt go gb gm gl i0 e0 t0 mk L0 cl f (by first | assumption | omega)) yv_Mo_front k_621 (Nat.le_of_ble_eq_true rfl) (Nat.le_of_ble_eq_true rfl) hP hK hSS hD hS hA [0, 1] [] [0] rfl rfl (by decide) rfl (by decide) (by decide) rfl 0 5 rfl rfl rfl hl rfl rfl (Nat.le_of_ble_eq_true rfl) (Nat.zero_le _) (Nat.zero_le _) d_Mo_print_2 (fun H locs hP hD hS => ?_)
  have hP : va_P (dC, dI) classes [(o, .inr (5, [.ref gi, .ref ge, .ref gt, .ref go, .ref gb, .ref gm, .ref gl, .int (nI i0.2), .int (nI e0.2), .int (nI t0.2), .int (nI mk), .int (nI ((ap (dr L0) (frL f)).2))])), (gl, .inl (cl, 32, .inl (iN ((ap (dr L0) (frL f)).1))))] H := hP
  have hD : va_D A [(o, .inr (5, [.ref gi, .ref ge, .ref gt, .ref go, .ref gb, .ref gm, .ref gl, .int (nI i0.2), .int (nI e0.2), .int (nI t0.2), .int (nI mk), .int (nI ((ap (dr L0) (frL f)).2))])), (gl, .inl (cl, 32, .inl (iN ((ap (dr L0) (frL f)).1))))] := hD
  refine stk (st2 := []) rfl ?_
  refine lv_iload_n hx hb d_Mo_print_5 rfl (lv_at hl 1 rfl) ?_
  refine rS (As := [.int (nI f)]) (rest := []) hx hb hml hown ht (c_Mo_longOf l dC dI z f (by first | assumption | omega)) ys_Mo_longOf k_560 (Nat.le_of_ble_eq_true rfl) (Nat.le_of_ble_eq_true rfl) hP hK hSS hS [] [] rfl rfl hl rfl rfl (Nat.le_of_ble_eq_true rfl) (Nat.zero_le _) (Nat.zero_le _) d_Mo_print_6 ?_
  refine lv_iconst (v := nI 1) hx hb d_Mo_print_9 (by decide) ?_
  refine z_icmp_le (tgt := 18) hx hb d_Mo_print_10 (tI_n (by omega)) (tI_n (by omega)) (by decide) (fun g10 => ?_) (fun g10 => ?_)
  · rw [prL, if_neg (by omega), List.append_nil]
    exact eUv hx hb hr hlocks hP hD hS [0, 1] rfl rfl (by decide) d_Mo_print_18
  · refine lv_aload_n hx hb d_Mo_print_13 rfl (lv_at hl 0 rfl) ?_
    refine lv_iload_n hx hb d_Mo_print_14 rfl (lv_at hl 2 rfl) ?_
    refine uV (As := [.int (iI v)]) (rest := []) (wr := []) hx hb hml hown ht (c_Mo_number l dC dI z _ o gi ge gt go gb gm gl i0 e0 t0 mk (ap (dr L0) (frL f)) cl v (by rw [ap_dr_len]; omega) (by first | assumption | omega) (by first | assumption | omega)) yv_Mo_number k_613 (Nat.le_of_ble_eq_true rfl) (Nat.le_of_ble_eq_true rfl) hP hK hSS hD hS hA [0, 1] [] [0] rfl rfl (by decide) rfl (by decide) (by decide) rfl 0 5 rfl rfl rfl hl rfl rfl (Nat.le_of_ble_eq_true rfl) (Nat.zero_le _) (Nat.zero_le _) d_Mo_print_15 (fun H locs hP hD hS => ?_)
    have hP : va_P (dC, dI) classes [(o, .inr (5, [.ref gi, .ref ge, .ref gt, .ref go, .ref gb, .ref gm, .ref gl, .int (nI i0.2), .int (nI e0.2), .int (nI t0.2), .int (nI mk), .int (nI ((ap (ap (dr L0) (frL f)) (mnu v)).2))])), (gl, .inl (cl, 32, .inl (iN ((ap (ap (dr L0) (frL f)) (mnu v)).1))))] H := hP
    have hD : va_D A [(o, .inr (5, [.ref gi, .ref ge, .ref gt, .ref go, .ref gb, .ref gm, .ref gl, .int (nI i0.2), .int (nI e0.2), .int (nI t0.2), .int (nI mk), .int (nI ((ap (ap (dr L0) (frL f)) (mnu v)).2))])), (gl, .inl (cl, 32, .inl (iN ((ap (ap (dr L0) (frL f)) (mnu v)).1))))] := hD
    refine stk (st2 := []) rfl ?_
    rw [prL, if_pos (by omega), ap_app]
    exact eUv hx hb hr hlocks hP hD hS [0, 1] rfl rfl (by decide) d_Mo_print_18

set_option maxHeartbeats 4000000 in
set_option maxRecDepth 100000 in
theorem c_Mo_data (l : Launch) (dC : Nat → ClassId) (dI : Nat → Nat → Nat) (z : zT) (sz : Nat) (o : Nat) (gi : Nat) (ge : Nat) (gt : Nat) (go : Nat) (gb : Nat) (gm : Nat) (gl : Nat) (i0 : txT) (e0 : txT) (t0 : txT) (mk : Nat) (L0 : txT) (cl : ClassId) (u : Nat) (hu : u < 256) : MU l y_Mo_data b_Mo_data 2 none 2 44 (dC, dI) z [.ref o, .int (nI u)] [(o, .inr (5, [.ref gi, .ref ge, .ref gt, .ref go, .ref gb, .ref gm, .ref gl, .int (nI i0.2), .int (nI e0.2), .int (nI t0.2), .int (nI mk), .int (nI L0.2)])), (gl, .inl (cl, 32, .inl (iN L0.1)))] [(cl, .int)] sz none [(o, .inr (5, [.ref gi, .ref ge, .ref gt, .ref go, .ref gb, .ref gm, .ref gl, .int (nI i0.2), .int (nI e0.2), .int (nI t0.2), .int (nI mk), .int (nI ((ap (dr L0) (daL u)).2))])), (gl, .inl (cl, 32, .inl (iN ((ap (dr L0) (daL u)).1))))] := by
  refine metU (by decide) (Nat.le_of_ble_eq_true rfl) ?_
  intro p e s m below meth c ls A hx hb hr hlocks hml hown ht hl hP hK hSS hD hS hA
  have hl : lv_has ls 2 [(0, .ref o), (1, .int (nI u))] := hl
  refine lv_aload_n hx hb d_Mo_data_0 rfl (lv_at hl 0 rfl) ?_
  refine lv_iconst (v := nI 0) hx hb d_Mo_data_1 (by decide) ?_
  refine va_put (D := (dC, dI)) (ci := 5) (v := .int (nI 0)) (ty := .int) (C := R_Mo) (T := F_Mo) (N := 12) hx hb ht in_Mo t_Mo t_Mo_ok n_Mo hown hK hP hD hS 0 rfl rfl 11 (by decide) (ht _ k_502) (fun _ h9 => h9) rfl (by decide +kernel) rfl rfl (Nat.le_of_ble_eq_true rfl) d_Mo_data_2 (fun H locs hP hD hS => ?_)
  have hP : va_P (dC, dI) classes [(o, .inr (5, [.ref gi, .ref ge, .ref gt, .ref go, .ref gb, .ref gm, .ref gl, .int (nI i0.2), .int (nI e0.2), .int (nI t0.2), .int (nI mk), .int (nI 0)])), (gl, .inl (cl, 32, .inl (iN L0.1)))] H := hP
  have hD : va_D A [(o, .inr (5, [.ref gi, .ref ge, .ref gt, .ref go, .ref gb, .ref gm, .ref gl, .int (nI i0.2), .int (nI e0.2), .int (nI t0.2), .int (nI mk), .int (nI 0)])), (gl, .inl (cl, 32, .inl (iN L0.1)))] := hD
  have hP : va_P (dC, dI) classes [(o, .inr (5, [.ref gi, .ref ge, .ref gt, .ref go, .ref gb, .ref gm, .ref gl, .int (nI i0.2), .int (nI e0.2), .int (nI t0.2), .int (nI mk), .int (nI ((dr L0).2))])), (gl, .inl (cl, 32, .inl (iN ((dr L0).1))))] H := hP
  have hD : va_D A [(o, .inr (5, [.ref gi, .ref ge, .ref gt, .ref go, .ref gb, .ref gm, .ref gl, .int (nI i0.2), .int (nI e0.2), .int (nI t0.2), .int (nI mk), .int (nI ((dr L0).2))])), (gl, .inl (cl, 32, .inl (iN ((dr L0).1))))] := hD
  refine lv_aload_n hx hb d_Mo_data_5 rfl (lv_at hl 0 rfl) ?_
  refine lv_bipush (v := nI 46) hx hb d_Mo_data_6 (by decide) ?_
  refine lv_bipush (v := nI 98) hx hb d_Mo_data_8 (by decide) ?_
  refine lv_bipush (v := nI 121) hx hb d_Mo_data_10 (by decide) ?_
  refine uV (As := [.int (nI 46), .int (nI 98), .int (nI 121)]) (rest := []) (wr := []) hx hb hml hown ht (c_Mo_name l dC dI z _ o gi ge gt go gb gm gl i0 e0 t0 mk (dr L0) cl 46 98 121 (Nat.le_of_ble_eq_true rfl) (by first | assumption | omega)) yv_Mo_name k_605 (Nat.le_of_ble_eq_true rfl) (Nat.le_of_ble_eq_true rfl) hP hK hSS hD hS hA [0, 1] [] [0] rfl rfl (by decide) rfl (by decide) (by decide) rfl 0 5 rfl rfl rfl hl rfl rfl (Nat.le_of_ble_eq_true rfl) (Nat.zero_le _) (Nat.zero_le _) d_Mo_data_12 (fun H locs hP hD hS => ?_)
  have hP : va_P (dC, dI) classes [(o, .inr (5, [.ref gi, .ref ge, .ref gt, .ref go, .ref gb, .ref gm, .ref gl, .int (nI i0.2), .int (nI e0.2), .int (nI t0.2), .int (nI mk), .int (nI ((ap (dr L0) (nmL 46 98 121)).2))])), (gl, .inl (cl, 32, .inl (iN ((ap (dr L0) (nmL 46 98 121)).1))))] H := hP
  have hD : va_D A [(o, .inr (5, [.ref gi, .ref ge, .ref gt, .ref go, .ref gb, .ref gm, .ref gl, .int (nI i0.2), .int (nI e0.2), .int (nI t0.2), .int (nI mk), .int (nI ((ap (dr L0) (nmL 46 98 121)).2))])), (gl, .inl (cl, 32, .inl (iN ((ap (dr L0) (nmL 46 98 121)).1))))] := hD
  refine stk (st2 := []) rfl ?_
  refine lv_aload_n hx hb d_Mo_data_15 rfl (lv_at hl 0 rfl) ?_
  refine lv_bipush (v := nI 116) hx hb d_Mo_data_16 (by decide) ?_
  refine lv_bipush (v := nI 101) hx hb d_Mo_data_18 (by decide) ?_
  refine lv_bipush (v := nI 32) hx hb d_Mo_data_20 (by decide) ?_
  refine uV (As := [.int (nI 116), .int (nI 101), .int (nI 32)]) (rest := []) (wr := []) hx hb hml hown ht (c_Mo_name l dC dI z _ o gi ge gt go gb gm gl i0 e0 t0 mk (ap (dr L0) (nmL 46 98 121)) cl 116 101 32 (Nat.le_of_ble_eq_true rfl) (by first | assumption | omega)) yv_Mo_name k_605 (Nat.le_of_ble_eq_true rfl) (Nat.le_of_ble_eq_true rfl) hP hK hSS hD hS hA [0, 1] [] [0] rfl rfl (by decide) rfl (by decide) (by decide) rfl 0 5 rfl rfl rfl hl rfl rfl (Nat.le_of_ble_eq_true rfl) (Nat.zero_le _) (Nat.zero_le _) d_Mo_data_22 (fun H locs hP hD hS => ?_)
  have hP : va_P (dC, dI) classes [(o, .inr (5, [.ref gi, .ref ge, .ref gt, .ref go, .ref gb, .ref gm, .ref gl, .int (nI i0.2), .int (nI e0.2), .int (nI t0.2), .int (nI mk), .int (nI ((ap (ap (dr L0) (nmL 46 98 121)) (nmL 116 101 32)).2))])), (gl, .inl (cl, 32, .inl (iN ((ap (ap (dr L0) (nmL 46 98 121)) (nmL 116 101 32)).1))))] H := hP
  have hD : va_D A [(o, .inr (5, [.ref gi, .ref ge, .ref gt, .ref go, .ref gb, .ref gm, .ref gl, .int (nI i0.2), .int (nI e0.2), .int (nI t0.2), .int (nI mk), .int (nI ((ap (ap (dr L0) (nmL 46 98 121)) (nmL 116 101 32)).2))])), (gl, .inl (cl, 32, .inl (iN ((ap (ap (dr L0) (nmL 46 98 121)) (nmL 116 101 32)).1))))] := hD
  refine stk (st2 := []) rfl ?_
  refine lv_aload_n hx hb d_Mo_data_25 rfl (lv_at hl 0 rfl) ?_
  refine lv_iload_n hx hb d_Mo_data_26 rfl (lv_at hl 1 rfl) ?_
  refine eqi (y := iI ((u : Nat) : Int)) ((nI_iI _)) ?_
  refine uV (As := [.int (iI ((u : Nat) : Int))]) (rest := []) (wr := []) hx hb hml hown ht (c_Mo_number l dC dI z _ o gi ge gt go gb gm gl i0 e0 t0 mk (ap (ap (dr L0) (nmL 46 98 121)) (nmL 116 101 32)) cl ((u : Nat) : Int) (Nat.le_of_ble_eq_true rfl) (by first | assumption | omega) (by first | assumption | omega)) yv_Mo_number k_613 (Nat.le_of_ble_eq_true rfl) (Nat.le_of_ble_eq_true rfl) hP hK hSS hD hS hA [0, 1] [] [0] rfl rfl (by decide) rfl (by decide) (by decide) rfl 0 5 rfl rfl rfl hl rfl rfl (Nat.le_of_ble_eq_true rfl) (Nat.zero_le _) (Nat.zero_le _) d_Mo_data_27 (fun H locs hP hD hS => ?_)
  have hP : va_P (dC, dI) classes [(o, .inr (5, [.ref gi, .ref ge, .ref gt, .ref go, .ref gb, .ref gm, .ref gl, .int (nI i0.2), .int (nI e0.2), .int (nI t0.2), .int (nI mk), .int (nI ((ap (ap (ap (dr L0) (nmL 46 98 121)) (nmL 116 101 32)) (mnu ((u : Nat) : Int))).2))])), (gl, .inl (cl, 32, .inl (iN ((ap (ap (ap (dr L0) (nmL 46 98 121)) (nmL 116 101 32)) (mnu ((u : Nat) : Int))).1))))] H := hP
  have hD : va_D A [(o, .inr (5, [.ref gi, .ref ge, .ref gt, .ref go, .ref gb, .ref gm, .ref gl, .int (nI i0.2), .int (nI e0.2), .int (nI t0.2), .int (nI mk), .int (nI ((ap (ap (ap (dr L0) (nmL 46 98 121)) (nmL 116 101 32)) (mnu ((u : Nat) : Int))).2))])), (gl, .inl (cl, 32, .inl (iN ((ap (ap (ap (dr L0) (nmL 46 98 121)) (nmL 116 101 32)) (mnu ((u : Nat) : Int))).1))))] := hD
  refine stk (st2 := []) rfl ?_
  rw [daL, ap_app]
  exact eUv hx hb hr hlocks hP hD hS [0, 1] rfl rfl (by decide) d_Mo_data_30

set_option maxHeartbeats 4000000 in
set_option maxRecDepth 100000 in
theorem c_Mo_begins (l : Launch) (dC : Nat → ClassId) (dI : Nat → Nat → Nat) (z : zT) (o : Nat) (gi : Nat) (ge : Nat) (gt : Nat) (go : Nat) (gb : Nat) (gm : Nat) (gl : Nat) (i0 : txT) (e0 : txT) (t0 : txT) (mk : Nat) (L0 : txT) (ct : ClassId) (cl : ClassId) (k : Nat) (hs : t0.2 ≤ 2400) (ht8 : ∀ i, t0.1 i < 256) (hL : L0.2 ≤ 32) (hLc : ∀ i, i < L0.2 → L0.1 i < 256) (hk : k ≤ 2400) : MR l y_Mo_begins b_Mo_begins 3 (some .boolean) 0 0 (dC, dI) z [.ref o, .int (nI k)] [(o, .inr (5, [.ref gi, .ref ge, .ref gt, .ref go, .ref gb, .ref gm, .ref gl, .int (nI i0.2), .int (nI e0.2), .int (nI t0.2), .int (nI mk), .int (nI L0.2)])), (gt, .inl (ct, 2400, .inl (iN t0.1))), (gl, .inl (cl, 32, .inl (iN L0.1)))] [(ct, .int), (cl, .int)] (.int (bI (mBg t0 L0 k))) := by
  refine metR (by decide) (Nat.le_of_ble_eq_true rfl) ?_
  intro p e s m below meth c ls hx hb hr hlocks hml hown ht hl hP hK hSS
  have hl : lv_has ls 3 [(0, .ref o), (1, .int (nI k))] := hl
  have hS : va_S (fun _ => False) s.heap s.heap [] := va_S.rf
  refine lv_iconst (v := nI 0) hx hb d_Mo_begins_0 (by decide) ?_
  refine lv_istore_n (lv' := [(2, .int (nI 0)), (0, .ref o), (1, .int (nI k))]) hx hb d_Mo_begins_1 rfl hl (Nat.le_of_ble_eq_true rfl) rfl (fun ls hl => ?_)
  have loop2 : ∀ (j : Nat) (i : Nat) (ls : Array Slot), (i + j = L0.2) → (mBg t0 L0 k = mBF t0.1 t0.2 L0.1 k j i) → lv_has ls 3 [(2, .int (nI i)), (0, .ref o), (1, .int (nI k))] → W p l e (rmq 0 0) s m [.ref o, .int (nI k)].toArray below meth c s.heap [] 0 0 (MQ below (k2_QcV (.int (bI (mBg t0 L0 k)))) [.ref o, .int (nI k)].toArray s 0 0 (fun _ => False)) (F0 m 2 ls []) := by
    intro j
    induction j with
    | zero =>
      intro i ls hi hR hl
      refine lv_iload_n hx hb d_Mo_begins_2 rfl (lv_at hl 0 rfl) ?_
      refine lv_aload_n hx hb d_Mo_begins_3 rfl (lv_at hl 1 rfl) ?_
      refine va_get (D := (dC, dI)) (ci := 5) (v := .int (nI L0.2)) (C := R_Mo) (T := F_Mo) (N := 12) hx hb ht in_Mo hown hK hP 0 rfl rfl 11 (by decide) (ht _ k_502) (fun _ h9 => h9) rfl d_Mo_begins_4 ?_
      refine z_icmp_ge (tgt := 45) hx hb d_Mo_begins_7 (tI_n (by omega)) (tI_n (by omega)) (by decide) (fun g7 => ?_) (fun g7 => ?_)
      · refine lv_iconst (v := nI 1) hx hb d_Mo_begins_45 (by decide) ?_
        refine eqi (y := bI true) (by decide) ?_
        exact eRz hx hb hr hlocks (bI_narrow _) d_Mo_begins_46 (by rw [hR]; rfl)
      · exfalso; omega
    | succ j ih =>
      intro i ls hi hR hl
      have hc1 := ht8 (k + i)
      have hc2 := hLc i (by omega)
      refine lv_iload_n hx hb d_Mo_begins_2 rfl (lv_at hl 0 rfl) ?_
      refine lv_aload_n hx hb d_Mo_begins_3 rfl (lv_at hl 1 rfl) ?_
      refine va_get (D := (dC, dI)) (ci := 5) (v := .int (nI L0.2)) (C := R_Mo) (T := F_Mo) (N := 12) hx hb ht in_Mo hown hK hP 0 rfl rfl 11 (by decide) (ht _ k_502) (fun _ h9 => h9) rfl d_Mo_begins_4 ?_
      refine z_icmp_ge (tgt := 45) hx hb d_Mo_begins_7 (tI_n (by omega)) (tI_n (by omega)) (by decide) (fun g7 => ?_) (fun g7 => ?_)
      · exfalso; omega
      · refine lv_iload_n hx hb d_Mo_begins_10 rfl (lv_at hl 2 rfl) ?_
        refine lv_iload_n hx hb d_Mo_begins_11 rfl (lv_at hl 0 rfl) ?_
        refine nAdd hx hb d_Mo_begins_12 ?_
        refine lv_aload_n hx hb d_Mo_begins_13 rfl (lv_at hl 1 rfl) ?_
        refine va_get (D := (dC, dI)) (ci := 5) (v := .int (nI t0.2)) (C := R_Mo) (T := F_Mo) (N := 12) hx hb ht in_Mo hown hK hP 0 rfl rfl 9 (by decide) (ht _ k_500) (fun _ h9 => h9) rfl d_Mo_begins_14 ?_
        refine z_icmp_ge (tgt := 37) hx hb d_Mo_begins_17 (tI_n (by omega)) (tI_n (by omega)) (by decide) (fun g17 => ?_) (fun g17 => ?_)
        · refine lv_iconst (v := nI 0) hx hb d_Mo_begins_37 (by decide) ?_
          refine eqi (y := bI false) (by decide) ?_
          exact eRz hx hb hr hlocks (bI_narrow _) d_Mo_begins_38 (by rw [hR, mBF, if_neg (by first | (rw [atZ_o (by omega)]; omega) | (rw [atZ_n (by omega)]; omega))])
        · refine lv_aload_n hx hb d_Mo_begins_20 rfl (lv_at hl 1 rfl) ?_
          refine va_get (D := (dC, dI)) (ci := 5) (v := .ref gt) (C := R_Mo) (T := F_Mo) (N := 12) hx hb ht in_Mo hown hK hP 0 rfl rfl 2 (by decide) (ht _ k_493) (fun _ h9 => h9) rfl d_Mo_begins_21 ?_
          refine lv_iload_n hx hb d_Mo_begins_24 rfl (lv_at hl 2 rfl) ?_
          refine lv_iload_n hx hb d_Mo_begins_25 rfl (lv_at hl 0 rfl) ?_
          refine nAdd hx hb d_Mo_begins_26 ?_
          refine ldI (q0 := 1) (t0 := 0) hx hb d_Mo_begins_27 hK hP rfl rfl (by omega) (by decide) ?_
          refine lv_aload_n hx hb d_Mo_begins_28 rfl (lv_at hl 1 rfl) ?_
          refine va_get (D := (dC, dI)) (ci := 5) (v := .ref gl) (C := R_Mo) (T := F_Mo) (N := 12) hx hb ht in_Mo hown hK hP 0 rfl rfl 6 (by decide) (ht _ k_497) (fun _ h9 => h9) rfl d_Mo_begins_29 ?_
          refine lv_iload_n hx hb d_Mo_begins_32 rfl (lv_at hl 0 rfl) ?_
          refine ldI (q0 := 2) (t0 := 1) hx hb d_Mo_begins_33 hK hP rfl rfl (by omega) (by decide) ?_
          refine z_icmp_eq (tgt := 39) hx hb d_Mo_begins_34 (tI_n (by omega)) (tI_n (by omega)) (by decide) (fun g34 => ?_) (fun g34 => ?_)
          · refine lv_iinc (k := 0) (v := nI (i + 1)) (lv' := [(2, .int (nI (i + 1))), (0, .ref o), (1, .int (nI k))]) hx hb d_Mo_begins_39 hl rfl (nI_inc1 _) (Nat.le_of_ble_eq_true rfl) rfl (fun ls hl => ?_)
            refine lv_goto (tgt := 2) hx hb d_Mo_begins_42 (by decide) ?_
            exact ih (i + 1) _ (by omega) (by rw [hR, mBF, if_pos (by rw [atZ_n (by omega)]; omega)]) (lv_sub hl [0, 1, 2] rfl)
          · refine lv_iconst (v := nI 0) hx hb d_Mo_begins_37 (by decide) ?_
            refine eqi (y := bI false) (by decide) ?_
            exact eRz hx hb hr hlocks (bI_narrow _) d_Mo_begins_38 (by rw [hR, mBF, if_neg (by first | (rw [atZ_o (by omega)]; omega) | (rw [atZ_n (by omega)]; omega))])
  exact loop2 L0.2 0 _ (Nat.zero_add _) (rfl) (lv_sub hl [0, 1, 2] rfl)

set_option maxHeartbeats 4000000 in
set_option maxRecDepth 100000 in
theorem c_Mo_here (l : Launch) (dC : Nat → ClassId) (dI : Nat → Nat → Nat) (z : zT) (sz : Nat) (o : Nat) (gi : Nat) (ge : Nat) (gt : Nat) (go : Nat) (gb : Nat) (gm : Nat) (gl : Nat) (i0 : txT) (e0 : txT) (t0 : txT) (mk : Nat) (L0 : txT) (ct : ClassId) (cl : ClassId) (k : Nat) (hs : t0.2 ≤ 2400) (ht8 : ∀ i, t0.1 i < 256) (hL : L0.2 + 1 ≤ 32) (hLc : ∀ i, i < L0.2 → L0.1 i < 256) (hk : k ≤ 2400) : MU l y_Mo_here b_Mo_here 3 (some .boolean) 1 22 (dC, dI) z [.ref o, .int (nI k)] [(o, .inr (5, [.ref gi, .ref ge, .ref gt, .ref go, .ref gb, .ref gm, .ref gl, .int (nI i0.2), .int (nI e0.2), .int (nI t0.2), .int (nI mk), .int (nI L0.2)])), (gt, .inl (ct, 2400, .inl (iN t0.1))), (gl, .inl (cl, 32, .inl (iN L0.1)))] [(ct, .int), (cl, .int)] sz (some (.int (bI (mBg t0 (ap1 L0 10) k)))) [(o, .inr (5, [.ref gi, .ref ge, .ref gt, .ref go, .ref gb, .ref gm, .ref gl, .int (nI i0.2), .int (nI e0.2), .int (nI t0.2), .int (nI mk), .int (nI ((hrL L0).2))])), (gt, .inl (ct, 2400, .inl (iN t0.1))), (gl, .inl (cl, 32, .inl (iN ((hrL L0).1))))] := by
  have hq0 : (ap1 L0 10).2 = L0.2 + 1 := rfl
  refine metU (by decide) (Nat.le_of_ble_eq_true rfl) ?_
  intro p e s m below meth c ls A hx hb hr hlocks hml hown ht hl hP hK hSS hD hS hA
  have hl : lv_has ls 3 [(0, .ref o), (1, .int (nI k))] := hl
  refine lv_aload_n hx hb d_Mo_here_0 rfl (lv_at hl 0 rfl) ?_
  refine lv_bipush (v := nI 10) hx hb d_Mo_here_1 (by decide) ?_
  refine uV (As := [.int (nI 10)]) (rest := []) (wr := [(gt, .inl (ct, 2400, .inl (iN t0.1)))]) hx hb hml hown ht (c_Mo_put l dC dI z _ o gi ge gt go gb gm gl i0 e0 t0 mk L0 cl 10 (by first | assumption | omega)) yv_Mo_put k_609 (Nat.le_of_ble_eq_true rfl) (Nat.le_of_ble_eq_true rfl) hP hK hSS hD hS hA [0, 2] [1] [1] rfl rfl (by decide) rfl (by decide) (by decide) rfl 0 5 rfl rfl rfl hl rfl rfl (Nat.le_of_ble_eq_true rfl) (Nat.zero_le _) (Nat.zero_le _) d_Mo_here_3 (fun H locs hP hD hS => ?_)
  have hP : va_P (dC, dI) classes [(gt, .inl (ct, 2400, .inl (iN t0.1))), (o, .inr (5, [.ref gi, .ref ge, .ref gt, .ref go, .ref gb, .ref gm, .ref gl, .int (nI i0.2), .int (nI e0.2), .int (nI t0.2), .int (nI mk), .int (nI ((ap1 L0 10).2))])), (gl, .inl (cl, 32, .inl (iN ((ap1 L0 10).1))))] H := hP
  have hD : va_D A [(gt, .inl (ct, 2400, .inl (iN t0.1))), (o, .inr (5, [.ref gi, .ref ge, .ref gt, .ref go, .ref gb, .ref gm, .ref gl, .int (nI i0.2), .int (nI e0.2), .int (nI t0.2), .int (nI mk), .int (nI ((ap1 L0 10).2))])), (gl, .inl (cl, 32, .inl (iN ((ap1 L0 10).1))))] := hD
  refine stk (st2 := []) rfl ?_
  refine lv_aload_n hx hb d_Mo_here_6 rfl (lv_at hl 0 rfl) ?_
  refine lv_iload_n hx hb d_Mo_here_7 rfl (lv_at hl 1 rfl) ?_
  refine rV (As := [.int (nI k)]) (rest := []) hx hb hml hown ht (c_Mo_begins l dC dI z o gi ge gt go gb gm gl i0 e0 t0 mk (ap1 L0 10) ct cl k (by first | assumption | omega) (by first | assumption | omega) (hL) (ap1_c hLc) (by first | assumption | omega)) yv_Mo_begins k_653 (Nat.le_of_ble_eq_true rfl) (Nat.le_of_ble_eq_true rfl) hP hK hSS hS [1, 0, 2] [0, 1] rfl rfl 1 5 rfl rfl rfl hl rfl rfl (Nat.le_of_ble_eq_true rfl) (Nat.zero_le _) (Nat.zero_le _) d_Mo_here_8 ?_
  refine lv_istore_n (lv' := [(2, .int (bI (mBg t0 (ap1 L0 10) k))), (0, .ref o), (1, .int (nI k))]) hx hb d_Mo_here_11 rfl hl (Nat.le_of_ble_eq_true rfl) rfl (fun ls hl => ?_)
  refine lv_aload_n hx hb d_Mo_here_12 rfl (lv_at hl 1 rfl) ?_
  refine lv_aload_n hx hb d_Mo_here_13 rfl (lv_at hl 1 rfl) ?_
  refine va_get (D := (dC, dI)) (ci := 5) (v := .int (nI ((ap1 L0 10).2))) (C := R_Mo) (T := F_Mo) (N := 12) hx hb ht in_Mo hown hK hP 1 rfl rfl 11 (by decide) (ht _ k_502) (fun _ h9 => h9) rfl d_Mo_here_14 ?_
  refine lv_iconst (v := nI 1) hx hb d_Mo_here_17 (by decide) ?_
  refine nSub hx hb d_Mo_here_18 (by omega) ?_
  refine eqi (y := nI ((hrL L0).2)) (rfl) ?_
  refine va_put (D := (dC, dI)) (ci := 5) (v := .int (nI ((hrL L0).2))) (ty := .int) (C := R_Mo) (T := F_Mo) (N := 12) hx hb ht in_Mo t_Mo t_Mo_ok n_Mo hown hK hP hD hS 1 rfl rfl 11 (by decide) (ht _ k_502) (fun _ h9 => h9) rfl (by decide +kernel) rfl rfl (Nat.le_of_ble_eq_true rfl) d_Mo_here_19 (fun H locs hP hD hS => ?_)
  have hP : va_P (dC, dI) classes [(gt, .inl (ct, 2400, .inl (iN t0.1))), (o, .inr (5, [.ref gi, .ref ge, .ref gt, .ref go, .ref gb, .ref gm, .ref gl, .int (nI i0.2), .int (nI e0.2), .int (nI t0.2), .int (nI mk), .int (nI ((hrL L0).2))])), (gl, .inl (cl, 32, .inl (iN ((ap1 L0 10).1))))] H := hP
  have hD : va_D A [(gt, .inl (ct, 2400, .inl (iN t0.1))), (o, .inr (5, [.ref gi, .ref ge, .ref gt, .ref go, .ref gb, .ref gm, .ref gl, .int (nI i0.2), .int (nI e0.2), .int (nI t0.2), .int (nI mk), .int (nI ((hrL L0).2))])), (gl, .inl (cl, 32, .inl (iN ((ap1 L0 10).1))))] := hD
  refine lv_iload_n hx hb d_Mo_here_22 rfl (lv_at hl 0 rfl) ?_
  exact eUz hx hb hr hlocks (bI_narrow _) hP hD hS [1, 0, 2] rfl rfl (by decide) d_Mo_here_23 (rfl)

set_option maxHeartbeats 4000000 in
set_option maxRecDepth 100000 in
theorem c_Mo_understand (l : Launch) (dC : Nat → ClassId) (dI : Nat → Nat → Nat) (z : zT) (sz : Nat) (o : Nat) (gi : Nat) (ge : Nat) (gt : Nat) (go : Nat) (gb : Nat) (gm : Nat) (gl : Nat) (i0 : txT) (e0 : txT) (t0 : txT) (mk : Nat) (L0 : txT) (ct : ClassId) (cl : ClassId) (k : Nat) (hs : t0.2 ≤ 2400) (ht8 : ∀ i, t0.1 i < 256) (hk : k ≤ 2400) : MX l y_Mo_understand b_Mo_understand 7 (some .int) 4 88 (dC, dI) z [.ref o, .int (nI k)] [(o, .inr (5, [.ref gi, .ref ge, .ref gt, .ref go, .ref gb, .ref gm, .ref gl, .int (nI i0.2), .int (nI e0.2), .int (nI t0.2), .int (nI mk), .int (nI L0.2)])), (gt, .inl (ct, 2400, .inl (iN t0.1))), (gl, .inl (cl, 32, .inl (iN L0.1)))] [(ct, .int), (cl, .int)] sz (fun _ : txT => some (.int (iI (encU (und t0.1 t0.2 k))))) (fun u : txT => ∀ w, und t0.1 t0.2 k = some w → u.2 = mll w.1 w.2) (fun u : txT => [(o, .inr (5, [.ref gi, .ref ge, .ref gt, .ref go, .ref gb, .ref gm, .ref gl, .int (nI i0.2), .int (nI e0.2), .int (nI t0.2), .int (nI mk), .int (nI u.2)])), (gt, .inl (ct, 2400, .inl (iN t0.1))), (gl, .inl (cl, 32, .inl (iN u.1)))]) := by
  refine metX (by decide) (Nat.le_of_ble_eq_true rfl) ?_
  intro p e s m below meth c ls A hx hb hr hlocks hml hown ht hl hP hK hSS hD hS hA
  have hl : lv_has ls 7 [(0, .ref o), (1, .int (nI k))] := hl
  refine lv_iconst (v := nI 0) hx hb d_Mo_understand_0 (by decide) ?_
  refine lv_istore_n (lv' := [(2, .int (nI 0)), (0, .ref o), (1, .int (nI k))]) hx hb d_Mo_understand_1 rfl hl (Nat.le_of_ble_eq_true rfl) rfl (fun ls hl => ?_)
  have loop2 : ∀ (j : Nat) (i : Nat) (L1 : txT) (ls : Array Slot) (H : Heap) (locs : List Loc), (i + j = 256) → (unD t0.1 t0.2 k 256 0 = unD t0.1 t0.2 k j i) → lv_has ls 7 [(2, .int (nI i)), (0, .ref o), (1, .int (nI k))] → va_P (dC, dI) classes [(o, .inr (5, [.ref gi, .ref ge, .ref gt, .ref go, .ref gb, .ref gm, .ref gl, .int (nI i0.2), .int (nI e0.2), .int (nI t0.2), .int (nI mk), .int (nI L1.2)])), (gt, .inl (ct, 2400, .inl (iN t0.1))), (gl, .inl (cl, 32, .inl (iN L1.1)))] H → va_D A [(o, .inr (5, [.ref gi, .ref ge, .ref gt, .ref go, .ref gb, .ref gm, .ref gl, .int (nI i0.2), .int (nI e0.2), .int (nI t0.2), .int (nI mk), .int (nI L1.2)])), (gt, .inl (ct, 2400, .inl (iN t0.1))), (gl, .inl (cl, 32, .inl (iN L1.1)))] → va_S A s.heap H locs → W p l e (rmq 4 88) s m [.ref o, .int (nI k)].toArray below meth c H locs 0 0 (MQ below (qcX (fun _ : txT => some (.int (iI (encU (und t0.1 t0.2 k))))) (dC, dI) (fun u : txT => ∀ w, und t0.1 t0.2 k = some w → u.2 = mll w.1 w.2) (fun u : txT => [(o, .inr (5, [.ref gi, .ref ge, .ref gt, .ref go, .ref gb, .ref gm, .ref gl, .int (nI i0.2), .int (nI e0.2), .int (nI t0.2), .int (nI mk), .int (nI u.2)])), (gt, .inl (ct, 2400, .inl (iN t0.1))), (gl, .inl (cl, 32, .inl (iN u.1)))]) A) [.ref o, .int (nI k)].toArray s 0 0 A) (F0 m 2 ls []) := by
    intro j
    induction j with
    | zero =>
      intro i L1 ls H locs hi hR hl hP hD hS
      have hDn : unD t0.1 t0.2 k 256 0 = none := hR
      have hU := und_F hDn
      refine lv_iload_n hx hb d_Mo_understand_2 rfl (lv_at hl 0 rfl) ?_
      refine lv_sipush (v := nI 256) hx hb d_Mo_understand_3 (by decide) ?_
      refine z_icmp_ge (tgt := 42) hx hb d_Mo_understand_6 (tI_n (by omega)) (tI_n (by omega)) (by decide) (fun g6 => ?_) (fun g6 => ?_)
      · refine lv_iconst (v := nI 0) hx hb d_Mo_understand_42 (by decide) ?_
        refine lv_istore_n (lv' := [(2, .int (nI 0)), (0, .ref o), (1, .int (nI k))]) hx hb d_Mo_understand_43 rfl hl (Nat.le_of_ble_eq_true rfl) rfl (fun ls hl => ?_)
        have loop44 : ∀ (j : Nat) (f : Nat) (L2 : txT) (ls : Array Slot) (H : Heap) (locs : List Loc), (f + j = 120) → (und t0.1 t0.2 k = unF t0.1 t0.2 k j f) → lv_has ls 7 [(2, .int (nI f)), (0, .ref o), (1, .int (nI k))] → va_P (dC, dI) classes [(o, .inr (5, [.ref gi, .ref ge, .ref gt, .ref go, .ref gb, .ref gm, .ref gl, .int (nI i0.2), .int (nI e0.2), .int (nI t0.2), .int (nI mk), .int (nI L2.2)])), (gt, .inl (ct, 2400, .inl (iN t0.1))), (gl, .inl (cl, 32, .inl (iN L2.1)))] H → va_D A [(o, .inr (5, [.ref gi, .ref ge, .ref gt, .ref go, .ref gb, .ref gm, .ref gl, .int (nI i0.2), .int (nI e0.2), .int (nI t0.2), .int (nI mk), .int (nI L2.2)])), (gt, .inl (ct, 2400, .inl (iN t0.1))), (gl, .inl (cl, 32, .inl (iN L2.1)))] → va_S A s.heap H locs → W p l e (rmq 4 88) s m [.ref o, .int (nI k)].toArray below meth c H locs 0 0 (MQ below (qcX (fun _ : txT => some (.int (iI (encU (und t0.1 t0.2 k))))) (dC, dI) (fun u : txT => ∀ w, und t0.1 t0.2 k = some w → u.2 = mll w.1 w.2) (fun u : txT => [(o, .inr (5, [.ref gi, .ref ge, .ref gt, .ref go, .ref gb, .ref gm, .ref gl, .int (nI i0.2), .int (nI e0.2), .int (nI t0.2), .int (nI mk), .int (nI u.2)])), (gt, .inl (ct, 2400, .inl (iN t0.1))), (gl, .inl (cl, 32, .inl (iN u.1)))]) A) [.ref o, .int (nI k)].toArray s 0 0 A) (F0 m 44 ls []) := by
          intro j
          induction j with
          | zero =>
            intro f L2 ls H locs hf hR2 hl hP hD hS
            have hUn : und t0.1 t0.2 k = none := hR2
            refine lv_iload_n hx hb d_Mo_understand_44 rfl (lv_at hl 0 rfl) ?_
            refine lv_bipush (v := nI 120) hx hb d_Mo_understand_45 (by decide) ?_
            refine z_icmp_ge (tgt := 192) hx hb d_Mo_understand_47 (tI_n (by omega)) (tI_n (by omega)) (by decide) (fun g47 => ?_) (fun g47 => ?_)
            · refine lv_iconst (v := iI (-1)) hx hb d_Mo_understand_192 (by decide) ?_
              exact eXi L2 hx hb hr hlocks (fun w hw => by rw [hUn] at hw; cases hw) (congrArg (fun t => some (Value.int t)) (by rw [hUn]; rfl)) hP hD hS [0, 1, 2] rfl rfl (by decide) d_Mo_understand_193
            · exfalso; omega
          | succ j ih =>
            intro f L2 ls H locs hf hR2 hl hP hD hS
            have hfl := fr_len (show f < 120 by omega)
            have hel2 := ap_dr_len L2 (frL f)
            have hlg := lgO_le f
            have hvi := leV_in f
            refine lv_iload_n hx hb d_Mo_understand_44 rfl (lv_at hl 0 rfl) ?_
            refine lv_bipush (v := nI 120) hx hb d_Mo_understand_45 (by decide) ?_
            refine z_icmp_ge (tgt := 192) hx hb d_Mo_understand_47 (tI_n (by omega)) (tI_n (by omega)) (by decide) (fun g47 => ?_) (fun g47 => ?_)
            · exfalso; omega
            · refine lv_iload_n hx hb d_Mo_understand_50 rfl (lv_at hl 0 rfl) ?_
              refine rS (As := [.int (nI f)]) (rest := []) hx hb hml hown ht (c_Mo_longOf l dC dI z f (by first | assumption | omega)) ys_Mo_longOf k_560 (Nat.le_of_ble_eq_true rfl) (Nat.le_of_ble_eq_true rfl) hP hK hSS hS [] [] rfl rfl hl rfl rfl (Nat.le_of_ble_eq_true rfl) (Nat.zero_le _) (Nat.zero_le _) d_Mo_understand_51 ?_
              refine lv_istore_n (lv' := [(3, .int (nI (lgO f))), (2, .int (nI f)), (0, .ref o), (1, .int (nI k))]) hx hb d_Mo_understand_54 rfl hl (Nat.le_of_ble_eq_true rfl) rfl (fun ls hl => ?_)
              refine lv_iload_n hx hb d_Mo_understand_55 rfl (lv_at hl 0 rfl) ?_
              refine z_if_le (tgt := 186) hx hb d_Mo_understand_56 (tI_n (by omega)) (by decide) (fun g56 => ?_) (fun g56 => ?_)
              · have hO := unO_0 (t := t0.1) (n := t0.2) (p := k) (show lgO f = 0 by omega)
                refine lv_iinc (k := 1) (v := nI (f + 1)) (lv' := [(2, .int (nI (f + 1))), (3, .int (nI (lgO f))), (0, .ref o), (1, .int (nI k))]) hx hb d_Mo_understand_186 hl rfl (nI_inc1 _) (Nat.le_of_ble_eq_true rfl) rfl (fun ls hl => ?_)
                refine lv_goto (tgt := 44) hx hb d_Mo_understand_189 (by decide) ?_
                exact ih (f + 1) L2 _ _ _ (by omega) (by rw [hR2, unF_n hO]) (lv_sub hl [0, 2, 3] rfl) (hP.sub [0, 1, 2] rfl) (hD.sub [0, 1, 2] (by decide) rfl) hS
              · refine lv_aload_n hx hb d_Mo_understand_59 rfl (lv_at hl 2 rfl) ?_
                refine lv_iload_n hx hb d_Mo_understand_60 rfl (lv_at hl 1 rfl) ?_
                refine uV (As := [.int (nI f)]) (rest := []) (wr := [(gt, .inl (ct, 2400, .inl (iN t0.1)))]) hx hb hml hown ht (c_Mo_front l dC dI z _ o gi ge gt go gb gm gl i0 e0 t0 mk L2 cl f (by first | assumption | omega)) yv_Mo_front k_621 (Nat.le_of_ble_eq_true rfl) (Nat.le_of_ble_eq_true rfl) hP hK hSS hD hS hA [0, 2] [1] [1] rfl rfl (by decide) rfl (by decide) (by decide) rfl 0 5 rfl rfl rfl hl rfl rfl (Nat.le_of_ble_eq_true rfl) (Nat.zero_le _) (Nat.zero_le _) d_Mo_understand_61 (fun H locs hP hD hS => ?_)
                have hP : va_P (dC, dI) classes [(gt, .inl (ct, 2400, .inl (iN t0.1))), (o, .inr (5, [.ref gi, .ref ge, .ref gt, .ref go, .ref gb, .ref gm, .ref gl, .int (nI i0.2), .int (nI e0.2), .int (nI t0.2), .int (nI mk), .int (nI ((ap (dr L2) (frL f)).2))])), (gl, .inl (cl, 32, .inl (iN ((ap (dr L2) (frL f)).1))))] H := hP
                have hD : va_D A [(gt, .inl (ct, 2400, .inl (iN t0.1))), (o, .inr (5, [.ref gi, .ref ge, .ref gt, .ref go, .ref gb, .ref gm, .ref gl, .int (nI i0.2), .int (nI e0.2), .int (nI t0.2), .int (nI mk), .int (nI ((ap (dr L2) (frL f)).2))])), (gl, .inl (cl, 32, .inl (iN ((ap (dr L2) (frL f)).1))))] := hD
                refine stk (st2 := []) rfl ?_
                refine lv_iload_n hx hb d_Mo_understand_64 rfl (lv_at hl 0 rfl) ?_
                refine lv_iconst (v := nI 1) hx hb d_Mo_understand_65 (by decide) ?_
                refine z_icmp_ne (tgt := 82) hx hb d_Mo_understand_66 (tI_n (by omega)) (tI_n (by omega)) (by decide) (fun g66 => ?_) (fun g66 => ?_)
                · refine lv_iload_n hx hb d_Mo_understand_82 rfl (lv_at hl 0 rfl) ?_
                  refine lv_iconst (v := nI 1) hx hb d_Mo_understand_83 (by decide) ?_
                  refine z_icmp_le (tgt := 186) hx hb d_Mo_understand_84 (tI_n (by omega)) (tI_n (by omega)) (by decide) (fun g84 => ?_) (fun g84 => ?_)
                  · have hO : unO t0.1 t0.2 k f = none := by first | exact unO_1n (show lgO f = 1 by omega) g74 | (exfalso; omega)
                    refine lv_iinc (k := 1) (v := nI (f + 1)) (lv' := [(2, .int (nI (f + 1))), (3, .int (nI (lgO f))), (0, .ref o), (1, .int (nI k))]) hx hb d_Mo_understand_186 hl rfl (nI_inc1 _) (Nat.le_of_ble_eq_true rfl) rfl (fun ls hl => ?_)
                    refine lv_goto (tgt := 44) hx hb d_Mo_understand_189 (by decide) ?_
                    exact ih (f + 1) (ap (dr L2) (frL f)) _ _ _ (by omega) (by rw [hR2, unF_n hO]) (lv_sub hl [0, 2, 3] rfl) (hP.sub [1, 0, 2] rfl) (hD.sub [1, 0, 2] (by decide) rfl) hS
                  · refine lv_aload_n hx hb d_Mo_understand_87 rfl (lv_at hl 2 rfl) ?_
                    refine lv_iload_n hx hb d_Mo_understand_88 rfl (lv_at hl 3 rfl) ?_
                    refine rV (As := [.int (nI k)]) (rest := []) hx hb hml hown ht (c_Mo_begins l dC dI z o gi ge gt go gb gm gl i0 e0 t0 mk (ap (dr L2) (frL f)) ct cl k (by first | assumption | omega) (by first | assumption | omega) (by first | assumption | omega) (ap_dr_c hfl.2) (by first | assumption | omega)) yv_Mo_begins k_653 (Nat.le_of_ble_eq_true rfl) (Nat.le_of_ble_eq_true rfl) hP hK hSS hS [1, 0, 2] [0, 1] rfl rfl 1 5 rfl rfl rfl hl rfl rfl (Nat.le_of_ble_eq_true rfl) (Nat.zero_le _) (Nat.zero_le _) d_Mo_understand_89 ?_
                    refine eqi (y := bI (mL t0.1 t0.2 k (frL f))) (by rw [mBg_mL]) ?_
                    refine b_if_eq (tgt := 186) hx hb d_Mo_understand_92 (by decide) (fun g92 => ?_) (fun g92 => ?_)
                    · have hO := unO_n (t := t0.1) (n := t0.2) (p := k) (show 1 < lgO f by omega) g92
                      refine lv_iinc (k := 1) (v := nI (f + 1)) (lv' := [(2, .int (nI (f + 1))), (3, .int (nI (lgO f))), (0, .ref o), (1, .int (nI k))]) hx hb d_Mo_understand_186 hl rfl (nI_inc1 _) (Nat.le_of_ble_eq_true rfl) rfl (fun ls hl => ?_)
                      refine lv_goto (tgt := 44) hx hb d_Mo_understand_189 (by decide) ?_
                      exact ih (f + 1) (ap (dr L2) (frL f)) _ _ _ (by omega) (by rw [hR2, unF_n hO]) (lv_sub hl [0, 2, 3] rfl) (hP.sub [1, 0, 2] rfl) (hD.sub [1, 0, 2] (by decide) rfl) hS
                    · have cut113 : ∀  (ls : Array Slot) (H : Heap) (locs : List Loc), lv_has ls 7 [(3, .int (nI (lgO f))), (2, .int (nI f)), (0, .ref o), (1, .int (nI k))] → va_P (dC, dI) classes [(gt, .inl (ct, 2400, .inl (iN t0.1))), (o, .inr (5, [.ref gi, .ref ge, .ref gt, .ref go, .ref gb, .ref gm, .ref gl, .int (nI i0.2), .int (nI e0.2), .int (nI t0.2), .int (nI mk), .int (nI ((ap (dr L2) (frL f)).2))])), (gl, .inl (cl, 32, .inl (iN ((ap (dr L2) (frL f)).1))))] H → va_D A [(gt, .inl (ct, 2400, .inl (iN t0.1))), (o, .inr (5, [.ref gi, .ref ge, .ref gt, .ref go, .ref gb, .ref gm, .ref gl, .int (nI i0.2), .int (nI e0.2), .int (nI t0.2), .int (nI mk), .int (nI ((ap (dr L2) (frL f)).2))])), (gl, .inl (cl, 32, .inl (iN ((ap (dr L2) (frL f)).1))))] → va_S A s.heap H locs → W p l e (rmq 4 88) s m [.ref o, .int (nI k)].toArray below meth c H locs 0 0 (MQ below (qcX (fun _ : txT => some (.int (iI (encU (und t0.1 t0.2 k))))) (dC, dI) (fun u : txT => ∀ w, und t0.1 t0.2 k = some w → u.2 = mll w.1 w.2) (fun u : txT => [(o, .inr (5, [.ref gi, .ref ge, .ref gt, .ref go, .ref gb, .ref gm, .ref gl, .int (nI i0.2), .int (nI e0.2), .int (nI t0.2), .int (nI mk), .int (nI u.2)])), (gt, .inl (ct, 2400, .inl (iN t0.1))), (gl, .inl (cl, 32, .inl (iN u.1)))]) A) [.ref o, .int (nI k)].toArray s 0 0 A) (F0 m 113 ls [.int (iI (leV f))]) := by
                        intro  ls H locs  hl hP hD hS
                        refine lv_istore (lv' := [(4, .int (iI (leV f))), (3, .int (nI (lgO f))), (2, .int (nI f)), (0, .ref o), (1, .int (nI k))]) hx hb d_Mo_understand_113 hl (Nat.le_of_ble_eq_true rfl) rfl (fun ls hl => ?_)
                        have cut139 : ∀  (ls : Array Slot) (H : Heap) (locs : List Loc), lv_has ls 7 [(4, .int (iI (leV f))), (3, .int (nI (lgO f))), (2, .int (nI f)), (0, .ref o), (1, .int (nI k))] → va_P (dC, dI) classes [(gt, .inl (ct, 2400, .inl (iN t0.1))), (o, .inr (5, [.ref gi, .ref ge, .ref gt, .ref go, .ref gb, .ref gm, .ref gl, .int (nI i0.2), .int (nI e0.2), .int (nI t0.2), .int (nI mk), .int (nI ((ap (dr L2) (frL f)).2))])), (gl, .inl (cl, 32, .inl (iN ((ap (dr L2) (frL f)).1))))] H → va_D A [(gt, .inl (ct, 2400, .inl (iN t0.1))), (o, .inr (5, [.ref gi, .ref ge, .ref gt, .ref go, .ref gb, .ref gm, .ref gl, .int (nI i0.2), .int (nI e0.2), .int (nI t0.2), .int (nI mk), .int (nI ((ap (dr L2) (frL f)).2))])), (gl, .inl (cl, 32, .inl (iN ((ap (dr L2) (frL f)).1))))] → va_S A s.heap H locs → W p l e (rmq 4 88) s m [.ref o, .int (nI k)].toArray below meth c H locs 0 0 (MQ below (qcX (fun _ : txT => some (.int (iI (encU (und t0.1 t0.2 k))))) (dC, dI) (fun u : txT => ∀ w, und t0.1 t0.2 k = some w → u.2 = mll w.1 w.2) (fun u : txT => [(o, .inr (5, [.ref gi, .ref ge, .ref gt, .ref go, .ref gb, .ref gm, .ref gl, .int (nI i0.2), .int (nI e0.2), .int (nI t0.2), .int (nI mk), .int (nI u.2)])), (gt, .inl (ct, 2400, .inl (iN t0.1))), (gl, .inl (cl, 32, .inl (iN u.1)))]) A) [.ref o, .int (nI k)].toArray s 0 0 A) (F0 m 139 ls [.int (iI (moV f))]) := by
                          intro  ls H locs  hl hP hD hS
                          refine lv_istore (lv' := [(5, .int (iI (moV f))), (4, .int (iI (leV f))), (3, .int (nI (lgO f))), (2, .int (nI f)), (0, .ref o), (1, .int (nI k))]) hx hb d_Mo_understand_139 hl (Nat.le_of_ble_eq_true rfl) rfl (fun ls hl => ?_)
                          refine lv_iload hx hb d_Mo_understand_141 (lv_at hl 1 rfl) ?_
                          refine lv_istore (lv' := [(6, .int (iI (leV f))), (5, .int (iI (moV f))), (4, .int (iI (leV f))), (3, .int (nI (lgO f))), (2, .int (nI f)), (0, .ref o), (1, .int (nI k))]) hx hb d_Mo_understand_143 hl (Nat.le_of_ble_eq_true rfl) rfl (fun ls hl => ?_)
                          have loop145 : ∀ (j : Nat) (v : Int) (L3 : txT) (ls : Array Slot) (H : Heap) (locs : List Loc), (v + (j : Int) = moV f + 1) → (leV f ≤ v) → (unO t0.1 t0.2 k f = unV t0.1 t0.2 k f j v) → lv_has ls 7 [(6, .int (iI v)), (5, .int (iI (moV f))), (4, .int (iI (leV f))), (3, .int (nI (lgO f))), (2, .int (nI f)), (0, .ref o), (1, .int (nI k))] → va_P (dC, dI) classes [(o, .inr (5, [.ref gi, .ref ge, .ref gt, .ref go, .ref gb, .ref gm, .ref gl, .int (nI i0.2), .int (nI e0.2), .int (nI t0.2), .int (nI mk), .int (nI L3.2)])), (gt, .inl (ct, 2400, .inl (iN t0.1))), (gl, .inl (cl, 32, .inl (iN L3.1)))] H → va_D A [(o, .inr (5, [.ref gi, .ref ge, .ref gt, .ref go, .ref gb, .ref gm, .ref gl, .int (nI i0.2), .int (nI e0.2), .int (nI t0.2), .int (nI mk), .int (nI L3.2)])), (gt, .inl (ct, 2400, .inl (iN t0.1))), (gl, .inl (cl, 32, .inl (iN L3.1)))] → va_S A s.heap H locs → W p l e (rmq 4 88) s m [.ref o, .int (nI k)].toArray below meth c H locs 0 0 (MQ below (qcX (fun _ : txT => some (.int (iI (encU (und t0.1 t0.2 k))))) (dC, dI) (fun u : txT => ∀ w, und t0.1 t0.2 k = some w → u.2 = mll w.1 w.2) (fun u : txT => [(o, .inr (5, [.ref gi, .ref ge, .ref gt, .ref go, .ref gb, .ref gm, .ref gl, .int (nI i0.2), .int (nI e0.2), .int (nI t0.2), .int (nI mk), .int (nI u.2)])), (gt, .inl (ct, 2400, .inl (iN t0.1))), (gl, .inl (cl, 32, .inl (iN u.1)))]) A) [.ref o, .int (nI k)].toArray s 0 0 A) (F0 m 145 ls []) := by
                            intro j
                            induction j with
                            | zero =>
                              intro v L3 ls H locs hv hvl hR3 hl hP hD hS
                              have hO : unO t0.1 t0.2 k f = none := hR3
                              refine lv_iload hx hb d_Mo_understand_145 (lv_at hl 0 rfl) ?_
                              refine lv_iload hx hb d_Mo_understand_147 (lv_at hl 1 rfl) ?_
                              refine z_icmp_gt (tgt := 186) hx hb d_Mo_understand_149 (iI_toInt (by omega) (by omega)) (iI_toInt (by omega) (by omega)) (by decide) (fun g149 => ?_) (fun g149 => ?_)
                              · refine lv_iinc (k := 4) (v := nI (f + 1)) (lv' := [(2, .int (nI (f + 1))), (6, .int (iI v)), (5, .int (iI (moV f))), (4, .int (iI (leV f))), (3, .int (nI (lgO f))), (0, .ref o), (1, .int (nI k))]) hx hb d_Mo_understand_186 hl rfl (nI_inc1 _) (Nat.le_of_ble_eq_true rfl) rfl (fun ls hl => ?_)
                                refine lv_goto (tgt := 44) hx hb d_Mo_understand_189 (by decide) ?_
                                exact ih (f + 1) L3 _ _ _ (by omega) (by rw [hR2, unF_n hO]) (lv_sub hl [0, 5, 6] rfl) (hP.sub [0, 1, 2] rfl) (hD.sub [0, 1, 2] (by decide) rfl) hS
                              · exfalso; omega
                            | succ j ih =>
                              intro v L3 ls H locs hv hvl hR3 hl hP hD hS
                              have hpl := pr_len (f := f) (v := v) (by omega) (by omega) (by omega)
                              have hel3 := ap_dr_len L3 (prL f v)
                              refine lv_iload hx hb d_Mo_understand_145 (lv_at hl 0 rfl) ?_
                              refine lv_iload hx hb d_Mo_understand_147 (lv_at hl 1 rfl) ?_
                              refine z_icmp_gt (tgt := 186) hx hb d_Mo_understand_149 (iI_toInt (by omega) (by omega)) (iI_toInt (by omega) (by omega)) (by decide) (fun g149 => ?_) (fun g149 => ?_)
                              · exfalso; omega
                              · refine lv_aload_n hx hb d_Mo_understand_152 rfl (lv_at hl 5 rfl) ?_
                                refine lv_iload_n hx hb d_Mo_understand_153 rfl (lv_at hl 4 rfl) ?_
                                refine lv_iload hx hb d_Mo_understand_154 (lv_at hl 0 rfl) ?_
                                refine uV (As := [.int (nI f), .int (iI v)]) (rest := []) (wr := [(gt, .inl (ct, 2400, .inl (iN t0.1)))]) hx hb hml hown ht (c_Mo_print l dC dI z _ o gi ge gt go gb gm gl i0 e0 t0 mk L3 cl f v (by first | assumption | omega) (by first | assumption | omega) (by first | assumption | omega)) yv_Mo_print k_617 (Nat.le_of_ble_eq_true rfl) (Nat.le_of_ble_eq_true rfl) hP hK hSS hD hS hA [0, 2] [1] [1] rfl rfl (by decide) rfl (by decide) (by decide) rfl 0 5 rfl rfl rfl hl rfl rfl (Nat.le_of_ble_eq_true rfl) (Nat.zero_le _) (Nat.zero_le _) d_Mo_understand_156 (fun H locs hP hD hS => ?_)
                                have hP : va_P (dC, dI) classes [(gt, .inl (ct, 2400, .inl (iN t0.1))), (o, .inr (5, [.ref gi, .ref ge, .ref gt, .ref go, .ref gb, .ref gm, .ref gl, .int (nI i0.2), .int (nI e0.2), .int (nI t0.2), .int (nI mk), .int (nI ((ap (dr L3) (prL f v)).2))])), (gl, .inl (cl, 32, .inl (iN ((ap (dr L3) (prL f v)).1))))] H := hP
                                have hD : va_D A [(gt, .inl (ct, 2400, .inl (iN t0.1))), (o, .inr (5, [.ref gi, .ref ge, .ref gt, .ref go, .ref gb, .ref gm, .ref gl, .int (nI i0.2), .int (nI e0.2), .int (nI t0.2), .int (nI mk), .int (nI ((ap (dr L3) (prL f v)).2))])), (gl, .inl (cl, 32, .inl (iN ((ap (dr L3) (prL f v)).1))))] := hD
                                refine stk (st2 := []) rfl ?_
                                refine lv_aload_n hx hb d_Mo_understand_159 rfl (lv_at hl 5 rfl) ?_
                                refine lv_iload_n hx hb d_Mo_understand_160 rfl (lv_at hl 6 rfl) ?_
                                refine uV (As := [.int (nI k)]) (rest := []) (wr := []) hx hb hml hown ht (c_Mo_here l dC dI z _ o gi ge gt go gb gm gl i0 e0 t0 mk (ap (dr L3) (prL f v)) ct cl k (by first | assumption | omega) (by first | assumption | omega) (by first | assumption | omega) (ap_dr_c hpl.2) (by first | assumption | omega)) yv_Mo_here k_649 (Nat.le_of_ble_eq_true rfl) (Nat.le_of_ble_eq_true rfl) hP hK hSS hD hS hA [1, 0, 2] [] [0, 1] rfl rfl (by decide) rfl (by decide) (by decide) rfl 1 5 rfl rfl rfl hl rfl rfl (Nat.le_of_ble_eq_true rfl) (Nat.zero_le _) (Nat.zero_le _) d_Mo_understand_161 (fun H locs hP hD hS => ?_)
                                have hP : va_P (dC, dI) classes [(o, .inr (5, [.ref gi, .ref ge, .ref gt, .ref go, .ref gb, .ref gm, .ref gl, .int (nI i0.2), .int (nI e0.2), .int (nI t0.2), .int (nI mk), .int (nI ((hrL (ap (dr L3) (prL f v))).2))])), (gt, .inl (ct, 2400, .inl (iN t0.1))), (gl, .inl (cl, 32, .inl (iN ((hrL (ap (dr L3) (prL f v))).1))))] H := hP
                                have hD : va_D A [(o, .inr (5, [.ref gi, .ref ge, .ref gt, .ref go, .ref gb, .ref gm, .ref gl, .int (nI i0.2), .int (nI e0.2), .int (nI t0.2), .int (nI mk), .int (nI ((hrL (ap (dr L3) (prL f v))).2))])), (gt, .inl (ct, 2400, .inl (iN t0.1))), (gl, .inl (cl, 32, .inl (iN ((hrL (ap (dr L3) (prL f v))).1))))] := hD
                                refine stk (st2 := [.int (bI (mBg t0 (ap1 (ap (dr L3) (prL f v)) 10) k))]) rfl ?_
                                refine eqi (y := bI (mL t0.1 t0.2 k (prL f v ++ [10]))) (by rw [mBg_10]) ?_
                                refine b_if_eq (tgt := 180) hx hb d_Mo_understand_164 (by decide) (fun g164 => ?_) (fun g164 => ?_)
                                · refine lv_iinc (k := 0) (v := iI (v + 1)) (lv' := [(6, .int (iI (v + 1))), (5, .int (iI (moV f))), (4, .int (iI (leV f))), (3, .int (nI (lgO f))), (2, .int (nI f)), (0, .ref o), (1, .int (nI k))]) hx hb d_Mo_understand_180 hl rfl (iI_add _ 1) (Nat.le_of_ble_eq_true rfl) rfl (fun ls hl => ?_)
                                  refine lv_goto (tgt := 145) hx hb d_Mo_understand_183 (by decide) ?_
                                  exact ih (v + 1) (hrL (ap (dr L3) (prL f v))) _ _ _ (by omega) (by omega) (by rw [hR3, unV, if_neg (by rw [g164]; decide)]) (lv_sub hl [0, 1, 2, 3, 4, 5, 6] rfl) (hP.sub [0, 1, 2] rfl) (hD.sub [0, 1, 2] (by decide) rfl) hS
                                · have hOv : unO t0.1 t0.2 k f = some v := by rw [hR3, unV, if_pos g164]
                                  have hUe := hR2.trans (unF_y hOv)
                                  refine lv_iload_n hx hb d_Mo_understand_167 rfl (lv_at hl 4 rfl) ?_
                                  refine lv_sipush (v := nI 1024) hx hb d_Mo_understand_168 (by decide) ?_
                                  refine lv_iload hx hb d_Mo_understand_171 (lv_at hl 0 rfl) ?_
                                  refine lv_sipush (v := nI 200) hx hb d_Mo_understand_173 (by decide) ?_
                                  refine zAdd hx hb d_Mo_understand_176 rfl (nI_iI _) ?_
                                  refine zMul hx hb d_Mo_understand_177 (nI_iI _) rfl ?_
                                  refine zAdd hx hb d_Mo_understand_178 (nI_iI _) rfl ?_
                                  exact eXi (hrL (ap (dr L3) (prL f v))) hx hb hr hlocks (fun w hw => by rw [hUe] at hw; cases hw; show _ = mll f v; rw [mll_P (show f < 120 by omega)]; exact hel3) (congrArg (fun t => some (Value.int t)) (by rw [hUe]; show iI ((f : Int) + 1024 * (v + 200)) = _; congr 1)) hP hD hS [0, 1, 2] rfl rfl (by decide) d_Mo_understand_179
                          exact loop145 ((moV f - leV f + 1).toNat) (leV f) (ap (dr L2) (frL f)) _ _ _ (by omega) (Int.le_refl _) (unO_v (by omega) g92) (lv_sub hl [0, 1, 2, 3, 4, 5, 6] rfl) (hP.sub [1, 0, 2] rfl) (hD.sub [1, 0, 2] (by decide) rfl) hS
                        refine lv_iload_n hx hb d_Mo_understand_115 rfl (lv_at hl 1 rfl) ?_
                        refine lv_iconst (v := nI 3) hx hb d_Mo_understand_116 (by decide) ?_
                        refine z_icmp_ne (tgt := 125) hx hb d_Mo_understand_117 (tI_n (by omega)) (tI_n (by omega)) (by decide) (fun g117 => ?_) (fun g117 => ?_)
                        · refine lv_iload_n hx hb d_Mo_understand_125 rfl (lv_at hl 2 rfl) ?_
                          refine lv_bipush (v := nI 96) hx hb d_Mo_understand_126 (by decide) ?_
                          refine z_icmp_lt (tgt := 136) hx hb d_Mo_understand_128 (tI_n (by omega)) (tI_n (by omega)) (by decide) (fun g128 => ?_) (fun g128 => ?_)
                          · refine lv_sipush (v := nI 255) hx hb d_Mo_understand_136 (by decide) ?_
                            refine eqi (y := iI (moV f)) (by rw [nI_iI, moV, if_neg (by omega), if_neg (by omega)]; rfl) ?_
                            exact cut139  _ _ _  (lv_sub hl [0, 1, 2, 3, 4] rfl) (hP.sub [0, 1, 2] rfl) (hD.sub [0, 1, 2] (by decide) rfl) hS
                          · refine lv_bipush (v := nI 127) hx hb d_Mo_understand_131 (by decide) ?_
                            refine eqi (y := iI (moV f)) (by rw [nI_iI, moV, if_neg (by omega), if_pos (by omega)]; rfl) ?_
                            refine lv_goto (tgt := 139) hx hb d_Mo_understand_133 (by decide) ?_
                            exact cut139  _ _ _  (lv_sub hl [0, 1, 2, 3, 4] rfl) (hP.sub [0, 1, 2] rfl) (hD.sub [0, 1, 2] (by decide) rfl) hS
                        · refine lv_ldc (v := 65535) hx hb hown (ht _ k_658) d_Mo_understand_120 ?_
                          refine eqi (y := nI 65535) (by decide) ?_
                          refine eqi (y := iI (moV f)) (by rw [nI_iI, moV, if_pos (by omega)]; rfl) ?_
                          refine lv_goto (tgt := 139) hx hb d_Mo_understand_122 (by decide) ?_
                          exact cut139  _ _ _  (lv_sub hl [0, 1, 2, 3, 4] rfl) (hP.sub [0, 1, 2] rfl) (hD.sub [0, 1, 2] (by decide) rfl) hS
                      refine lv_iload_n hx hb d_Mo_understand_95 rfl (lv_at hl 1 rfl) ?_
                      refine lv_bipush (v := nI 96) hx hb d_Mo_understand_96 (by decide) ?_
                      refine z_icmp_lt (tgt := 112) hx hb d_Mo_understand_98 (tI_n (by omega)) (tI_n (by omega)) (by decide) (fun g98 => ?_) (fun g98 => ?_)
                      · refine lv_iconst (v := nI 0) hx hb d_Mo_understand_112 (by decide) ?_
                        refine eqi (y := iI (leV f)) (by rw [nI_iI, leV, if_neg (by omega)]; rfl) ?_
                        exact cut113  _ _ _  (lv_sub hl [0, 1, 2, 3] rfl) (hP.sub [0, 1, 2] rfl) (hD.sub [0, 1, 2] (by decide) rfl) hS
                      · refine lv_iload_n hx hb d_Mo_understand_101 rfl (lv_at hl 1 rfl) ?_
                        refine lv_bipush (v := nI 99) hx hb d_Mo_understand_102 (by decide) ?_
                        refine z_icmp_gt (tgt := 112) hx hb d_Mo_understand_104 (tI_n (by omega)) (tI_n (by omega)) (by decide) (fun g104 => ?_) (fun g104 => ?_)
                        · refine lv_iconst (v := nI 0) hx hb d_Mo_understand_112 (by decide) ?_
                          refine eqi (y := iI (leV f)) (by rw [nI_iI, leV, if_neg (by omega)]; rfl) ?_
                          exact cut113  _ _ _  (lv_sub hl [0, 1, 2, 3] rfl) (hP.sub [0, 1, 2] rfl) (hD.sub [0, 1, 2] (by decide) rfl) hS
                        · refine lv_bipush (v := iI (-128)) hx hb d_Mo_understand_107 (by decide) ?_
                          refine eqi (y := iI (leV f)) (by rw [leV, if_pos (by omega)]) ?_
                          refine lv_goto (tgt := 113) hx hb d_Mo_understand_109 (by decide) ?_
                          exact cut113  _ _ _  (lv_sub hl [0, 1, 2, 3] rfl) (hP.sub [0, 1, 2] rfl) (hD.sub [0, 1, 2] (by decide) rfl) hS
                · refine lv_aload_n hx hb d_Mo_understand_69 rfl (lv_at hl 2 rfl) ?_
                  refine lv_iload_n hx hb d_Mo_understand_70 rfl (lv_at hl 3 rfl) ?_
                  refine uV (As := [.int (nI k)]) (rest := []) (wr := []) hx hb hml hown ht (c_Mo_here l dC dI z _ o gi ge gt go gb gm gl i0 e0 t0 mk (ap (dr L2) (frL f)) ct cl k (by first | assumption | omega) (by first | assumption | omega) (by first | assumption | omega) (ap_dr_c hfl.2) (by first | assumption | omega)) yv_Mo_here k_649 (Nat.le_of_ble_eq_true rfl) (Nat.le_of_ble_eq_true rfl) hP hK hSS hD hS hA [1, 0, 2] [] [0, 1] rfl rfl (by decide) rfl (by decide) (by decide) rfl 1 5 rfl rfl rfl hl rfl rfl (Nat.le_of_ble_eq_true rfl) (Nat.zero_le _) (Nat.zero_le _) d_Mo_understand_71 (fun H locs hP hD hS => ?_)
                  have hP : va_P (dC, dI) classes [(o, .inr (5, [.ref gi, .ref ge, .ref gt, .ref go, .ref gb, .ref gm, .ref gl, .int (nI i0.2), .int (nI e0.2), .int (nI t0.2), .int (nI mk), .int (nI ((hrL (ap (dr L2) (frL f))).2))])), (gt, .inl (ct, 2400, .inl (iN t0.1))), (gl, .inl (cl, 32, .inl (iN ((hrL (ap (dr L2) (frL f))).1))))] H := hP
                  have hD : va_D A [(o, .inr (5, [.ref gi, .ref ge, .ref gt, .ref go, .ref gb, .ref gm, .ref gl, .int (nI i0.2), .int (nI e0.2), .int (nI t0.2), .int (nI mk), .int (nI ((hrL (ap (dr L2) (frL f))).2))])), (gt, .inl (ct, 2400, .inl (iN t0.1))), (gl, .inl (cl, 32, .inl (iN ((hrL (ap (dr L2) (frL f))).1))))] := hD
                  refine stk (st2 := [.int (bI (mBg t0 (ap1 (ap (dr L2) (frL f)) 10) k))]) rfl ?_
                  refine eqi (y := bI (mL t0.1 t0.2 k (frL f ++ [10]))) (by rw [mBg_10]) ?_
                  refine b_if_eq (tgt := 82) hx hb d_Mo_understand_74 (by decide) (fun g74 => ?_) (fun g74 => ?_)
                  · refine lv_iload_n hx hb d_Mo_understand_82 rfl (lv_at hl 0 rfl) ?_
                    refine lv_iconst (v := nI 1) hx hb d_Mo_understand_83 (by decide) ?_
                    refine z_icmp_le (tgt := 186) hx hb d_Mo_understand_84 (tI_n (by omega)) (tI_n (by omega)) (by decide) (fun g84 => ?_) (fun g84 => ?_)
                    · have hO : unO t0.1 t0.2 k f = none := by first | exact unO_1n (show lgO f = 1 by omega) g74 | (exfalso; omega)
                      refine lv_iinc (k := 1) (v := nI (f + 1)) (lv' := [(2, .int (nI (f + 1))), (3, .int (nI (lgO f))), (0, .ref o), (1, .int (nI k))]) hx hb d_Mo_understand_186 hl rfl (nI_inc1 _) (Nat.le_of_ble_eq_true rfl) rfl (fun ls hl => ?_)
                      refine lv_goto (tgt := 44) hx hb d_Mo_understand_189 (by decide) ?_
                      exact ih (f + 1) (hrL (ap (dr L2) (frL f))) _ _ _ (by omega) (by rw [hR2, unF_n hO]) (lv_sub hl [0, 2, 3] rfl) (hP.sub [0, 1, 2] rfl) (hD.sub [0, 1, 2] (by decide) rfl) hS
                    · exfalso; omega
                  · have hUe := hR2.trans (unF_y (unO_1y (by omega) g74))
                    refine lv_iload_n hx hb d_Mo_understand_77 rfl (lv_at hl 1 rfl) ?_
                    refine lv_ldc (v := 204800) hx hb hown (ht _ k_657) d_Mo_understand_78 ?_
                    refine eqi (y := nI 204800) (by decide) ?_
                    refine nAdd hx hb d_Mo_understand_80 ?_
                    exact eXi (hrL (ap (dr L2) (frL f))) hx hb hr hlocks (fun w hw => by rw [hUe] at hw; cases hw; show _ = mll f 0; rw [mll_P (show f < 120 by omega), prL_1 (by omega)]; exact hel2) (congrArg (fun t => some (Value.int t)) (by rw [hUe, nI_iI]; show iI ((f : Int) + 1024 * (0 + 200)) = _; congr 1 <;> omega)) hP hD hS [0, 1, 2] rfl rfl (by decide) d_Mo_understand_81
        exact loop44 120 0 L1 _ _ _ (rfl) (hU) (lv_sub hl [0, 1, 2] rfl) (hP.sub [0, 1, 2] rfl) (hD.sub [0, 1, 2] (by decide) rfl) hS
      · exfalso; omega
    | succ j ih =>
      intro i L1 ls H locs hi hR hl hP hD hS
      have hdl := da_len (show i < 256 by omega)
      have hel := ap_dr_len L1 (daL i)
      refine lv_iload_n hx hb d_Mo_understand_2 rfl (lv_at hl 0 rfl) ?_
      refine lv_sipush (v := nI 256) hx hb d_Mo_understand_3 (by decide) ?_
      refine z_icmp_ge (tgt := 42) hx hb d_Mo_understand_6 (tI_n (by omega)) (tI_n (by omega)) (by decide) (fun g6 => ?_) (fun g6 => ?_)
      · exfalso; omega
      · refine lv_aload_n hx hb d_Mo_understand_9 rfl (lv_at hl 1 rfl) ?_
        refine lv_iload_n hx hb d_Mo_understand_10 rfl (lv_at hl 0 rfl) ?_
        refine uV (As := [.int (nI i)]) (rest := []) (wr := [(gt, .inl (ct, 2400, .inl (iN t0.1)))]) hx hb hml hown ht (c_Mo_data l dC dI z _ o gi ge gt go gb gm gl i0 e0 t0 mk L1 cl i (by first | assumption | omega)) yv_Mo_data k_601 (Nat.le_of_ble_eq_true rfl) (Nat.le_of_ble_eq_true rfl) hP hK hSS hD hS hA [0, 2] [1] [1] rfl rfl (by decide) rfl (by decide) (by decide) rfl 0 5 rfl rfl rfl hl rfl rfl (Nat.le_of_ble_eq_true rfl) (Nat.zero_le _) (Nat.zero_le _) d_Mo_understand_11 (fun H locs hP hD hS => ?_)
        have hP : va_P (dC, dI) classes [(gt, .inl (ct, 2400, .inl (iN t0.1))), (o, .inr (5, [.ref gi, .ref ge, .ref gt, .ref go, .ref gb, .ref gm, .ref gl, .int (nI i0.2), .int (nI e0.2), .int (nI t0.2), .int (nI mk), .int (nI ((ap (dr L1) (daL i)).2))])), (gl, .inl (cl, 32, .inl (iN ((ap (dr L1) (daL i)).1))))] H := hP
        have hD : va_D A [(gt, .inl (ct, 2400, .inl (iN t0.1))), (o, .inr (5, [.ref gi, .ref ge, .ref gt, .ref go, .ref gb, .ref gm, .ref gl, .int (nI i0.2), .int (nI e0.2), .int (nI t0.2), .int (nI mk), .int (nI ((ap (dr L1) (daL i)).2))])), (gl, .inl (cl, 32, .inl (iN ((ap (dr L1) (daL i)).1))))] := hD
        refine stk (st2 := []) rfl ?_
        refine lv_aload_n hx hb d_Mo_understand_14 rfl (lv_at hl 1 rfl) ?_
        refine lv_iload_n hx hb d_Mo_understand_15 rfl (lv_at hl 2 rfl) ?_
        refine uV (As := [.int (nI k)]) (rest := []) (wr := []) hx hb hml hown ht (c_Mo_here l dC dI z _ o gi ge gt go gb gm gl i0 e0 t0 mk (ap (dr L1) (daL i)) ct cl k (by first | assumption | omega) (by first | assumption | omega) (by first | assumption | omega) (ap_dr_c hdl.2) (by first | assumption | omega)) yv_Mo_here k_649 (Nat.le_of_ble_eq_true rfl) (Nat.le_of_ble_eq_true rfl) hP hK hSS hD hS hA [1, 0, 2] [] [0, 1] rfl rfl (by decide) rfl (by decide) (by decide) rfl 1 5 rfl rfl rfl hl rfl rfl (Nat.le_of_ble_eq_true rfl) (Nat.zero_le _) (Nat.zero_le _) d_Mo_understand_16 (fun H locs hP hD hS => ?_)
        have hP : va_P (dC, dI) classes [(o, .inr (5, [.ref gi, .ref ge, .ref gt, .ref go, .ref gb, .ref gm, .ref gl, .int (nI i0.2), .int (nI e0.2), .int (nI t0.2), .int (nI mk), .int (nI ((hrL (ap (dr L1) (daL i))).2))])), (gt, .inl (ct, 2400, .inl (iN t0.1))), (gl, .inl (cl, 32, .inl (iN ((hrL (ap (dr L1) (daL i))).1))))] H := hP
        have hD : va_D A [(o, .inr (5, [.ref gi, .ref ge, .ref gt, .ref go, .ref gb, .ref gm, .ref gl, .int (nI i0.2), .int (nI e0.2), .int (nI t0.2), .int (nI mk), .int (nI ((hrL (ap (dr L1) (daL i))).2))])), (gt, .inl (ct, 2400, .inl (iN t0.1))), (gl, .inl (cl, 32, .inl (iN ((hrL (ap (dr L1) (daL i))).1))))] := hD
        refine stk (st2 := [.int (bI (mBg t0 (ap1 (ap (dr L1) (daL i)) 10) k))]) rfl ?_
        refine eqi (y := bI (mL t0.1 t0.2 k (daL i ++ [10]))) (by rw [mBg_10]) ?_
        refine b_if_eq (tgt := 36) hx hb d_Mo_understand_19 (by decide) (fun g19 => ?_) (fun g19 => ?_)
        · refine lv_iinc (k := 0) (v := nI (i + 1)) (lv' := [(2, .int (nI (i + 1))), (0, .ref o), (1, .int (nI k))]) hx hb d_Mo_understand_36 hl rfl (nI_inc1 _) (Nat.le_of_ble_eq_true rfl) rfl (fun ls hl => ?_)
          refine lv_goto (tgt := 2) hx hb d_Mo_understand_39 (by decide) ?_
          exact ih (i + 1) (hrL (ap (dr L1) (daL i))) _ _ _ (by omega) (by rw [hR, unD, if_neg (by rw [g19]; decide)]) (lv_sub hl [0, 1, 2] rfl) (hP.sub [0, 1, 2] rfl) (hD.sub [0, 1, 2] (by decide) rfl) hS
        · have hUe := und_D (show unD t0.1 t0.2 k 256 0 = some i by rw [hR, unD, if_pos g19])
          refine lv_sipush (v := nI 300) hx hb d_Mo_understand_22 (by decide) ?_
          refine lv_sipush (v := nI 1024) hx hb d_Mo_understand_25 (by decide) ?_
          refine lv_iload_n hx hb d_Mo_understand_28 rfl (lv_at hl 0 rfl) ?_
          refine lv_sipush (v := nI 200) hx hb d_Mo_understand_29 (by decide) ?_
          refine nAdd hx hb d_Mo_understand_32 ?_
          refine nMul hx hb d_Mo_understand_33 ?_
          refine nAdd hx hb d_Mo_understand_34 ?_
          exact eXi (hrL (ap (dr L1) (daL i))) hx hb hr hlocks (fun w hw => by rw [hUe] at hw; cases hw; rw [mll_D]; exact hel) (congrArg (fun t => some (Value.int t)) (by rw [hUe, nI_iI]; show iI ((300 : Int) + 1024 * ((i : Int) + 200)) = _; congr 1 <;> omega)) hP hD hS [0, 1, 2] rfl rfl (by decide) d_Mo_understand_35
  exact loop2 256 0 L0 _ _ _ (rfl) (rfl) (lv_sub hl [0, 1, 2] rfl) (hP.sub [0, 1, 2] rfl) (hD.sub [0, 1, 2] (by decide) rfl) hS
