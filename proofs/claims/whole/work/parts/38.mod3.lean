set_option maxHeartbeats 4000000 in
set_option maxRecDepth 100000 in
theorem c_Mo_put (l : Launch) (dC : Nat → ClassId) (dI : Nat → Nat → Nat) (z : zT) (sz : Nat) (o : Nat) (gi : Nat) (ge : Nat) (gt : Nat) (go : Nat) (gb : Nat) (gm : Nat) (gl : Nat) (i0 : txT) (e0 : txT) (t0 : txT) (mk : Nat) (L0 : txT) (cl : ClassId) (v : Nat) (hL : L0.2 + 1 ≤ 32) : MU l y_Mo_put b_Mo_put 2 none 0 0 (dC, dI) z [.ref o, .int (nI v)] [(o, .inr (5, [.ref gi, .ref ge, .ref gt, .ref go, .ref gb, .ref gm, .ref gl, .int (nI i0.2), .int (nI e0.2), .int (nI t0.2), .int (nI mk), .int (nI L0.2)])), (gl, .inl (cl, 32, .inl (iN L0.1)))] [(cl, .int)] sz none [(o, .inr (5, [.ref gi, .ref ge, .ref gt, .ref go, .ref gb, .ref gm, .ref gl, .int (nI i0.2), .int (nI e0.2), .int (nI t0.2), .int (nI mk), .int (nI ((ap1 L0 v).2))])), (gl, .inl (cl, 32, .inl (iN ((ap1 L0 v).1))))] := by
  refine metU (by decide) (Nat.le_of_ble_eq_true rfl) ?_
  intro p e s m below meth c ls A hx hb hr hlocks hml hown ht hl hP hK hSS hD hS hA
  have hl : lv_has ls 2 [(0, .ref o), (1, .int (nI v))] := hl
  refine lv_aload_n hx hb d_Mo_put_0 rfl (lv_at hl 0 rfl) ?_
  refine va_get (D := (dC, dI)) (ci := 5) (v := .ref gl) (C := R_Mo) (T := F_Mo) (N := 12) hx hb ht in_Mo hown hK hP 0 rfl rfl 6 (by decide) (ht _ k_497) (fun _ h9 => h9) rfl d_Mo_put_1 ?_
  refine lv_aload_n hx hb d_Mo_put_4 rfl (lv_at hl 0 rfl) ?_
  refine va_get (D := (dC, dI)) (ci := 5) (v := .int (nI L0.2)) (C := R_Mo) (T := F_Mo) (N := 12) hx hb ht in_Mo hown hK hP 0 rfl rfl 11 (by decide) (ht _ k_502) (fun _ h9 => h9) rfl d_Mo_put_5 ?_
  refine lv_iload_n hx hb d_Mo_put_8 rfl (lv_at hl 1 rfl) ?_
  refine stI (q0 := 1) (t0 := 0) (w1 := [(o, .inr (5, [.ref gi, .ref ge, .ref gt, .ref go, .ref gb, .ref gm, .ref gl, .int (nI i0.2), .int (nI e0.2), .int (nI t0.2), .int (nI mk), .int (nI L0.2)])), (gl, .inl (cl, 32, .inl (iN (updN L0.1 L0.2 v))))]) hx hb d_Mo_put_9 hK hP hD hS rfl rfl (by omega) (by decide) rfl (fun H locs hP hD hS => ?_)
  refine lv_aload_n hx hb d_Mo_put_10 rfl (lv_at hl 0 rfl) ?_
  refine lv_aload_n hx hb d_Mo_put_11 rfl (lv_at hl 0 rfl) ?_
  refine va_get (D := (dC, dI)) (ci := 5) (v := .int (nI L0.2)) (C := R_Mo) (T := F_Mo) (N := 12) hx hb ht in_Mo hown hK hP 0 rfl rfl 11 (by decide) (ht _ k_502) (fun _ h9 => h9) rfl d_Mo_put_12 ?_
  refine lv_iconst (v := nI 1) hx hb d_Mo_put_15 (by decide) ?_
  refine nAdd hx hb d_Mo_put_16 ?_
  refine va_put (D := (dC, dI)) (ci := 5) (v := .int (nI (L0.2 + 1))) (ty := .int) (C := R_Mo) (T := F_Mo) (N := 12) hx hb ht in_Mo t_Mo t_Mo_ok n_Mo hown hK hP hD hS 0 rfl rfl 11 (by decide) (ht _ k_502) (fun _ h9 => h9) rfl (by decide +kernel) rfl rfl (Nat.le_of_ble_eq_true rfl) d_Mo_put_17 (fun H locs hP hD hS => ?_)
  have hP : va_P (dC, dI) classes [(o, .inr (5, [.ref gi, .ref ge, .ref gt, .ref go, .ref gb, .ref gm, .ref gl, .int (nI i0.2), .int (nI e0.2), .int (nI t0.2), .int (nI mk), .int (nI (L0.2 + 1))])), (gl, .inl (cl, 32, .inl (iN (updN L0.1 L0.2 v))))] H := hP
  have hD : va_D A [(o, .inr (5, [.ref gi, .ref ge, .ref gt, .ref go, .ref gb, .ref gm, .ref gl, .int (nI i0.2), .int (nI e0.2), .int (nI t0.2), .int (nI mk), .int (nI (L0.2 + 1))])), (gl, .inl (cl, 32, .inl (iN (updN L0.1 L0.2 v))))] := hD
  exact eUv hx hb hr hlocks hP hD hS [0, 1] rfl rfl (by decide) d_Mo_put_20

set_option maxHeartbeats 4000000 in
set_option maxRecDepth 100000 in
theorem c_Mo_name (l : Launch) (dC : Nat → ClassId) (dI : Nat → Nat → Nat) (z : zT) (sz : Nat) (o : Nat) (gi : Nat) (ge : Nat) (gt : Nat) (go : Nat) (gb : Nat) (gm : Nat) (gl : Nat) (i0 : txT) (e0 : txT) (t0 : txT) (mk : Nat) (L0 : txT) (cl : ClassId) (v1 : Nat) (v2 : Nat) (v3 : Nat) (hL : L0.2 + 3 ≤ 32) (hv3 : v3 < 1000) : MU l y_Mo_name b_Mo_name 4 none 1 21 (dC, dI) z [.ref o, .int (nI v1), .int (nI v2), .int (nI v3)] [(o, .inr (5, [.ref gi, .ref ge, .ref gt, .ref go, .ref gb, .ref gm, .ref gl, .int (nI i0.2), .int (nI e0.2), .int (nI t0.2), .int (nI mk), .int (nI L0.2)])), (gl, .inl (cl, 32, .inl (iN L0.1)))] [(cl, .int)] sz none [(o, .inr (5, [.ref gi, .ref ge, .ref gt, .ref go, .ref gb, .ref gm, .ref gl, .int (nI i0.2), .int (nI e0.2), .int (nI t0.2), .int (nI mk), .int (nI ((ap L0 (nmL v1 v2 v3)).2))])), (gl, .inl (cl, 32, .inl (iN ((ap L0 (nmL v1 v2 v3)).1))))] := by
  refine metU (by decide) (Nat.le_of_ble_eq_true rfl) ?_
  intro p e s m below meth c ls A hx hb hr hlocks hml hown ht hl hP hK hSS hD hS hA
  have hl : lv_has ls 4 [(0, .ref o), (1, .int (nI v1)), (2, .int (nI v2)), (3, .int (nI v3))] := hl
  refine lv_aload_n hx hb d_Mo_name_0 rfl (lv_at hl 0 rfl) ?_
  refine lv_iload_n hx hb d_Mo_name_1 rfl (lv_at hl 1 rfl) ?_
  refine uV (As := [.int (nI v1)]) (rest := []) (wr := []) hx hb hml hown ht (c_Mo_put l dC dI z _ o gi ge gt go gb gm gl i0 e0 t0 mk L0 cl v1 (by first | assumption | omega)) yv_Mo_put k_609 (Nat.le_of_ble_eq_true rfl) (Nat.le_of_ble_eq_true rfl) hP hK hSS hD hS hA [0, 1] [] [0] rfl rfl (by decide) rfl (by decide) (by decide) rfl 0 5 rfl rfl rfl hl rfl rfl (Nat.le_of_ble_eq_true rfl) (Nat.zero_le _) (Nat.zero_le _) d_Mo_name_2 (fun H locs hP hD hS => ?_)
  have hP : va_P (dC, dI) classes [(o, .inr (5, [.ref gi, .ref ge, .ref gt, .ref go, .ref gb, .ref gm, .ref gl, .int (nI i0.2), .int (nI e0.2), .int (nI t0.2), .int (nI mk), .int (nI ((ap1 L0 v1).2))])), (gl, .inl (cl, 32, .inl (iN ((ap1 L0 v1).1))))] H := hP
  have hD : va_D A [(o, .inr (5, [.ref gi, .ref ge, .ref gt, .ref go, .ref gb, .ref gm, .ref gl, .int (nI i0.2), .int (nI e0.2), .int (nI t0.2), .int (nI mk), .int (nI ((ap1 L0 v1).2))])), (gl, .inl (cl, 32, .inl (iN ((ap1 L0 v1).1))))] := hD
  refine stk (st2 := []) rfl ?_
  refine lv_aload_n hx hb d_Mo_name_5 rfl (lv_at hl 0 rfl) ?_
  refine lv_iload_n hx hb d_Mo_name_6 rfl (lv_at hl 2 rfl) ?_
  refine uV (As := [.int (nI v2)]) (rest := []) (wr := []) hx hb hml hown ht (c_Mo_put l dC dI z _ o gi ge gt go gb gm gl i0 e0 t0 mk (ap1 L0 v1) cl v2 (by show L0.2 + 1 + 1 ≤ 32; omega)) yv_Mo_put k_609 (Nat.le_of_ble_eq_true rfl) (Nat.le_of_ble_eq_true rfl) hP hK hSS hD hS hA [0, 1] [] [0] rfl rfl (by decide) rfl (by decide) (by decide) rfl 0 5 rfl rfl rfl hl rfl rfl (Nat.le_of_ble_eq_true rfl) (Nat.zero_le _) (Nat.zero_le _) d_Mo_name_7 (fun H locs hP hD hS => ?_)
  have hP : va_P (dC, dI) classes [(o, .inr (5, [.ref gi, .ref ge, .ref gt, .ref go, .ref gb, .ref gm, .ref gl, .int (nI i0.2), .int (nI e0.2), .int (nI t0.2), .int (nI mk), .int (nI ((ap1 (ap1 L0 v1) v2).2))])), (gl, .inl (cl, 32, .inl (iN ((ap1 (ap1 L0 v1) v2).1))))] H := hP
  have hD : va_D A [(o, .inr (5, [.ref gi, .ref ge, .ref gt, .ref go, .ref gb, .ref gm, .ref gl, .int (nI i0.2), .int (nI e0.2), .int (nI t0.2), .int (nI mk), .int (nI ((ap1 (ap1 L0 v1) v2).2))])), (gl, .inl (cl, 32, .inl (iN ((ap1 (ap1 L0 v1) v2).1))))] := hD
  refine stk (st2 := []) rfl ?_
  refine lv_iload_n hx hb d_Mo_name_10 rfl (lv_at hl 3 rfl) ?_
  refine z_if_le (tgt := 19) hx hb d_Mo_name_11 (tI_n (by omega)) (by decide) (fun g11 => ?_) (fun g11 => ?_)
  · rw [nmL, if_neg (by omega)]
    exact eUv hx hb hr hlocks hP hD hS [0, 1] rfl rfl (by decide) d_Mo_name_19
  · refine lv_aload_n hx hb d_Mo_name_14 rfl (lv_at hl 0 rfl) ?_
    refine lv_iload_n hx hb d_Mo_name_15 rfl (lv_at hl 3 rfl) ?_
    refine uV (As := [.int (nI v3)]) (rest := []) (wr := []) hx hb hml hown ht (c_Mo_put l dC dI z _ o gi ge gt go gb gm gl i0 e0 t0 mk (ap1 (ap1 L0 v1) v2) cl v3 (by show L0.2 + 1 + 1 + 1 ≤ 32; omega)) yv_Mo_put k_609 (Nat.le_of_ble_eq_true rfl) (Nat.le_of_ble_eq_true rfl) hP hK hSS hD hS hA [0, 1] [] [0] rfl rfl (by decide) rfl (by decide) (by decide) rfl 0 5 rfl rfl rfl hl rfl rfl (Nat.le_of_ble_eq_true rfl) (Nat.zero_le _) (Nat.zero_le _) d_Mo_name_16 (fun H locs hP hD hS => ?_)
    have hP : va_P (dC, dI) classes [(o, .inr (5, [.ref gi, .ref ge, .ref gt, .ref go, .ref gb, .ref gm, .ref gl, .int (nI i0.2), .int (nI e0.2), .int (nI t0.2), .int (nI mk), .int (nI ((ap1 (ap1 (ap1 L0 v1) v2) v3).2))])), (gl, .inl (cl, 32, .inl (iN ((ap1 (ap1 (ap1 L0 v1) v2) v3).1))))] H := hP
    have hD : va_D A [(o, .inr (5, [.ref gi, .ref ge, .ref gt, .ref go, .ref gb, .ref gm, .ref gl, .int (nI i0.2), .int (nI e0.2), .int (nI t0.2), .int (nI mk), .int (nI ((ap1 (ap1 (ap1 L0 v1) v2) v3).2))])), (gl, .inl (cl, 32, .inl (iN ((ap1 (ap1 (ap1 L0 v1) v2) v3).1))))] := hD
    refine stk (st2 := []) rfl ?_
    rw [nmL, if_pos (by omega)]
    exact eUv hx hb hr hlocks hP hD hS [0, 1] rfl rfl (by decide) d_Mo_name_19

set_option maxHeartbeats 4000000 in
set_option maxRecDepth 100000 in
theorem c_Mo_number (l : Launch) (dC : Nat → ClassId) (dI : Nat → Nat → Nat) (z : zT) (sz : Nat) (o : Nat) (gi : Nat) (ge : Nat) (gt : Nat) (go : Nat) (gb : Nat) (gm : Nat) (gl : Nat) (i0 : txT) (e0 : txT) (t0 : txT) (mk : Nat) (L0 : txT) (cl : ClassId) (v : Int) (hL : L0.2 + 6 ≤ 32) (hv1 : -65536 ≤ v) (hv2 : v ≤ 65536) : MU l y_Mo_number b_Mo_number 3 none 1 21 (dC, dI) z [.ref o, .int (iI v)] [(o, .inr (5, [.ref gi, .ref ge, .ref gt, .ref go, .ref gb, .ref gm, .ref gl, .int (nI i0.2), .int (nI e0.2), .int (nI t0.2), .int (nI mk), .int (nI L0.2)])), (gl, .inl (cl, 32, .inl (iN L0.1)))] [(cl, .int)] sz none [(o, .inr (5, [.ref gi, .ref ge, .ref gt, .ref go, .ref gb, .ref gm, .ref gl, .int (nI i0.2), .int (nI e0.2), .int (nI t0.2), .int (nI mk), .int (nI ((ap L0 (mnu v)).2))])), (gl, .inl (cl, 32, .inl (iN ((ap L0 (mnu v)).1))))] := by
  have hua : v.natAbs ≤ 65536 := by omega
  refine metU (by decide) (Nat.le_of_ble_eq_true rfl) ?_
  intro p e s m below meth c ls A hx hb hr hlocks hml hown ht hl hP hK hSS hD hS hA
  have hl : lv_has ls 3 [(0, .ref o), (1, .int (iI v))] := hl
  have cut10 : ∀  (ls : Array Slot) (H : Heap) (locs : List Loc), lv_has ls 3 [(0, .ref o), (1, .int (iI v))] → va_P (dC, dI) classes [(o, .inr (5, [.ref gi, .ref ge, .ref gt, .ref go, .ref gb, .ref gm, .ref gl, .int (nI i0.2), .int (nI e0.2), .int (nI t0.2), .int (nI mk), .int (nI L0.2)])), (gl, .inl (cl, 32, .inl (iN L0.1)))] H → va_D A [(o, .inr (5, [.ref gi, .ref ge, .ref gt, .ref go, .ref gb, .ref gm, .ref gl, .int (nI i0.2), .int (nI e0.2), .int (nI t0.2), .int (nI mk), .int (nI L0.2)])), (gl, .inl (cl, 32, .inl (iN L0.1)))] → va_S A s.heap H locs → W p l e (rmq 1 21) s m [.ref o, .int (iI v)].toArray below meth c H locs 0 0 (MQ below (qcU none (dC, dI) [(o, .inr (5, [.ref gi, .ref ge, .ref gt, .ref go, .ref gb, .ref gm, .ref gl, .int (nI i0.2), .int (nI e0.2), .int (nI t0.2), .int (nI mk), .int (nI ((ap L0 (mnu v)).2))])), (gl, .inl (cl, 32, .inl (iN ((ap L0 (mnu v)).1))))] A) [.ref o, .int (iI v)].toArray s 0 0 A) (F0 m 10 ls [.int (nI v.natAbs)]) := by
    intro  ls H locs  hl hP hD hS
    refine lv_istore_n (lv' := [(2, .int (nI v.natAbs)), (0, .ref o), (1, .int (iI v))]) hx hb d_Mo_number_10 rfl hl (Nat.le_of_ble_eq_true rfl) rfl (fun ls hl => ?_)
    have cut21 : ∀  (L1 : txT) (ls : Array Slot) (H : Heap) (locs : List Loc), (ap L0 (mnu v) = ap L1 ((if 9999 < v.natAbs then [48 + v.natAbs / 10000] else []) ++ ((if 999 < v.natAbs then [48 + v.natAbs / 1000 % 10] else []) ++ ((if 99 < v.natAbs then [48 + v.natAbs / 100 % 10] else []) ++ ((if 9 < v.natAbs then [48 + v.natAbs / 10 % 10] else []) ++ [48 + v.natAbs % 10]))))) → (L1.2 ≤ L0.2 + 1) → lv_has ls 3 [(2, .int (nI v.natAbs)), (0, .ref o), (1, .int (iI v))] → va_P (dC, dI) classes [(o, .inr (5, [.ref gi, .ref ge, .ref gt, .ref go, .ref gb, .ref gm, .ref gl, .int (nI i0.2), .int (nI e0.2), .int (nI t0.2), .int (nI mk), .int (nI L1.2)])), (gl, .inl (cl, 32, .inl (iN L1.1)))] H → va_D A [(o, .inr (5, [.ref gi, .ref ge, .ref gt, .ref go, .ref gb, .ref gm, .ref gl, .int (nI i0.2), .int (nI e0.2), .int (nI t0.2), .int (nI mk), .int (nI L1.2)])), (gl, .inl (cl, 32, .inl (iN L1.1)))] → va_S A s.heap H locs → W p l e (rmq 1 21) s m [.ref o, .int (iI v)].toArray below meth c H locs 0 0 (MQ below (qcU none (dC, dI) [(o, .inr (5, [.ref gi, .ref ge, .ref gt, .ref go, .ref gb, .ref gm, .ref gl, .int (nI i0.2), .int (nI e0.2), .int (nI t0.2), .int (nI mk), .int (nI ((ap L0 (mnu v)).2))])), (gl, .inl (cl, 32, .inl (iN ((ap L0 (mnu v)).1))))] A) [.ref o, .int (iI v)].toArray s 0 0 A) (F0 m 21 ls []) := by
      intro L1 ls H locs hR1 hl1 hl hP hD hS
      have cut40 : ∀  (L2 : txT) (ls : Array Slot) (H : Heap) (locs : List Loc), (ap L0 (mnu v) = ap L2 ((if 999 < v.natAbs then [48 + v.natAbs / 1000 % 10] else []) ++ ((if 99 < v.natAbs then [48 + v.natAbs / 100 % 10] else []) ++ ((if 9 < v.natAbs then [48 + v.natAbs / 10 % 10] else []) ++ [48 + v.natAbs % 10])))) → (L2.2 ≤ L0.2 + 2) → lv_has ls 3 [(2, .int (nI v.natAbs)), (0, .ref o), (1, .int (iI v))] → va_P (dC, dI) classes [(o, .inr (5, [.ref gi, .ref ge, .ref gt, .ref go, .ref gb, .ref gm, .ref gl, .int (nI i0.2), .int (nI e0.2), .int (nI t0.2), .int (nI mk), .int (nI L2.2)])), (gl, .inl (cl, 32, .inl (iN L2.1)))] H → va_D A [(o, .inr (5, [.ref gi, .ref ge, .ref gt, .ref go, .ref gb, .ref gm, .ref gl, .int (nI i0.2), .int (nI e0.2), .int (nI t0.2), .int (nI mk), .int (nI L2.2)])), (gl, .inl (cl, 32, .inl (iN L2.1)))] → va_S A s.heap H locs → W p l e (rmq 1 21) s m [.ref o, .int (iI v)].toArray below meth c H locs 0 0 (MQ below (qcU none (dC, dI) [(o, .inr (5, [.ref gi, .ref ge, .ref gt, .ref go, .ref gb, .ref gm, .ref gl, .int (nI i0.2), .int (nI e0.2), .int (nI t0.2), .int (nI mk), .int (nI ((ap L0 (mnu v)).2))])), (gl, .inl (cl, 32, .inl (iN ((ap L0 (mnu v)).1))))] A) [.ref o, .int (iI v)].toArray s 0 0 A) (F0 m 40 ls []) := by
        intro L2 ls H locs hR2 hl2 hl hP hD hS
        have cut62 : ∀  (L3 : txT) (ls : Array Slot) (H : Heap) (locs : List Loc), (ap L0 (mnu v) = ap L3 ((if 99 < v.natAbs then [48 + v.natAbs / 100 % 10] else []) ++ ((if 9 < v.natAbs then [48 + v.natAbs / 10 % 10] else []) ++ [48 + v.natAbs % 10]))) → (L3.2 ≤ L0.2 + 3) → lv_has ls 3 [(2, .int (nI v.natAbs)), (0, .ref o), (1, .int (iI v))] → va_P (dC, dI) classes [(o, .inr (5, [.ref gi, .ref ge, .ref gt, .ref go, .ref gb, .ref gm, .ref gl, .int (nI i0.2), .int (nI e0.2), .int (nI t0.2), .int (nI mk), .int (nI L3.2)])), (gl, .inl (cl, 32, .inl (iN L3.1)))] H → va_D A [(o, .inr (5, [.ref gi, .ref ge, .ref gt, .ref go, .ref gb, .ref gm, .ref gl, .int (nI i0.2), .int (nI e0.2), .int (nI t0.2), .int (nI mk), .int (nI L3.2)])), (gl, .inl (cl, 32, .inl (iN L3.1)))] → va_S A s.heap H locs → W p l e (rmq 1 21) s m [.ref o, .int (iI v)].toArray below meth c H locs 0 0 (MQ below (qcU none (dC, dI) [(o, .inr (5, [.ref gi, .ref ge, .ref gt, .ref go, .ref gb, .ref gm, .ref gl, .int (nI i0.2), .int (nI e0.2), .int (nI t0.2), .int (nI mk), .int (nI ((ap L0 (mnu v)).2))])), (gl, .inl (cl, 32, .inl (iN ((ap L0 (mnu v)).1))))] A) [.ref o, .int (iI v)].toArray s 0 0 A) (F0 m 62 ls []) := by
          intro L3 ls H locs hR3 hl3 hl hP hD hS
          have cut82 : ∀  (L4 : txT) (ls : Array Slot) (H : Heap) (locs : List Loc), (ap L0 (mnu v) = ap L4 ((if 9 < v.natAbs then [48 + v.natAbs / 10 % 10] else []) ++ [48 + v.natAbs % 10])) → (L4.2 ≤ L0.2 + 4) → lv_has ls 3 [(2, .int (nI v.natAbs)), (0, .ref o), (1, .int (iI v))] → va_P (dC, dI) classes [(o, .inr (5, [.ref gi, .ref ge, .ref gt, .ref go, .ref gb, .ref gm, .ref gl, .int (nI i0.2), .int (nI e0.2), .int (nI t0.2), .int (nI mk), .int (nI L4.2)])), (gl, .inl (cl, 32, .inl (iN L4.1)))] H → va_D A [(o, .inr (5, [.ref gi, .ref ge, .ref gt, .ref go, .ref gb, .ref gm, .ref gl, .int (nI i0.2), .int (nI e0.2), .int (nI t0.2), .int (nI mk), .int (nI L4.2)])), (gl, .inl (cl, 32, .inl (iN L4.1)))] → va_S A s.heap H locs → W p l e (rmq 1 21) s m [.ref o, .int (iI v)].toArray below meth c H locs 0 0 (MQ below (qcU none (dC, dI) [(o, .inr (5, [.ref gi, .ref ge, .ref gt, .ref go, .ref gb, .ref gm, .ref gl, .int (nI i0.2), .int (nI e0.2), .int (nI t0.2), .int (nI mk), .int (nI ((ap L0 (mnu v)).2))])), (gl, .inl (cl, 32, .inl (iN ((ap L0 (mnu v)).1))))] A) [.ref o, .int (iI v)].toArray s 0 0 A) (F0 m 82 ls []) := by
            intro L4 ls H locs hR4 hl4 hl hP hD hS
            have cut102 : ∀  (L5 : txT) (ls : Array Slot) (H : Heap) (locs : List Loc), (ap L0 (mnu v) = ap L5 [48 + v.natAbs % 10]) → (L5.2 ≤ L0.2 + 5) → lv_has ls 3 [(2, .int (nI v.natAbs)), (0, .ref o), (1, .int (iI v))] → va_P (dC, dI) classes [(o, .inr (5, [.ref gi, .ref ge, .ref gt, .ref go, .ref gb, .ref gm, .ref gl, .int (nI i0.2), .int (nI e0.2), .int (nI t0.2), .int (nI mk), .int (nI L5.2)])), (gl, .inl (cl, 32, .inl (iN L5.1)))] H → va_D A [(o, .inr (5, [.ref gi, .ref ge, .ref gt, .ref go, .ref gb, .ref gm, .ref gl, .int (nI i0.2), .int (nI e0.2), .int (nI t0.2), .int (nI mk), .int (nI L5.2)])), (gl, .inl (cl, 32, .inl (iN L5.1)))] → va_S A s.heap H locs → W p l e (rmq 1 21) s m [.ref o, .int (iI v)].toArray below meth c H locs 0 0 (MQ below (qcU none (dC, dI) [(o, .inr (5, [.ref gi, .ref ge, .ref gt, .ref go, .ref gb, .ref gm, .ref gl, .int (nI i0.2), .int (nI e0.2), .int (nI t0.2), .int (nI mk), .int (nI ((ap L0 (mnu v)).2))])), (gl, .inl (cl, 32, .inl (iN ((ap L0 (mnu v)).1))))] A) [.ref o, .int (iI v)].toArray s 0 0 A) (F0 m 102 ls []) := by
              intro L5 ls H locs hR5 hl5 hl hP hD hS
              refine lv_aload_n hx hb d_Mo_number_102 rfl (lv_at hl 1 rfl) ?_
              refine lv_bipush (v := nI 48) hx hb d_Mo_number_103 (by decide) ?_
              refine lv_iload_n hx hb d_Mo_number_105 rfl (lv_at hl 0 rfl) ?_
              refine lv_bipush (v := nI 10) hx hb d_Mo_number_106 (by decide) ?_
              refine nRem hx hb d_Mo_number_108 (by omega) (by omega) (by omega) ?_
              refine nAdd hx hb d_Mo_number_109 ?_
              refine uV (As := [.int (nI (48 + (v.natAbs % 10)))]) (rest := []) (wr := []) hx hb hml hown ht (c_Mo_put l dC dI z _ o gi ge gt go gb gm gl i0 e0 t0 mk L5 cl (48 + (v.natAbs % 10)) (by first | assumption | omega)) yv_Mo_put k_609 (Nat.le_of_ble_eq_true rfl) (Nat.le_of_ble_eq_true rfl) hP hK hSS hD hS hA [0, 1] [] [0] rfl rfl (by decide) rfl (by decide) (by decide) rfl 0 5 rfl rfl rfl hl rfl rfl (Nat.le_of_ble_eq_true rfl) (Nat.zero_le _) (Nat.zero_le _) d_Mo_number_110 (fun H locs hP hD hS => ?_)
              have hP : va_P (dC, dI) classes [(o, .inr (5, [.ref gi, .ref ge, .ref gt, .ref go, .ref gb, .ref gm, .ref gl, .int (nI i0.2), .int (nI e0.2), .int (nI t0.2), .int (nI mk), .int (nI ((ap1 L5 (48 + (v.natAbs % 10))).2))])), (gl, .inl (cl, 32, .inl (iN ((ap1 L5 (48 + (v.natAbs % 10))).1))))] H := hP
              have hD : va_D A [(o, .inr (5, [.ref gi, .ref ge, .ref gt, .ref go, .ref gb, .ref gm, .ref gl, .int (nI i0.2), .int (nI e0.2), .int (nI t0.2), .int (nI mk), .int (nI ((ap1 L5 (48 + (v.natAbs % 10))).2))])), (gl, .inl (cl, 32, .inl (iN ((ap1 L5 (48 + (v.natAbs % 10))).1))))] := hD
              refine stk (st2 := []) rfl ?_
              rw [hR5]
              exact eUv hx hb hr hlocks hP hD hS [0, 1] rfl rfl (by decide) d_Mo_number_113
            refine lv_iload_n hx hb d_Mo_number_82 rfl (lv_at hl 0 rfl) ?_
            refine lv_bipush (v := nI 9) hx hb d_Mo_number_83 (by decide) ?_
            refine z_icmp_le (tgt := 102) hx hb d_Mo_number_85 (tI_n (by omega)) (tI_n (by omega)) (by decide) (fun g85 => ?_) (fun g85 => ?_)
            · exact cut102 L4 _ _ _ (by rw [hR4, if_neg (by omega)]; rfl) (by omega) (lv_sub hl [0, 1, 2] rfl) (hP.sub [0, 1] rfl) (hD.sub [0, 1] (by decide) rfl) hS
            · refine lv_aload_n hx hb d_Mo_number_88 rfl (lv_at hl 1 rfl) ?_
              refine lv_bipush (v := nI 48) hx hb d_Mo_number_89 (by decide) ?_
              refine lv_iload_n hx hb d_Mo_number_91 rfl (lv_at hl 0 rfl) ?_
              refine lv_bipush (v := nI 10) hx hb d_Mo_number_92 (by decide) ?_
              refine nDiv hx hb d_Mo_number_94 (by omega) (by omega) (by omega) ?_
              refine lv_bipush (v := nI 10) hx hb d_Mo_number_95 (by decide) ?_
              refine nRem hx hb d_Mo_number_97 (by omega) (by omega) (by omega) ?_
              refine nAdd hx hb d_Mo_number_98 ?_
              refine uV (As := [.int (nI (48 + ((v.natAbs / 10) % 10)))]) (rest := []) (wr := []) hx hb hml hown ht (c_Mo_put l dC dI z _ o gi ge gt go gb gm gl i0 e0 t0 mk L4 cl (48 + ((v.natAbs / 10) % 10)) (by first | assumption | omega)) yv_Mo_put k_609 (Nat.le_of_ble_eq_true rfl) (Nat.le_of_ble_eq_true rfl) hP hK hSS hD hS hA [0, 1] [] [0] rfl rfl (by decide) rfl (by decide) (by decide) rfl 0 5 rfl rfl rfl hl rfl rfl (Nat.le_of_ble_eq_true rfl) (Nat.zero_le _) (Nat.zero_le _) d_Mo_number_99 (fun H locs hP hD hS => ?_)
              have hP : va_P (dC, dI) classes [(o, .inr (5, [.ref gi, .ref ge, .ref gt, .ref go, .ref gb, .ref gm, .ref gl, .int (nI i0.2), .int (nI e0.2), .int (nI t0.2), .int (nI mk), .int (nI ((ap1 L4 (48 + ((v.natAbs / 10) % 10))).2))])), (gl, .inl (cl, 32, .inl (iN ((ap1 L4 (48 + ((v.natAbs / 10) % 10))).1))))] H := hP
              have hD : va_D A [(o, .inr (5, [.ref gi, .ref ge, .ref gt, .ref go, .ref gb, .ref gm, .ref gl, .int (nI i0.2), .int (nI e0.2), .int (nI t0.2), .int (nI mk), .int (nI ((ap1 L4 (48 + ((v.natAbs / 10) % 10))).2))])), (gl, .inl (cl, 32, .inl (iN ((ap1 L4 (48 + ((v.natAbs / 10) % 10))).1))))] := hD
              refine stk (st2 := []) rfl ?_
              exact cut102 (ap1 L4 (48 + ((v.natAbs / 10) % 10))) _ _ _ (by rw [hR4, if_pos (by omega)]; rfl) (by show L4.2 + 1 ≤ _; omega) (lv_sub hl [0, 1, 2] rfl) (hP.sub [0, 1] rfl) (hD.sub [0, 1] (by decide) rfl) hS
          refine lv_iload_n hx hb d_Mo_number_62 rfl (lv_at hl 0 rfl) ?_
          refine lv_bipush (v := nI 99) hx hb d_Mo_number_63 (by decide) ?_
          refine z_icmp_le (tgt := 82) hx hb d_Mo_number_65 (tI_n (by omega)) (tI_n (by omega)) (by decide) (fun g65 => ?_) (fun g65 => ?_)
          · exact cut82 L3 _ _ _ (by rw [hR3, if_neg (by omega)]; rfl) (by omega) (lv_sub hl [0, 1, 2] rfl) (hP.sub [0, 1] rfl) (hD.sub [0, 1] (by decide) rfl) hS
          · refine lv_aload_n hx hb d_Mo_number_68 rfl (lv_at hl 1 rfl) ?_
            refine lv_bipush (v := nI 48) hx hb d_Mo_number_69 (by decide) ?_
            refine lv_iload_n hx hb d_Mo_number_71 rfl (lv_at hl 0 rfl) ?_
            refine lv_bipush (v := nI 100) hx hb d_Mo_number_72 (by decide) ?_
            refine nDiv hx hb d_Mo_number_74 (by omega) (by omega) (by omega) ?_
            refine lv_bipush (v := nI 10) hx hb d_Mo_number_75 (by decide) ?_
            refine nRem hx hb d_Mo_number_77 (by omega) (by omega) (by omega) ?_
            refine nAdd hx hb d_Mo_number_78 ?_
            refine uV (As := [.int (nI (48 + ((v.natAbs / 100) % 10)))]) (rest := []) (wr := []) hx hb hml hown ht (c_Mo_put l dC dI z _ o gi ge gt go gb gm gl i0 e0 t0 mk L3 cl (48 + ((v.natAbs / 100) % 10)) (by first | assumption | omega)) yv_Mo_put k_609 (Nat.le_of_ble_eq_true rfl) (Nat.le_of_ble_eq_true rfl) hP hK hSS hD hS hA [0, 1] [] [0] rfl rfl (by decide) rfl (by decide) (by decide) rfl 0 5 rfl rfl rfl hl rfl rfl (Nat.le_of_ble_eq_true rfl) (Nat.zero_le _) (Nat.zero_le _) d_Mo_number_79 (fun H locs hP hD hS => ?_)
            have hP : va_P (dC, dI) classes [(o, .inr (5, [.ref gi, .ref ge, .ref gt, .ref go, .ref gb, .ref gm, .ref gl, .int (nI i0.2), .int (nI e0.2), .int (nI t0.2), .int (nI mk), .int (nI ((ap1 L3 (48 + ((v.natAbs / 100) % 10))).2))])), (gl, .inl (cl, 32, .inl (iN ((ap1 L3 (48 + ((v.natAbs / 100) % 10))).1))))] H := hP
            have hD : va_D A [(o, .inr (5, [.ref gi, .ref ge, .ref gt, .ref go, .ref gb, .ref gm, .ref gl, .int (nI i0.2), .int (nI e0.2), .int (nI t0.2), .int (nI mk), .int (nI ((ap1 L3 (48 + ((v.natAbs / 100) % 10))).2))])), (gl, .inl (cl, 32, .inl (iN ((ap1 L3 (48 + ((v.natAbs / 100) % 10))).1))))] := hD
            refine stk (st2 := []) rfl ?_
            exact cut82 (ap1 L3 (48 + ((v.natAbs / 100) % 10))) _ _ _ (by rw [hR3, if_pos (by omega)]; rfl) (by show L3.2 + 1 ≤ _; omega) (lv_sub hl [0, 1, 2] rfl) (hP.sub [0, 1] rfl) (hD.sub [0, 1] (by decide) rfl) hS
        refine lv_iload_n hx hb d_Mo_number_40 rfl (lv_at hl 0 rfl) ?_
        refine lv_sipush (v := nI 999) hx hb d_Mo_number_41 (by decide) ?_
        refine z_icmp_le (tgt := 62) hx hb d_Mo_number_44 (tI_n (by omega)) (tI_n (by omega)) (by decide) (fun g44 => ?_) (fun g44 => ?_)
        · exact cut62 L2 _ _ _ (by rw [hR2, if_neg (by omega)]; rfl) (by omega) (lv_sub hl [0, 1, 2] rfl) (hP.sub [0, 1] rfl) (hD.sub [0, 1] (by decide) rfl) hS
        · refine lv_aload_n hx hb d_Mo_number_47 rfl (lv_at hl 1 rfl) ?_
          refine lv_bipush (v := nI 48) hx hb d_Mo_number_48 (by decide) ?_
          refine lv_iload_n hx hb d_Mo_number_50 rfl (lv_at hl 0 rfl) ?_
          refine lv_sipush (v := nI 1000) hx hb d_Mo_number_51 (by decide) ?_
          refine nDiv hx hb d_Mo_number_54 (by omega) (by omega) (by omega) ?_
          refine lv_bipush (v := nI 10) hx hb d_Mo_number_55 (by decide) ?_
          refine nRem hx hb d_Mo_number_57 (by omega) (by omega) (by omega) ?_
          refine nAdd hx hb d_Mo_number_58 ?_
          refine uV (As := [.int (nI (48 + ((v.natAbs / 1000) % 10)))]) (rest := []) (wr := []) hx hb hml hown ht (c_Mo_put l dC dI z _ o gi ge gt go gb gm gl i0 e0 t0 mk L2 cl (48 + ((v.natAbs / 1000) % 10)) (by first | assumption | omega)) yv_Mo_put k_609 (Nat.le_of_ble_eq_true rfl) (Nat.le_of_ble_eq_true rfl) hP hK hSS hD hS hA [0, 1] [] [0] rfl rfl (by decide) rfl (by decide) (by decide) rfl 0 5 rfl rfl rfl hl rfl rfl (Nat.le_of_ble_eq_true rfl) (Nat.zero_le _) (Nat.zero_le _) d_Mo_number_59 (fun H locs hP hD hS => ?_)
          have hP : va_P (dC, dI) classes [(o, .inr (5, [.ref gi, .ref ge, .ref gt, .ref go, .ref gb, .ref gm, .ref gl, .int (nI i0.2), .int (nI e0.2), .int (nI t0.2), .int (nI mk), .int (nI ((ap1 L2 (48 + ((v.natAbs / 1000) % 10))).2))])), (gl, .inl (cl, 32, .inl (iN ((ap1 L2 (48 + ((v.natAbs / 1000) % 10))).1))))] H := hP
          have hD : va_D A [(o, .inr (5, [.ref gi, .ref ge, .ref gt, .ref go, .ref gb, .ref gm, .ref gl, .int (nI i0.2), .int (nI e0.2), .int (nI t0.2), .int (nI mk), .int (nI ((ap1 L2 (48 + ((v.natAbs / 1000) % 10))).2))])), (gl, .inl (cl, 32, .inl (iN ((ap1 L2 (48 + ((v.natAbs / 1000) % 10))).1))))] := hD
          refine stk (st2 := []) rfl ?_
          exact cut62 (ap1 L2 (48 + ((v.natAbs / 1000) % 10))) _ _ _ (by rw [hR2, if_pos (by omega)]; rfl) (by show L2.2 + 1 ≤ _; omega) (lv_sub hl [0, 1, 2] rfl) (hP.sub [0, 1] rfl) (hD.sub [0, 1] (by decide) rfl) hS
      refine lv_iload_n hx hb d_Mo_number_21 rfl (lv_at hl 0 rfl) ?_
      refine lv_sipush (v := nI 9999) hx hb d_Mo_number_22 (by decide) ?_
      refine z_icmp_le (tgt := 40) hx hb d_Mo_number_25 (tI_n (by omega)) (tI_n (by omega)) (by decide) (fun g25 => ?_) (fun g25 => ?_)
      · exact cut40 L1 _ _ _ (by rw [hR1, if_neg (by omega)]; rfl) (by omega) (lv_sub hl [0, 1, 2] rfl) (hP.sub [0, 1] rfl) (hD.sub [0, 1] (by decide) rfl) hS
      · refine lv_aload_n hx hb d_Mo_number_28 rfl (lv_at hl 1 rfl) ?_
        refine lv_bipush (v := nI 48) hx hb d_Mo_number_29 (by decide) ?_
        refine lv_iload_n hx hb d_Mo_number_31 rfl (lv_at hl 0 rfl) ?_
        refine lv_sipush (v := nI 10000) hx hb d_Mo_number_32 (by decide) ?_
        refine nDiv hx hb d_Mo_number_35 (by omega) (by omega) (by omega) ?_
        refine nAdd hx hb d_Mo_number_36 ?_
        refine uV (As := [.int (nI (48 + (v.natAbs / 10000)))]) (rest := []) (wr := []) hx hb hml hown ht (c_Mo_put l dC dI z _ o gi ge gt go gb gm gl i0 e0 t0 mk L1 cl (48 + (v.natAbs / 10000)) (by first | assumption | omega)) yv_Mo_put k_609 (Nat.le_of_ble_eq_true rfl) (Nat.le_of_ble_eq_true rfl) hP hK hSS hD hS hA [0, 1] [] [0] rfl rfl (by decide) rfl (by decide) (by decide) rfl 0 5 rfl rfl rfl hl rfl rfl (Nat.le_of_ble_eq_true rfl) (Nat.zero_le _) (Nat.zero_le _) d_Mo_number_37 (fun H locs hP hD hS => ?_)
        have hP : va_P (dC, dI) classes [(o, .inr (5, [.ref gi, .ref ge, .ref gt, .ref go, .ref gb, .ref gm, .ref gl, .int (nI i0.2), .int (nI e0.2), .int (nI t0.2), .int (nI mk), .int (nI ((ap1 L1 (48 + (v.natAbs / 10000))).2))])), (gl, .inl (cl, 32, .inl (iN ((ap1 L1 (48 + (v.natAbs / 10000))).1))))] H := hP
        have hD : va_D A [(o, .inr (5, [.ref gi, .ref ge, .ref gt, .ref go, .ref gb, .ref gm, .ref gl, .int (nI i0.2), .int (nI e0.2), .int (nI t0.2), .int (nI mk), .int (nI ((ap1 L1 (48 + (v.natAbs / 10000))).2))])), (gl, .inl (cl, 32, .inl (iN ((ap1 L1 (48 + (v.natAbs / 10000))).1))))] := hD
        refine stk (st2 := []) rfl ?_
        exact cut40 (ap1 L1 (48 + (v.natAbs / 10000))) _ _ _ (by rw [hR1, if_pos (by omega)]; rfl) (by show L1.2 + 1 ≤ _; omega) (lv_sub hl [0, 1, 2] rfl) (hP.sub [0, 1] rfl) (hD.sub [0, 1] (by decide) rfl) hS
    refine lv_iload_n hx hb d_Mo_number_11 rfl (lv_at hl 2 rfl) ?_
    refine z_if_ge (tgt := 21) hx hb d_Mo_number_12 (iI_toInt (by omega) (by omega)) (by decide) (fun g12 => ?_) (fun g12 => ?_)
    · exact cut21 L0 _ _ _ (by rw [mnu, if_neg (by omega)]; rfl) (by omega) (lv_sub hl [0, 1, 2] rfl) (hP.sub [0, 1] rfl) (hD.sub [0, 1] (by decide) rfl) hS
    · refine lv_aload_n hx hb d_Mo_number_15 rfl (lv_at hl 1 rfl) ?_
      refine lv_bipush (v := nI 45) hx hb d_Mo_number_16 (by decide) ?_
      refine uV (As := [.int (nI 45)]) (rest := []) (wr := []) hx hb hml hown ht (c_Mo_put l dC dI z _ o gi ge gt go gb gm gl i0 e0 t0 mk L0 cl 45 (by first | assumption | omega)) yv_Mo_put k_609 (Nat.le_of_ble_eq_true rfl) (Nat.le_of_ble_eq_true rfl) hP hK hSS hD hS hA [0, 1] [] [0] rfl rfl (by decide) rfl (by decide) (by decide) rfl 0 5 rfl rfl rfl hl rfl rfl (Nat.le_of_ble_eq_true rfl) (Nat.zero_le _) (Nat.zero_le _) d_Mo_number_18 (fun H locs hP hD hS => ?_)
      have hP : va_P (dC, dI) classes [(o, .inr (5, [.ref gi, .ref ge, .ref gt, .ref go, .ref gb, .ref gm, .ref gl, .int (nI i0.2), .int (nI e0.2), .int (nI t0.2), .int (nI mk), .int (nI ((ap1 L0 45).2))])), (gl, .inl (cl, 32, .inl (iN ((ap1 L0 45).1))))] H := hP
      have hD : va_D A [(o, .inr (5, [.ref gi, .ref ge, .ref gt, .ref go, .ref gb, .ref gm, .ref gl, .int (nI i0.2), .int (nI e0.2), .int (nI t0.2), .int (nI mk), .int (nI ((ap1 L0 45).2))])), (gl, .inl (cl, 32, .inl (iN ((ap1 L0 45).1))))] := hD
      refine stk (st2 := []) rfl ?_
      exact cut21 (ap1 L0 45) _ _ _ (by rw [mnu, if_pos (by omega)]; rfl) (by show L0.2 + 1 ≤ _; omega) (lv_sub hl [0, 1, 2] rfl) (hP.sub [0, 1] rfl) (hD.sub [0, 1] (by decide) rfl) hS
  refine lv_iload_n hx hb d_Mo_number_0 rfl (lv_at hl 1 rfl) ?_
  refine z_if_ge (tgt := 9) hx hb d_Mo_number_1 (iI_toInt (by omega) (by omega)) (by decide) (fun g1 => ?_) (fun g1 => ?_)
  · refine lv_iload_n hx hb d_Mo_number_9 rfl (lv_at hl 1 rfl) ?_
    refine eqi (y := nI v.natAbs) (by rw [nI_iI]; congr 1; omega) ?_
    exact cut10  _ _ _  (lv_sub hl [0, 1] rfl) (hP.sub [0, 1] rfl) (hD.sub [0, 1] (by decide) rfl) hS
  · refine lv_iload_n hx hb d_Mo_number_4 rfl (lv_at hl 1 rfl) ?_
    refine zNeg hx hb d_Mo_number_5 ?_
    refine eqi (y := nI v.natAbs) (by rw [nI_iI]; congr 1; omega) ?_
    refine lv_goto (tgt := 10) hx hb d_Mo_number_6 (by decide) ?_
    exact cut10  _ _ _  (lv_sub hl [0, 1] rfl) (hP.sub [0, 1] rfl) (hD.sub [0, 1] (by decide) rfl) hS

set_option maxHeartbeats 4000000 in
set_option maxRecDepth 100000 in
theorem c_Mo_register (l : Launch) (dC : Nat → ClassId) (dI : Nat → Nat → Nat) (z : zT) (sz : Nat) (o : Nat) (gi : Nat) (ge : Nat) (gt : Nat) (go : Nat) (gb : Nat) (gm : Nat) (gl : Nat) (i0 : txT) (e0 : txT) (t0 : txT) (mk : Nat) (L0 : txT) (cl : ClassId) (g : Nat) (hL : L0.2 + 2 ≤ 32) (hg : g < 100) : MU l y_Mo_register b_Mo_register 2 none 1 21 (dC, dI) z [.ref o, .int (nI g)] [(o, .inr (5, [.ref gi, .ref ge, .ref gt, .ref go, .ref gb, .ref gm, .ref gl, .int (nI i0.2), .int (nI e0.2), .int (nI t0.2), .int (nI mk), .int (nI L0.2)])), (gl, .inl (cl, 32, .inl (iN L0.1)))] [(cl, .int)] sz none [(o, .inr (5, [.ref gi, .ref ge, .ref gt, .ref go, .ref gb, .ref gm, .ref gl, .int (nI i0.2), .int (nI e0.2), .int (nI t0.2), .int (nI mk), .int (nI ((ap L0 (rgM g)).2))])), (gl, .inl (cl, 32, .inl (iN ((ap L0 (rgM g)).1))))] := by
  refine metU (by decide) (Nat.le_of_ble_eq_true rfl) ?_
  intro p e s m below meth c ls A hx hb hr hlocks hml hown ht hl hP hK hSS hD hS hA
  have hl : lv_has ls 2 [(0, .ref o), (1, .int (nI g))] := hl
  refine lv_aload_n hx hb d_Mo_register_0 rfl (lv_at hl 0 rfl) ?_
  refine lv_bipush (v := nI 114) hx hb d_Mo_register_1 (by decide) ?_
  refine uV (As := [.int (nI 114)]) (rest := []) (wr := []) hx hb hml hown ht (c_Mo_put l dC dI z _ o gi ge gt go gb gm gl i0 e0 t0 mk L0 cl 114 (by first | assumption | omega)) yv_Mo_put k_609 (Nat.le_of_ble_eq_true rfl) (Nat.le_of_ble_eq_true rfl) hP hK hSS hD hS hA [0, 1] [] [0] rfl rfl (by decide) rfl (by decide) (by decide) rfl 0 5 rfl rfl rfl hl rfl rfl (Nat.le_of_ble_eq_true rfl) (Nat.zero_le _) (Nat.zero_le _) d_Mo_register_3 (fun H locs hP hD hS => ?_)
  have hP : va_P (dC, dI) classes [(o, .inr (5, [.ref gi, .ref ge, .ref gt, .ref go, .ref gb, .ref gm, .ref gl, .int (nI i0.2), .int (nI e0.2), .int (nI t0.2), .int (nI mk), .int (nI ((ap1 L0 114).2))])), (gl, .inl (cl, 32, .inl (iN ((ap1 L0 114).1))))] H := hP
  have hD : va_D A [(o, .inr (5, [.ref gi, .ref ge, .ref gt, .ref go, .ref gb, .ref gm, .ref gl, .int (nI i0.2), .int (nI e0.2), .int (nI t0.2), .int (nI mk), .int (nI ((ap1 L0 114).2))])), (gl, .inl (cl, 32, .inl (iN ((ap1 L0 114).1))))] := hD
  refine stk (st2 := []) rfl ?_
  refine lv_aload_n hx hb d_Mo_register_6 rfl (lv_at hl 0 rfl) ?_
  refine lv_bipush (v := nI 48) hx hb d_Mo_register_7 (by decide) ?_
  refine lv_iload_n hx hb d_Mo_register_9 rfl (lv_at hl 1 rfl) ?_
  refine nAdd hx hb d_Mo_register_10 ?_
  refine uV (As := [.int (nI (48 + g))]) (rest := []) (wr := []) hx hb hml hown ht (c_Mo_put l dC dI z _ o gi ge gt go gb gm gl i0 e0 t0 mk (ap1 L0 114) cl (48 + g) (by show L0.2 + 1 + 1 ≤ 32; omega)) yv_Mo_put k_609 (Nat.le_of_ble_eq_true rfl) (Nat.le_of_ble_eq_true rfl) hP hK hSS hD hS hA [0, 1] [] [0] rfl rfl (by decide) rfl (by decide) (by decide) rfl 0 5 rfl rfl rfl hl rfl rfl (Nat.le_of_ble_eq_true rfl) (Nat.zero_le _) (Nat.zero_le _) d_Mo_register_11 (fun H locs hP hD hS => ?_)
  have hP : va_P (dC, dI) classes [(o, .inr (5, [.ref gi, .ref ge, .ref gt, .ref go, .ref gb, .ref gm, .ref gl, .int (nI i0.2), .int (nI e0.2), .int (nI t0.2), .int (nI mk), .int (nI ((ap1 (ap1 L0 114) (48 + g)).2))])), (gl, .inl (cl, 32, .inl (iN ((ap1 (ap1 L0 114) (48 + g)).1))))] H := hP
  have hD : va_D A [(o, .inr (5, [.ref gi, .ref ge, .ref gt, .ref go, .ref gb, .ref gm, .ref gl, .int (nI i0.2), .int (nI e0.2), .int (nI t0.2), .int (nI mk), .int (nI ((ap1 (ap1 L0 114) (48 + g)).2))])), (gl, .inl (cl, 32, .inl (iN ((ap1 (ap1 L0 114) (48 + g)).1))))] := hD
  refine stk (st2 := []) rfl ?_
  exact eUv hx hb hr hlocks hP hD hS [0, 1] rfl rfl (by decide) d_Mo_register_14

set_option maxHeartbeats 4000000 in
set_option maxRecDepth 100000 in
theorem c_Mo_front (l : Launch) (dC : Nat → ClassId) (dI : Nat → Nat → Nat) (z : zT) (sz : Nat) (o : Nat) (gi : Nat) (ge : Nat) (gt : Nat) (go : Nat) (gb : Nat) (gm : Nat) (gl : Nat) (i0 : txT) (e0 : txT) (t0 : txT) (mk : Nat) (L0 : txT) (cl : ClassId) (f : Nat) (hf : f < 120) : MU l y_Mo_front b_Mo_front 3 none 2 44 (dC, dI) z [.ref o, .int (nI f)] [(o, .inr (5, [.ref gi, .ref ge, .ref gt, .ref go, .ref gb, .ref gm, .ref gl, .int (nI i0.2), .int (nI e0.2), .int (nI t0.2), .int (nI mk), .int (nI L0.2)])), (gl, .inl (cl, 32, .inl (iN L0.1)))] [(cl, .int)] sz none [(o, .inr (5, [.ref gi, .ref ge, .ref gt, .ref go, .ref gb, .ref gm, .ref gl, .int (nI i0.2), .int (nI e0.2), .int (nI t0.2), .int (nI mk), .int (nI ((ap (dr L0) (frL f)).2))])), (gl, .inl (cl, 32, .inl (iN ((ap (dr L0) (frL f)).1))))] := by
  refine metU (by decide) (Nat.le_of_ble_eq_true rfl) ?_
  intro p e s m below meth c ls A hx hb hr hlocks hml hown ht hl hP hK hSS hD hS hA
  have hl : lv_has ls 3 [(0, .ref o), (1, .int (nI f))] := hl
  refine lv_aload_n hx hb d_Mo_front_0 rfl (lv_at hl 0 rfl) ?_
  refine lv_iconst (v := nI 0) hx hb d_Mo_front_1 (by decide) ?_
  refine va_put (D := (dC, dI)) (ci := 5) (v := .int (nI 0)) (ty := .int) (C := R_Mo) (T := F_Mo) (N := 12) hx hb ht in_Mo t_Mo t_Mo_ok n_Mo hown hK hP hD hS 0 rfl rfl 11 (by decide) (ht _ k_502) (fun _ h9 => h9) rfl (by decide +kernel) rfl rfl (Nat.le_of_ble_eq_true rfl) d_Mo_front_2 (fun H locs hP hD hS => ?_)
  have hP : va_P (dC, dI) classes [(o, .inr (5, [.ref gi, .ref ge, .ref gt, .ref go, .ref gb, .ref gm, .ref gl, .int (nI i0.2), .int (nI e0.2), .int (nI t0.2), .int (nI mk), .int (nI 0)])), (gl, .inl (cl, 32, .inl (iN L0.1)))] H := hP
  have hD : va_D A [(o, .inr (5, [.ref gi, .ref ge, .ref gt, .ref go, .ref gb, .ref gm, .ref gl, .int (nI i0.2), .int (nI e0.2), .int (nI t0.2), .int (nI mk), .int (nI 0)])), (gl, .inl (cl, 32, .inl (iN L0.1)))] := hD
  have hP : va_P (dC, dI) classes [(o, .inr (5, [.ref gi, .ref ge, .ref gt, .ref go, .ref gb, .ref gm, .ref gl, .int (nI i0.2), .int (nI e0.2), .int (nI t0.2), .int (nI mk), .int (nI ((dr L0).2))])), (gl, .inl (cl, 32, .inl (iN ((dr L0).1))))] H := hP
  have hD : va_D A [(o, .inr (5, [.ref gi, .ref ge, .ref gt, .ref go, .ref gb, .ref gm, .ref gl, .int (nI i0.2), .int (nI e0.2), .int (nI t0.2), .int (nI mk), .int (nI ((dr L0).2))])), (gl, .inl (cl, 32, .inl (iN ((dr L0).1))))] := hD
  rcases (show (f = 0) ∨ (f = 1) ∨ (f = 2) ∨ (3 ≤ f ∧ f < 16) ∨ (16 ≤ f ∧ f < 32) ∨ (32 ≤ f ∧ f < 36) ∨ (36 ≤ f ∧ f < 48) ∨ (48 ≤ f ∧ f < 64) ∨ (64 ≤ f ∧ f < 80) ∨ (f = 80) ∨ (f = 81) ∨ (82 ≤ f ∧ f ≤ 85) ∨ (86 ≤ f ∧ f < 96) ∨ (96 ≤ f ∧ f < 100) ∨ (100 ≤ f ∧ f < 112) ∨ (112 ≤ f ∧ f ≤ 115) ∨ (116 ≤ f ∧ f < 120) by omega) with ef | ef | ef | ef | ef | ef | ef | ef | ef | ef | ef | ef | ef | ef | ef | ef | ef
  · obtain ⟨hfr, hlg⟩ := fr_0 hf ef
    have hl3 := lgO_le f
    have hlg2 : ¬ 1 < lgO f := fun q => hlg.mp q
    refine lv_iload_n hx hb d_Mo_front_5 rfl (lv_at hl 1 rfl) ?_
    refine lv_bipush (v := nI 16) hx hb d_Mo_front_6 (by decide) ?_
    refine nDiv hx hb d_Mo_front_8 (by omega) (by omega) (by omega) ?_
    refine lv_istore_n (lv' := [(2, .int (nI (f / 16))), (0, .ref o), (1, .int (nI f))]) hx hb d_Mo_front_9 rfl hl (Nat.le_of_ble_eq_true rfl) rfl (fun ls hl => ?_)
    refine lv_iload_n hx hb d_Mo_front_10 rfl (lv_at hl 0 rfl) ?_
    refine z_if_ne (tgt := 70) hx hb d_Mo_front_11 (tI_n (by omega)) (by decide) (fun g11 => ?_) (fun g11 => ?_)
    · exfalso; omega
    · refine lv_iload_n hx hb d_Mo_front_14 rfl (lv_at hl 2 rfl) ?_
      refine z_if_ne (tgt := 28) hx hb d_Mo_front_15 (tI_n (by omega)) (by decide) (fun g15 => ?_) (fun g15 => ?_)
      · exfalso; omega
      · refine lv_aload_n hx hb d_Mo_front_18 rfl (lv_at hl 1 rfl) ?_
        refine lv_bipush (v := nI 78) hx hb d_Mo_front_19 (by decide) ?_
        refine lv_bipush (v := nI 79) hx hb d_Mo_front_21 (by decide) ?_
        refine lv_bipush (v := nI 80) hx hb d_Mo_front_23 (by decide) ?_
        refine uV (As := [.int (nI 78), .int (nI 79), .int (nI 80)]) (rest := []) (wr := []) hx hb hml hown ht (c_Mo_name l dC dI z _ o gi ge gt go gb gm gl i0 e0 t0 mk (dr L0) cl 78 79 80 (Nat.le_of_ble_eq_true rfl) (by first | assumption | omega)) yv_Mo_name k_605 (Nat.le_of_ble_eq_true rfl) (Nat.le_of_ble_eq_true rfl) hP hK hSS hD hS hA [0, 1] [] [0] rfl rfl (by decide) rfl (by decide) (by decide) rfl 0 5 rfl rfl rfl hl rfl rfl (Nat.le_of_ble_eq_true rfl) (Nat.zero_le _) (Nat.zero_le _) d_Mo_front_25 (fun H locs hP hD hS => ?_)
        have hP : va_P (dC, dI) classes [(o, .inr (5, [.ref gi, .ref ge, .ref gt, .ref go, .ref gb, .ref gm, .ref gl, .int (nI i0.2), .int (nI e0.2), .int (nI t0.2), .int (nI mk), .int (nI ((ap (dr L0) (nmL 78 79 80)).2))])), (gl, .inl (cl, 32, .inl (iN ((ap (dr L0) (nmL 78 79 80)).1))))] H := hP
        have hD : va_D A [(o, .inr (5, [.ref gi, .ref ge, .ref gt, .ref go, .ref gb, .ref gm, .ref gl, .int (nI i0.2), .int (nI e0.2), .int (nI t0.2), .int (nI mk), .int (nI ((ap (dr L0) (nmL 78 79 80)).2))])), (gl, .inl (cl, 32, .inl (iN ((ap (dr L0) (nmL 78 79 80)).1))))] := hD
        refine stk (st2 := []) rfl ?_
        refine lv_iload_n hx hb d_Mo_front_28 rfl (lv_at hl 2 rfl) ?_
        refine lv_iconst (v := nI 1) hx hb d_Mo_front_29 (by decide) ?_
        refine z_icmp_ne (tgt := 43) hx hb d_Mo_front_30 (tI_n (by omega)) (tI_n (by omega)) (by decide) (fun g30 => ?_) (fun g30 => ?_)
        · refine lv_iload_n hx hb d_Mo_front_43 rfl (lv_at hl 2 rfl) ?_
          refine lv_iconst (v := nI 1) hx hb d_Mo_front_44 (by decide) ?_
          refine z_icmp_ne (tgt := 54) hx hb d_Mo_front_45 (tI_n (by omega)) (tI_n (by omega)) (by decide) (fun g45 => ?_) (fun g45 => ?_)
          · refine lv_iload_n hx hb d_Mo_front_54 rfl (lv_at hl 2 rfl) ?_
            refine lv_iconst (v := nI 2) hx hb d_Mo_front_55 (by decide) ?_
            refine z_icmp_ne (tgt := 69) hx hb d_Mo_front_56 (tI_n (by omega)) (tI_n (by omega)) (by decide) (fun g56 => ?_) (fun g56 => ?_)
            · rw [hfr]
              exact eUv hx hb hr hlocks hP hD hS [0, 1] rfl rfl (by decide) d_Mo_front_69
            · exfalso; omega
          · exfalso; omega
        · exfalso; omega
  · obtain ⟨hfr, hlg⟩ := fr_1 hf ef
    have hl3 := lgO_le f
    have hlg2 : ¬ 1 < lgO f := fun q => hlg.mp q
    refine lv_iload_n hx hb d_Mo_front_5 rfl (lv_at hl 1 rfl) ?_
    refine lv_bipush (v := nI 16) hx hb d_Mo_front_6 (by decide) ?_
    refine nDiv hx hb d_Mo_front_8 (by omega) (by omega) (by omega) ?_
    refine lv_istore_n (lv' := [(2, .int (nI (f / 16))), (0, .ref o), (1, .int (nI f))]) hx hb d_Mo_front_9 rfl hl (Nat.le_of_ble_eq_true rfl) rfl (fun ls hl => ?_)
    refine lv_iload_n hx hb d_Mo_front_10 rfl (lv_at hl 0 rfl) ?_
    refine z_if_ne (tgt := 70) hx hb d_Mo_front_11 (tI_n (by omega)) (by decide) (fun g11 => ?_) (fun g11 => ?_)
    · exfalso; omega
    · refine lv_iload_n hx hb d_Mo_front_14 rfl (lv_at hl 2 rfl) ?_
      refine z_if_ne (tgt := 28) hx hb d_Mo_front_15 (tI_n (by omega)) (by decide) (fun g15 => ?_) (fun g15 => ?_)
      · refine lv_iload_n hx hb d_Mo_front_28 rfl (lv_at hl 2 rfl) ?_
        refine lv_iconst (v := nI 1) hx hb d_Mo_front_29 (by decide) ?_
        refine z_icmp_ne (tgt := 43) hx hb d_Mo_front_30 (tI_n (by omega)) (tI_n (by omega)) (by decide) (fun g30 => ?_) (fun g30 => ?_)
        · exfalso; omega
        · refine lv_aload_n hx hb d_Mo_front_33 rfl (lv_at hl 1 rfl) ?_
          refine lv_bipush (v := nI 72) hx hb d_Mo_front_34 (by decide) ?_
          refine lv_bipush (v := nI 65) hx hb d_Mo_front_36 (by decide) ?_
          refine lv_bipush (v := nI 76) hx hb d_Mo_front_38 (by decide) ?_
          refine uV (As := [.int (nI 72), .int (nI 65), .int (nI 76)]) (rest := []) (wr := []) hx hb hml hown ht (c_Mo_name l dC dI z _ o gi ge gt go gb gm gl i0 e0 t0 mk (dr L0) cl 72 65 76 (Nat.le_of_ble_eq_true rfl) (by first | assumption | omega)) yv_Mo_name k_605 (Nat.le_of_ble_eq_true rfl) (Nat.le_of_ble_eq_true rfl) hP hK hSS hD hS hA [0, 1] [] [0] rfl rfl (by decide) rfl (by decide) (by decide) rfl 0 5 rfl rfl rfl hl rfl rfl (Nat.le_of_ble_eq_true rfl) (Nat.zero_le _) (Nat.zero_le _) d_Mo_front_40 (fun H locs hP hD hS => ?_)
          have hP : va_P (dC, dI) classes [(o, .inr (5, [.ref gi, .ref ge, .ref gt, .ref go, .ref gb, .ref gm, .ref gl, .int (nI i0.2), .int (nI e0.2), .int (nI t0.2), .int (nI mk), .int (nI ((ap (dr L0) (nmL 72 65 76)).2))])), (gl, .inl (cl, 32, .inl (iN ((ap (dr L0) (nmL 72 65 76)).1))))] H := hP
          have hD : va_D A [(o, .inr (5, [.ref gi, .ref ge, .ref gt, .ref go, .ref gb, .ref gm, .ref gl, .int (nI i0.2), .int (nI e0.2), .int (nI t0.2), .int (nI mk), .int (nI ((ap (dr L0) (nmL 72 65 76)).2))])), (gl, .inl (cl, 32, .inl (iN ((ap (dr L0) (nmL 72 65 76)).1))))] := hD
          refine stk (st2 := []) rfl ?_
          refine lv_iload_n hx hb d_Mo_front_43 rfl (lv_at hl 2 rfl) ?_
          refine lv_iconst (v := nI 1) hx hb d_Mo_front_44 (by decide) ?_
          refine z_icmp_ne (tgt := 54) hx hb d_Mo_front_45 (tI_n (by omega)) (tI_n (by omega)) (by decide) (fun g45 => ?_) (fun g45 => ?_)
          · exfalso; omega
          · refine lv_aload_n hx hb d_Mo_front_48 rfl (lv_at hl 1 rfl) ?_
            refine lv_bipush (v := nI 84) hx hb d_Mo_front_49 (by decide) ?_
            refine uV (As := [.int (nI 84)]) (rest := []) (wr := []) hx hb hml hown ht (c_Mo_put l dC dI z _ o gi ge gt go gb gm gl i0 e0 t0 mk (ap (dr L0) (nmL 72 65 76)) cl 84 (Nat.le_of_ble_eq_true rfl)) yv_Mo_put k_609 (Nat.le_of_ble_eq_true rfl) (Nat.le_of_ble_eq_true rfl) hP hK hSS hD hS hA [0, 1] [] [0] rfl rfl (by decide) rfl (by decide) (by decide) rfl 0 5 rfl rfl rfl hl rfl rfl (Nat.le_of_ble_eq_true rfl) (Nat.zero_le _) (Nat.zero_le _) d_Mo_front_51 (fun H locs hP hD hS => ?_)
            have hP : va_P (dC, dI) classes [(o, .inr (5, [.ref gi, .ref ge, .ref gt, .ref go, .ref gb, .ref gm, .ref gl, .int (nI i0.2), .int (nI e0.2), .int (nI t0.2), .int (nI mk), .int (nI ((ap1 (ap (dr L0) (nmL 72 65 76)) 84).2))])), (gl, .inl (cl, 32, .inl (iN ((ap1 (ap (dr L0) (nmL 72 65 76)) 84).1))))] H := hP
            have hD : va_D A [(o, .inr (5, [.ref gi, .ref ge, .ref gt, .ref go, .ref gb, .ref gm, .ref gl, .int (nI i0.2), .int (nI e0.2), .int (nI t0.2), .int (nI mk), .int (nI ((ap1 (ap (dr L0) (nmL 72 65 76)) 84).2))])), (gl, .inl (cl, 32, .inl (iN ((ap1 (ap (dr L0) (nmL 72 65 76)) 84).1))))] := hD
            refine stk (st2 := []) rfl ?_
            refine lv_iload_n hx hb d_Mo_front_54 rfl (lv_at hl 2 rfl) ?_
            refine lv_iconst (v := nI 2) hx hb d_Mo_front_55 (by decide) ?_
            refine z_icmp_ne (tgt := 69) hx hb d_Mo_front_56 (tI_n (by omega)) (tI_n (by omega)) (by decide) (fun g56 => ?_) (fun g56 => ?_)
            · rw [hfr]
              exact eUv hx hb hr hlocks hP hD hS [0, 1] rfl rfl (by decide) d_Mo_front_69
            · exfalso; omega
      · exfalso; omega
  · obtain ⟨hfr, hlg⟩ := fr_2 hf ef
    have hl3 := lgO_le f
    have hlg2 : ¬ 1 < lgO f := fun q => hlg.mp q
    refine lv_iload_n hx hb d_Mo_front_5 rfl (lv_at hl 1 rfl) ?_
    refine lv_bipush (v := nI 16) hx hb d_Mo_front_6 (by decide) ?_
    refine nDiv hx hb d_Mo_front_8 (by omega) (by omega) (by omega) ?_
    refine lv_istore_n (lv' := [(2, .int (nI (f / 16))), (0, .ref o), (1, .int (nI f))]) hx hb d_Mo_front_9 rfl hl (Nat.le_of_ble_eq_true rfl) rfl (fun ls hl => ?_)
    refine lv_iload_n hx hb d_Mo_front_10 rfl (lv_at hl 0 rfl) ?_
    refine z_if_ne (tgt := 70) hx hb d_Mo_front_11 (tI_n (by omega)) (by decide) (fun g11 => ?_) (fun g11 => ?_)
    · exfalso; omega
    · refine lv_iload_n hx hb d_Mo_front_14 rfl (lv_at hl 2 rfl) ?_
      refine z_if_ne (tgt := 28) hx hb d_Mo_front_15 (tI_n (by omega)) (by decide) (fun g15 => ?_) (fun g15 => ?_)
      · refine lv_iload_n hx hb d_Mo_front_28 rfl (lv_at hl 2 rfl) ?_
        refine lv_iconst (v := nI 1) hx hb d_Mo_front_29 (by decide) ?_
        refine z_icmp_ne (tgt := 43) hx hb d_Mo_front_30 (tI_n (by omega)) (tI_n (by omega)) (by decide) (fun g30 => ?_) (fun g30 => ?_)
        · refine lv_iload_n hx hb d_Mo_front_43 rfl (lv_at hl 2 rfl) ?_
          refine lv_iconst (v := nI 1) hx hb d_Mo_front_44 (by decide) ?_
          refine z_icmp_ne (tgt := 54) hx hb d_Mo_front_45 (tI_n (by omega)) (tI_n (by omega)) (by decide) (fun g45 => ?_) (fun g45 => ?_)
          · refine lv_iload_n hx hb d_Mo_front_54 rfl (lv_at hl 2 rfl) ?_
            refine lv_iconst (v := nI 2) hx hb d_Mo_front_55 (by decide) ?_
            refine z_icmp_ne (tgt := 69) hx hb d_Mo_front_56 (tI_n (by omega)) (tI_n (by omega)) (by decide) (fun g56 => ?_) (fun g56 => ?_)
            · exfalso; omega
            · refine lv_aload_n hx hb d_Mo_front_59 rfl (lv_at hl 1 rfl) ?_
              refine lv_bipush (v := nI 82) hx hb d_Mo_front_60 (by decide) ?_
              refine lv_bipush (v := nI 69) hx hb d_Mo_front_62 (by decide) ?_
              refine lv_bipush (v := nI 84) hx hb d_Mo_front_64 (by decide) ?_
              refine uV (As := [.int (nI 82), .int (nI 69), .int (nI 84)]) (rest := []) (wr := []) hx hb hml hown ht (c_Mo_name l dC dI z _ o gi ge gt go gb gm gl i0 e0 t0 mk (dr L0) cl 82 69 84 (Nat.le_of_ble_eq_true rfl) (by first | assumption | omega)) yv_Mo_name k_605 (Nat.le_of_ble_eq_true rfl) (Nat.le_of_ble_eq_true rfl) hP hK hSS hD hS hA [0, 1] [] [0] rfl rfl (by decide) rfl (by decide) (by decide) rfl 0 5 rfl rfl rfl hl rfl rfl (Nat.le_of_ble_eq_true rfl) (Nat.zero_le _) (Nat.zero_le _) d_Mo_front_66 (fun H locs hP hD hS => ?_)
              have hP : va_P (dC, dI) classes [(o, .inr (5, [.ref gi, .ref ge, .ref gt, .ref go, .ref gb, .ref gm, .ref gl, .int (nI i0.2), .int (nI e0.2), .int (nI t0.2), .int (nI mk), .int (nI ((ap (dr L0) (nmL 82 69 84)).2))])), (gl, .inl (cl, 32, .inl (iN ((ap (dr L0) (nmL 82 69 84)).1))))] H := hP
              have hD : va_D A [(o, .inr (5, [.ref gi, .ref ge, .ref gt, .ref go, .ref gb, .ref gm, .ref gl, .int (nI i0.2), .int (nI e0.2), .int (nI t0.2), .int (nI mk), .int (nI ((ap (dr L0) (nmL 82 69 84)).2))])), (gl, .inl (cl, 32, .inl (iN ((ap (dr L0) (nmL 82 69 84)).1))))] := hD
              refine stk (st2 := []) rfl ?_
              rw [hfr]
              exact eUv hx hb hr hlocks hP hD hS [0, 1] rfl rfl (by decide) d_Mo_front_69
          · exfalso; omega
        · exfalso; omega
      · exfalso; omega
  · obtain ⟨hfr, hlg⟩ := fr_3 hf ef
    have hl3 := lgO_le f
    have hlg2 : ¬ 1 < lgO f := fun q => hlg.mp q
    refine lv_iload_n hx hb d_Mo_front_5 rfl (lv_at hl 1 rfl) ?_
    refine lv_bipush (v := nI 16) hx hb d_Mo_front_6 (by decide) ?_
    refine nDiv hx hb d_Mo_front_8 (by omega) (by omega) (by omega) ?_
    refine lv_istore_n (lv' := [(2, .int (nI (f / 16))), (0, .ref o), (1, .int (nI f))]) hx hb d_Mo_front_9 rfl hl (Nat.le_of_ble_eq_true rfl) rfl (fun ls hl => ?_)
    refine lv_iload_n hx hb d_Mo_front_10 rfl (lv_at hl 0 rfl) ?_
    refine z_if_ne (tgt := 70) hx hb d_Mo_front_11 (tI_n (by omega)) (by decide) (fun g11 => ?_) (fun g11 => ?_)
    · exfalso; omega
    · refine lv_iload_n hx hb d_Mo_front_14 rfl (lv_at hl 2 rfl) ?_
      refine z_if_ne (tgt := 28) hx hb d_Mo_front_15 (tI_n (by omega)) (by decide) (fun g15 => ?_) (fun g15 => ?_)
      · refine lv_iload_n hx hb d_Mo_front_28 rfl (lv_at hl 2 rfl) ?_
        refine lv_iconst (v := nI 1) hx hb d_Mo_front_29 (by decide) ?_
        refine z_icmp_ne (tgt := 43) hx hb d_Mo_front_30 (tI_n (by omega)) (tI_n (by omega)) (by decide) (fun g30 => ?_) (fun g30 => ?_)
        · refine lv_iload_n hx hb d_Mo_front_43 rfl (lv_at hl 2 rfl) ?_
          refine lv_iconst (v := nI 1) hx hb d_Mo_front_44 (by decide) ?_
          refine z_icmp_ne (tgt := 54) hx hb d_Mo_front_45 (tI_n (by omega)) (tI_n (by omega)) (by decide) (fun g45 => ?_) (fun g45 => ?_)
          · refine lv_iload_n hx hb d_Mo_front_54 rfl (lv_at hl 2 rfl) ?_
            refine lv_iconst (v := nI 2) hx hb d_Mo_front_55 (by decide) ?_
            refine z_icmp_ne (tgt := 69) hx hb d_Mo_front_56 (tI_n (by omega)) (tI_n (by omega)) (by decide) (fun g56 => ?_) (fun g56 => ?_)
            · rw [hfr]
              exact eUv hx hb hr hlocks hP hD hS [0, 1] rfl rfl (by decide) d_Mo_front_69
            · exfalso; omega
          · exfalso; omega
        · exfalso; omega
      · exfalso; omega
  · obtain ⟨hfr, hlg⟩ := fr_4 hf ef
    have hl3 := lgO_le f
    have hlg2 : ¬ 1 < lgO f := fun q => hlg.mp q
    refine lv_iload_n hx hb d_Mo_front_5 rfl (lv_at hl 1 rfl) ?_
    refine lv_bipush (v := nI 16) hx hb d_Mo_front_6 (by decide) ?_
    refine nDiv hx hb d_Mo_front_8 (by omega) (by omega) (by omega) ?_
    refine lv_istore_n (lv' := [(2, .int (nI (f / 16))), (0, .ref o), (1, .int (nI f))]) hx hb d_Mo_front_9 rfl hl (Nat.le_of_ble_eq_true rfl) rfl (fun ls hl => ?_)
    refine lv_iload_n hx hb d_Mo_front_10 rfl (lv_at hl 0 rfl) ?_
    refine z_if_ne (tgt := 70) hx hb d_Mo_front_11 (tI_n (by omega)) (by decide) (fun g11 => ?_) (fun g11 => ?_)
    · refine lv_iload_n hx hb d_Mo_front_70 rfl (lv_at hl 0 rfl) ?_
      refine lv_iconst (v := nI 1) hx hb d_Mo_front_71 (by decide) ?_
      refine z_icmp_ne (tgt := 85) hx hb d_Mo_front_72 (tI_n (by omega)) (tI_n (by omega)) (by decide) (fun g72 => ?_) (fun g72 => ?_)
      · exfalso; omega
      · refine lv_aload_n hx hb d_Mo_front_75 rfl (lv_at hl 1 rfl) ?_
        refine lv_bipush (v := nI 73) hx hb d_Mo_front_76 (by decide) ?_
        refine lv_bipush (v := nI 78) hx hb d_Mo_front_78 (by decide) ?_
        refine lv_bipush (v := nI 67) hx hb d_Mo_front_80 (by decide) ?_
        refine uV (As := [.int (nI 73), .int (nI 78), .int (nI 67)]) (rest := []) (wr := []) hx hb hml hown ht (c_Mo_name l dC dI z _ o gi ge gt go gb gm gl i0 e0 t0 mk (dr L0) cl 73 78 67 (Nat.le_of_ble_eq_true rfl) (by first | assumption | omega)) yv_Mo_name k_605 (Nat.le_of_ble_eq_true rfl) (Nat.le_of_ble_eq_true rfl) hP hK hSS hD hS hA [0, 1] [] [0] rfl rfl (by decide) rfl (by decide) (by decide) rfl 0 5 rfl rfl rfl hl rfl rfl (Nat.le_of_ble_eq_true rfl) (Nat.zero_le _) (Nat.zero_le _) d_Mo_front_82 (fun H locs hP hD hS => ?_)
        have hP : va_P (dC, dI) classes [(o, .inr (5, [.ref gi, .ref ge, .ref gt, .ref go, .ref gb, .ref gm, .ref gl, .int (nI i0.2), .int (nI e0.2), .int (nI t0.2), .int (nI mk), .int (nI ((ap (dr L0) (nmL 73 78 67)).2))])), (gl, .inl (cl, 32, .inl (iN ((ap (dr L0) (nmL 73 78 67)).1))))] H := hP
        have hD : va_D A [(o, .inr (5, [.ref gi, .ref ge, .ref gt, .ref go, .ref gb, .ref gm, .ref gl, .int (nI i0.2), .int (nI e0.2), .int (nI t0.2), .int (nI mk), .int (nI ((ap (dr L0) (nmL 73 78 67)).2))])), (gl, .inl (cl, 32, .inl (iN ((ap (dr L0) (nmL 73 78 67)).1))))] := hD
        refine stk (st2 := []) rfl ?_
        refine lv_iload_n hx hb d_Mo_front_85 rfl (lv_at hl 0 rfl) ?_
        refine lv_iconst (v := nI 2) hx hb d_Mo_front_86 (by decide) ?_
        refine z_icmp_ne (tgt := 100) hx hb d_Mo_front_87 (tI_n (by omega)) (tI_n (by omega)) (by decide) (fun g87 => ?_) (fun g87 => ?_)
        · refine lv_iload_n hx hb d_Mo_front_100 rfl (lv_at hl 0 rfl) ?_
          refine lv_iconst (v := nI 3) hx hb d_Mo_front_101 (by decide) ?_
          refine z_icmp_ne (tgt := 115) hx hb d_Mo_front_102 (tI_n (by omega)) (tI_n (by omega)) (by decide) (fun g102 => ?_) (fun g102 => ?_)
          · refine lv_iload_n hx hb d_Mo_front_115 rfl (lv_at hl 0 rfl) ?_
            refine lv_iconst (v := nI 4) hx hb d_Mo_front_116 (by decide) ?_
            refine z_icmp_ne (tgt := 130) hx hb d_Mo_front_117 (tI_n (by omega)) (tI_n (by omega)) (by decide) (fun g117 => ?_) (fun g117 => ?_)
            · refine lv_iload_n hx hb d_Mo_front_130 rfl (lv_at hl 2 rfl) ?_
              refine lv_bipush (v := nI 80) hx hb d_Mo_front_131 (by decide) ?_
              refine z_icmp_ne (tgt := 146) hx hb d_Mo_front_133 (tI_n (by omega)) (tI_n (by omega)) (by decide) (fun g133 => ?_) (fun g133 => ?_)
              · refine lv_iload_n hx hb d_Mo_front_146 rfl (lv_at hl 2 rfl) ?_
                refine lv_bipush (v := nI 81) hx hb d_Mo_front_147 (by decide) ?_
                refine z_icmp_ne (tgt := 162) hx hb d_Mo_front_149 (tI_n (by omega)) (tI_n (by omega)) (by decide) (fun g149 => ?_) (fun g149 => ?_)
                · refine lv_iload_n hx hb d_Mo_front_162 rfl (lv_at hl 2 rfl) ?_
                  refine lv_bipush (v := nI 81) hx hb d_Mo_front_163 (by decide) ?_
                  refine z_icmp_ne (tgt := 174) hx hb d_Mo_front_165 (tI_n (by omega)) (tI_n (by omega)) (by decide) (fun g165 => ?_) (fun g165 => ?_)
                  · refine lv_iload_n hx hb d_Mo_front_174 rfl (lv_at hl 2 rfl) ?_
                    refine lv_bipush (v := nI 82) hx hb d_Mo_front_175 (by decide) ?_
                    refine z_icmp_lt (tgt := 195) hx hb d_Mo_front_177 (tI_n (by omega)) (tI_n (by omega)) (by decide) (fun g177 => ?_) (fun g177 => ?_)
                    · refine lv_iload_n hx hb d_Mo_front_195 rfl (lv_at hl 0 rfl) ?_
                      refine lv_bipush (v := nI 6) hx hb d_Mo_front_196 (by decide) ?_
                      refine z_icmp_ne (tgt := 211) hx hb d_Mo_front_198 (tI_n (by omega)) (tI_n (by omega)) (by decide) (fun g198 => ?_) (fun g198 => ?_)
                      · refine lv_iload_n hx hb d_Mo_front_211 rfl (lv_at hl 2 rfl) ?_
                        refine lv_bipush (v := nI 112) hx hb d_Mo_front_212 (by decide) ?_
                        refine z_icmp_lt (tgt := 232) hx hb d_Mo_front_214 (tI_n (by omega)) (tI_n (by omega)) (by decide) (fun g214 => ?_) (fun g214 => ?_)
                        · refine lv_iload_n hx hb d_Mo_front_232 rfl (lv_at hl 2 rfl) ?_
                          refine lv_bipush (v := nI 116) hx hb d_Mo_front_233 (by decide) ?_
                          refine z_icmp_lt (tgt := 247) hx hb d_Mo_front_235 (tI_n (by omega)) (tI_n (by omega)) (by decide) (fun g235 => ?_) (fun g235 => ?_)
                          · refine lv_aload_n hx hb d_Mo_front_247 rfl (lv_at hl 1 rfl) ?_
                            refine lv_bipush (v := nI 32) hx hb d_Mo_front_248 (by decide) ?_
                            refine uV (As := [.int (nI 32)]) (rest := []) (wr := []) hx hb hml hown ht (c_Mo_put l dC dI z _ o gi ge gt go gb gm gl i0 e0 t0 mk (ap (dr L0) (nmL 73 78 67)) cl 32 (Nat.le_of_ble_eq_true rfl)) yv_Mo_put k_609 (Nat.le_of_ble_eq_true rfl) (Nat.le_of_ble_eq_true rfl) hP hK hSS hD hS hA [0, 1] [] [0] rfl rfl (by decide) rfl (by decide) (by decide) rfl 0 5 rfl rfl rfl hl rfl rfl (Nat.le_of_ble_eq_true rfl) (Nat.zero_le _) (Nat.zero_le _) d_Mo_front_250 (fun H locs hP hD hS => ?_)
                            have hP : va_P (dC, dI) classes [(o, .inr (5, [.ref gi, .ref ge, .ref gt, .ref go, .ref gb, .ref gm, .ref gl, .int (nI i0.2), .int (nI e0.2), .int (nI t0.2), .int (nI mk), .int (nI ((ap1 (ap (dr L0) (nmL 73 78 67)) 32).2))])), (gl, .inl (cl, 32, .inl (iN ((ap1 (ap (dr L0) (nmL 73 78 67)) 32).1))))] H := hP
                            have hD : va_D A [(o, .inr (5, [.ref gi, .ref ge, .ref gt, .ref go, .ref gb, .ref gm, .ref gl, .int (nI i0.2), .int (nI e0.2), .int (nI t0.2), .int (nI mk), .int (nI ((ap1 (ap (dr L0) (nmL 73 78 67)) 32).2))])), (gl, .inl (cl, 32, .inl (iN ((ap1 (ap (dr L0) (nmL 73 78 67)) 32).1))))] := hD
                            refine stk (st2 := []) rfl ?_
                            refine lv_iload_n hx hb d_Mo_front_253 rfl (lv_at hl 0 rfl) ?_
                            refine lv_iconst (v := nI 3) hx hb d_Mo_front_254 (by decide) ?_
                            refine z_icmp_eq (tgt := 263) hx hb d_Mo_front_255 (tI_n (by omega)) (tI_n (by omega)) (by decide) (fun g255 => ?_) (fun g255 => ?_)
                            · exfalso; omega
                            · refine lv_iload_n hx hb d_Mo_front_258 rfl (lv_at hl 0 rfl) ?_
                              refine lv_iconst (v := nI 4) hx hb d_Mo_front_259 (by decide) ?_
                              refine z_icmp_ne (tgt := 278) hx hb d_Mo_front_260 (tI_n (by omega)) (tI_n (by omega)) (by decide) (fun g260 => ?_) (fun g260 => ?_)
                              · refine lv_iload_n hx hb d_Mo_front_278 rfl (lv_at hl 2 rfl) ?_
                                refine lv_bipush (v := nI 82) hx hb d_Mo_front_279 (by decide) ?_
                                refine z_icmp_lt (tgt := 301) hx hb d_Mo_front_281 (tI_n (by omega)) (tI_n (by omega)) (by decide) (fun g281 => ?_) (fun g281 => ?_)
                                · refine lv_iload_n hx hb d_Mo_front_301 rfl (lv_at hl 0 rfl) ?_
                                  refine lv_iconst (v := nI 5) hx hb d_Mo_front_302 (by decide) ?_
                                  refine z_icmp_eq (tgt := 313) hx hb d_Mo_front_303 (tI_n (by omega)) (tI_n (by omega)) (by decide) (fun g303 => ?_) (fun g303 => ?_)
                                  · exfalso; omega
                                  · refine lv_aload_n hx hb d_Mo_front_306 rfl (lv_at hl 1 rfl) ?_
                                    refine lv_iload_n hx hb d_Mo_front_307 rfl (lv_at hl 2 rfl) ?_
                                    refine lv_iconst (v := nI 4) hx hb d_Mo_front_308 (by decide) ?_
                                    refine nRem hx hb d_Mo_front_309 (by omega) (by omega) (by omega) ?_
                                    refine uV (As := [.int (nI (f % 4))]) (rest := []) (wr := []) hx hb hml hown ht (c_Mo_register l dC dI z _ o gi ge gt go gb gm gl i0 e0 t0 mk (ap1 (ap (dr L0) (nmL 73 78 67)) 32) cl (f % 4) (Nat.le_of_ble_eq_true rfl) (by first | assumption | omega)) yv_Mo_register k_625 (Nat.le_of_ble_eq_true rfl) (Nat.le_of_ble_eq_true rfl) hP hK hSS hD hS hA [0, 1] [] [0] rfl rfl (by decide) rfl (by decide) (by decide) rfl 0 5 rfl rfl rfl hl rfl rfl (Nat.le_of_ble_eq_true rfl) (Nat.zero_le _) (Nat.zero_le _) d_Mo_front_310 (fun H locs hP hD hS => ?_)
                                    have hP : va_P (dC, dI) classes [(o, .inr (5, [.ref gi, .ref ge, .ref gt, .ref go, .ref gb, .ref gm, .ref gl, .int (nI i0.2), .int (nI e0.2), .int (nI t0.2), .int (nI mk), .int (nI ((ap (ap1 (ap (dr L0) (nmL 73 78 67)) 32) (rgM (f % 4))).2))])), (gl, .inl (cl, 32, .inl (iN ((ap (ap1 (ap (dr L0) (nmL 73 78 67)) 32) (rgM (f % 4))).1))))] H := hP
                                    have hD : va_D A [(o, .inr (5, [.ref gi, .ref ge, .ref gt, .ref go, .ref gb, .ref gm, .ref gl, .int (nI i0.2), .int (nI e0.2), .int (nI t0.2), .int (nI mk), .int (nI ((ap (ap1 (ap (dr L0) (nmL 73 78 67)) 32) (rgM (f % 4))).2))])), (gl, .inl (cl, 32, .inl (iN ((ap (ap1 (ap (dr L0) (nmL 73 78 67)) 32) (rgM (f % 4))).1))))] := hD
                                    refine stk (st2 := []) rfl ?_
                                    refine lv_iload_n hx hb d_Mo_front_313 rfl (lv_at hl 2 rfl) ?_
                                    refine rS (As := [.int (nI f)]) (rest := []) hx hb hml hown ht (c_Mo_longOf l dC dI z f (by first | assumption | omega)) ys_Mo_longOf k_560 (Nat.le_of_ble_eq_true rfl) (Nat.le_of_ble_eq_true rfl) hP hK hSS hS [] [] rfl rfl hl rfl rfl (Nat.le_of_ble_eq_true rfl) (Nat.zero_le _) (Nat.zero_le _) d_Mo_front_314 ?_
                                    refine lv_iconst (v := nI 1) hx hb d_Mo_front_317 (by decide) ?_
                                    refine z_icmp_le (tgt := 339) hx hb d_Mo_front_318 (tI_n (by omega)) (tI_n (by omega)) (by decide) (fun g318 => ?_) (fun g318 => ?_)
                                    · rw [hfr]
                                      exact eUv hx hb hr hlocks hP hD hS [0, 1] rfl rfl (by decide) d_Mo_front_339
                                    · exfalso; omega
                                · exfalso; omega
                              · exfalso; omega
                          · exfalso; omega
                        · exfalso; omega
                      · exfalso; omega
                    · exfalso; omega
                  · exfalso; omega
                · exfalso; omega
              · exfalso; omega
            · exfalso; omega
          · exfalso; omega
        · exfalso; omega
    · exfalso; omega
  · obtain ⟨hfr, hlg⟩ := fr_5 hf ef
    have hl3 := lgO_le f
    have hlg2 : 1 < lgO f := hlg.mpr trivial
    refine lv_iload_n hx hb d_Mo_front_5 rfl (lv_at hl 1 rfl) ?_
    refine lv_bipush (v := nI 16) hx hb d_Mo_front_6 (by decide) ?_
    refine nDiv hx hb d_Mo_front_8 (by omega) (by omega) (by omega) ?_
    refine lv_istore_n (lv' := [(2, .int (nI (f / 16))), (0, .ref o), (1, .int (nI f))]) hx hb d_Mo_front_9 rfl hl (Nat.le_of_ble_eq_true rfl) rfl (fun ls hl => ?_)
    refine lv_iload_n hx hb d_Mo_front_10 rfl (lv_at hl 0 rfl) ?_
    refine z_if_ne (tgt := 70) hx hb d_Mo_front_11 (tI_n (by omega)) (by decide) (fun g11 => ?_) (fun g11 => ?_)
    · refine lv_iload_n hx hb d_Mo_front_70 rfl (lv_at hl 0 rfl) ?_
      refine lv_iconst (v := nI 1) hx hb d_Mo_front_71 (by decide) ?_
      refine z_icmp_ne (tgt := 85) hx hb d_Mo_front_72 (tI_n (by omega)) (tI_n (by omega)) (by decide) (fun g72 => ?_) (fun g72 => ?_)
      · refine lv_iload_n hx hb d_Mo_front_85 rfl (lv_at hl 0 rfl) ?_
        refine lv_iconst (v := nI 2) hx hb d_Mo_front_86 (by decide) ?_
        refine z_icmp_ne (tgt := 100) hx hb d_Mo_front_87 (tI_n (by omega)) (tI_n (by omega)) (by decide) (fun g87 => ?_) (fun g87 => ?_)
        · exfalso; omega
        · refine lv_aload_n hx hb d_Mo_front_90 rfl (lv_at hl 1 rfl) ?_
          refine lv_bipush (v := nI 76) hx hb d_Mo_front_91 (by decide) ?_
          refine lv_bipush (v := nI 68) hx hb d_Mo_front_93 (by decide) ?_
          refine lv_bipush (v := nI 73) hx hb d_Mo_front_95 (by decide) ?_
          refine uV (As := [.int (nI 76), .int (nI 68), .int (nI 73)]) (rest := []) (wr := []) hx hb hml hown ht (c_Mo_name l dC dI z _ o gi ge gt go gb gm gl i0 e0 t0 mk (dr L0) cl 76 68 73 (Nat.le_of_ble_eq_true rfl) (by first | assumption | omega)) yv_Mo_name k_605 (Nat.le_of_ble_eq_true rfl) (Nat.le_of_ble_eq_true rfl) hP hK hSS hD hS hA [0, 1] [] [0] rfl rfl (by decide) rfl (by decide) (by decide) rfl 0 5 rfl rfl rfl hl rfl rfl (Nat.le_of_ble_eq_true rfl) (Nat.zero_le _) (Nat.zero_le _) d_Mo_front_97 (fun H locs hP hD hS => ?_)
          have hP : va_P (dC, dI) classes [(o, .inr (5, [.ref gi, .ref ge, .ref gt, .ref go, .ref gb, .ref gm, .ref gl, .int (nI i0.2), .int (nI e0.2), .int (nI t0.2), .int (nI mk), .int (nI ((ap (dr L0) (nmL 76 68 73)).2))])), (gl, .inl (cl, 32, .inl (iN ((ap (dr L0) (nmL 76 68 73)).1))))] H := hP
          have hD : va_D A [(o, .inr (5, [.ref gi, .ref ge, .ref gt, .ref go, .ref gb, .ref gm, .ref gl, .int (nI i0.2), .int (nI e0.2), .int (nI t0.2), .int (nI mk), .int (nI ((ap (dr L0) (nmL 76 68 73)).2))])), (gl, .inl (cl, 32, .inl (iN ((ap (dr L0) (nmL 76 68 73)).1))))] := hD
          refine stk (st2 := []) rfl ?_
          refine lv_iload_n hx hb d_Mo_front_100 rfl (lv_at hl 0 rfl) ?_
          refine lv_iconst (v := nI 3) hx hb d_Mo_front_101 (by decide) ?_
          refine z_icmp_ne (tgt := 115) hx hb d_Mo_front_102 (tI_n (by omega)) (tI_n (by omega)) (by decide) (fun g102 => ?_) (fun g102 => ?_)
          · refine lv_iload_n hx hb d_Mo_front_115 rfl (lv_at hl 0 rfl) ?_
            refine lv_iconst (v := nI 4) hx hb d_Mo_front_116 (by decide) ?_
            refine z_icmp_ne (tgt := 130) hx hb d_Mo_front_117 (tI_n (by omega)) (tI_n (by omega)) (by decide) (fun g117 => ?_) (fun g117 => ?_)
            · refine lv_iload_n hx hb d_Mo_front_130 rfl (lv_at hl 2 rfl) ?_
              refine lv_bipush (v := nI 80) hx hb d_Mo_front_131 (by decide) ?_
              refine z_icmp_ne (tgt := 146) hx hb d_Mo_front_133 (tI_n (by omega)) (tI_n (by omega)) (by decide) (fun g133 => ?_) (fun g133 => ?_)
              · refine lv_iload_n hx hb d_Mo_front_146 rfl (lv_at hl 2 rfl) ?_
                refine lv_bipush (v := nI 81) hx hb d_Mo_front_147 (by decide) ?_
                refine z_icmp_ne (tgt := 162) hx hb d_Mo_front_149 (tI_n (by omega)) (tI_n (by omega)) (by decide) (fun g149 => ?_) (fun g149 => ?_)
                · refine lv_iload_n hx hb d_Mo_front_162 rfl (lv_at hl 2 rfl) ?_
                  refine lv_bipush (v := nI 81) hx hb d_Mo_front_163 (by decide) ?_
                  refine z_icmp_ne (tgt := 174) hx hb d_Mo_front_165 (tI_n (by omega)) (tI_n (by omega)) (by decide) (fun g165 => ?_) (fun g165 => ?_)
                  · refine lv_iload_n hx hb d_Mo_front_174 rfl (lv_at hl 2 rfl) ?_
                    refine lv_bipush (v := nI 82) hx hb d_Mo_front_175 (by decide) ?_
                    refine z_icmp_lt (tgt := 195) hx hb d_Mo_front_177 (tI_n (by omega)) (tI_n (by omega)) (by decide) (fun g177 => ?_) (fun g177 => ?_)
                    · refine lv_iload_n hx hb d_Mo_front_195 rfl (lv_at hl 0 rfl) ?_
                      refine lv_bipush (v := nI 6) hx hb d_Mo_front_196 (by decide) ?_
                      refine z_icmp_ne (tgt := 211) hx hb d_Mo_front_198 (tI_n (by omega)) (tI_n (by omega)) (by decide) (fun g198 => ?_) (fun g198 => ?_)
                      · refine lv_iload_n hx hb d_Mo_front_211 rfl (lv_at hl 2 rfl) ?_
                        refine lv_bipush (v := nI 112) hx hb d_Mo_front_212 (by decide) ?_
                        refine z_icmp_lt (tgt := 232) hx hb d_Mo_front_214 (tI_n (by omega)) (tI_n (by omega)) (by decide) (fun g214 => ?_) (fun g214 => ?_)
                        · refine lv_iload_n hx hb d_Mo_front_232 rfl (lv_at hl 2 rfl) ?_
                          refine lv_bipush (v := nI 116) hx hb d_Mo_front_233 (by decide) ?_
                          refine z_icmp_lt (tgt := 247) hx hb d_Mo_front_235 (tI_n (by omega)) (tI_n (by omega)) (by decide) (fun g235 => ?_) (fun g235 => ?_)
                          · refine lv_aload_n hx hb d_Mo_front_247 rfl (lv_at hl 1 rfl) ?_
                            refine lv_bipush (v := nI 32) hx hb d_Mo_front_248 (by decide) ?_
                            refine uV (As := [.int (nI 32)]) (rest := []) (wr := []) hx hb hml hown ht (c_Mo_put l dC dI z _ o gi ge gt go gb gm gl i0 e0 t0 mk (ap (dr L0) (nmL 76 68 73)) cl 32 (Nat.le_of_ble_eq_true rfl)) yv_Mo_put k_609 (Nat.le_of_ble_eq_true rfl) (Nat.le_of_ble_eq_true rfl) hP hK hSS hD hS hA [0, 1] [] [0] rfl rfl (by decide) rfl (by decide) (by decide) rfl 0 5 rfl rfl rfl hl rfl rfl (Nat.le_of_ble_eq_true rfl) (Nat.zero_le _) (Nat.zero_le _) d_Mo_front_250 (fun H locs hP hD hS => ?_)
                            have hP : va_P (dC, dI) classes [(o, .inr (5, [.ref gi, .ref ge, .ref gt, .ref go, .ref gb, .ref gm, .ref gl, .int (nI i0.2), .int (nI e0.2), .int (nI t0.2), .int (nI mk), .int (nI ((ap1 (ap (dr L0) (nmL 76 68 73)) 32).2))])), (gl, .inl (cl, 32, .inl (iN ((ap1 (ap (dr L0) (nmL 76 68 73)) 32).1))))] H := hP
                            have hD : va_D A [(o, .inr (5, [.ref gi, .ref ge, .ref gt, .ref go, .ref gb, .ref gm, .ref gl, .int (nI i0.2), .int (nI e0.2), .int (nI t0.2), .int (nI mk), .int (nI ((ap1 (ap (dr L0) (nmL 76 68 73)) 32).2))])), (gl, .inl (cl, 32, .inl (iN ((ap1 (ap (dr L0) (nmL 76 68 73)) 32).1))))] := hD
                            refine stk (st2 := []) rfl ?_
                            refine lv_iload_n hx hb d_Mo_front_253 rfl (lv_at hl 0 rfl) ?_
                            refine lv_iconst (v := nI 3) hx hb d_Mo_front_254 (by decide) ?_
                            refine z_icmp_eq (tgt := 263) hx hb d_Mo_front_255 (tI_n (by omega)) (tI_n (by omega)) (by decide) (fun g255 => ?_) (fun g255 => ?_)
                            · exfalso; omega
                            · refine lv_iload_n hx hb d_Mo_front_258 rfl (lv_at hl 0 rfl) ?_
                              refine lv_iconst (v := nI 4) hx hb d_Mo_front_259 (by decide) ?_
                              refine z_icmp_ne (tgt := 278) hx hb d_Mo_front_260 (tI_n (by omega)) (tI_n (by omega)) (by decide) (fun g260 => ?_) (fun g260 => ?_)
                              · refine lv_iload_n hx hb d_Mo_front_278 rfl (lv_at hl 2 rfl) ?_
                                refine lv_bipush (v := nI 82) hx hb d_Mo_front_279 (by decide) ?_
                                refine z_icmp_lt (tgt := 301) hx hb d_Mo_front_281 (tI_n (by omega)) (tI_n (by omega)) (by decide) (fun g281 => ?_) (fun g281 => ?_)
                                · refine lv_iload_n hx hb d_Mo_front_301 rfl (lv_at hl 0 rfl) ?_
                                  refine lv_iconst (v := nI 5) hx hb d_Mo_front_302 (by decide) ?_
                                  refine z_icmp_eq (tgt := 313) hx hb d_Mo_front_303 (tI_n (by omega)) (tI_n (by omega)) (by decide) (fun g303 => ?_) (fun g303 => ?_)
                                  · exfalso; omega
                                  · refine lv_aload_n hx hb d_Mo_front_306 rfl (lv_at hl 1 rfl) ?_
                                    refine lv_iload_n hx hb d_Mo_front_307 rfl (lv_at hl 2 rfl) ?_
                                    refine lv_iconst (v := nI 4) hx hb d_Mo_front_308 (by decide) ?_
                                    refine nRem hx hb d_Mo_front_309 (by omega) (by omega) (by omega) ?_
                                    refine uV (As := [.int (nI (f % 4))]) (rest := []) (wr := []) hx hb hml hown ht (c_Mo_register l dC dI z _ o gi ge gt go gb gm gl i0 e0 t0 mk (ap1 (ap (dr L0) (nmL 76 68 73)) 32) cl (f % 4) (Nat.le_of_ble_eq_true rfl) (by first | assumption | omega)) yv_Mo_register k_625 (Nat.le_of_ble_eq_true rfl) (Nat.le_of_ble_eq_true rfl) hP hK hSS hD hS hA [0, 1] [] [0] rfl rfl (by decide) rfl (by decide) (by decide) rfl 0 5 rfl rfl rfl hl rfl rfl (Nat.le_of_ble_eq_true rfl) (Nat.zero_le _) (Nat.zero_le _) d_Mo_front_310 (fun H locs hP hD hS => ?_)
                                    have hP : va_P (dC, dI) classes [(o, .inr (5, [.ref gi, .ref ge, .ref gt, .ref go, .ref gb, .ref gm, .ref gl, .int (nI i0.2), .int (nI e0.2), .int (nI t0.2), .int (nI mk), .int (nI ((ap (ap1 (ap (dr L0) (nmL 76 68 73)) 32) (rgM (f % 4))).2))])), (gl, .inl (cl, 32, .inl (iN ((ap (ap1 (ap (dr L0) (nmL 76 68 73)) 32) (rgM (f % 4))).1))))] H := hP
                                    have hD : va_D A [(o, .inr (5, [.ref gi, .ref ge, .ref gt, .ref go, .ref gb, .ref gm, .ref gl, .int (nI i0.2), .int (nI e0.2), .int (nI t0.2), .int (nI mk), .int (nI ((ap (ap1 (ap (dr L0) (nmL 76 68 73)) 32) (rgM (f % 4))).2))])), (gl, .inl (cl, 32, .inl (iN ((ap (ap1 (ap (dr L0) (nmL 76 68 73)) 32) (rgM (f % 4))).1))))] := hD
                                    refine stk (st2 := []) rfl ?_
                                    refine lv_iload_n hx hb d_Mo_front_313 rfl (lv_at hl 2 rfl) ?_
                                    refine rS (As := [.int (nI f)]) (rest := []) hx hb hml hown ht (c_Mo_longOf l dC dI z f (by first | assumption | omega)) ys_Mo_longOf k_560 (Nat.le_of_ble_eq_true rfl) (Nat.le_of_ble_eq_true rfl) hP hK hSS hS [] [] rfl rfl hl rfl rfl (Nat.le_of_ble_eq_true rfl) (Nat.zero_le _) (Nat.zero_le _) d_Mo_front_314 ?_
                                    refine lv_iconst (v := nI 1) hx hb d_Mo_front_317 (by decide) ?_
                                    refine z_icmp_le (tgt := 339) hx hb d_Mo_front_318 (tI_n (by omega)) (tI_n (by omega)) (by decide) (fun g318 => ?_) (fun g318 => ?_)
                                    · exfalso; omega
                                    · refine lv_iload_n hx hb d_Mo_front_321 rfl (lv_at hl 2 rfl) ?_
                                      refine lv_bipush (v := nI 80) hx hb d_Mo_front_322 (by decide) ?_
                                      refine z_icmp_eq (tgt := 339) hx hb d_Mo_front_324 (tI_n (by omega)) (tI_n (by omega)) (by decide) (fun g324 => ?_) (fun g324 => ?_)
                                      · exfalso; omega
                                      · refine lv_iload_n hx hb d_Mo_front_327 rfl (lv_at hl 2 rfl) ?_
                                        refine lv_bipush (v := nI 81) hx hb d_Mo_front_328 (by decide) ?_
                                        refine z_icmp_eq (tgt := 339) hx hb d_Mo_front_330 (tI_n (by omega)) (tI_n (by omega)) (by decide) (fun g330 => ?_) (fun g330 => ?_)
                                        · exfalso; omega
                                        · refine lv_aload_n hx hb d_Mo_front_333 rfl (lv_at hl 1 rfl) ?_
                                          refine lv_bipush (v := nI 44) hx hb d_Mo_front_334 (by decide) ?_
                                          refine uV (As := [.int (nI 44)]) (rest := []) (wr := []) hx hb hml hown ht (c_Mo_put l dC dI z _ o gi ge gt go gb gm gl i0 e0 t0 mk (ap (ap1 (ap (dr L0) (nmL 76 68 73)) 32) (rgM (f % 4))) cl 44 (Nat.le_of_ble_eq_true rfl)) yv_Mo_put k_609 (Nat.le_of_ble_eq_true rfl) (Nat.le_of_ble_eq_true rfl) hP hK hSS hD hS hA [0, 1] [] [0] rfl rfl (by decide) rfl (by decide) (by decide) rfl 0 5 rfl rfl rfl hl rfl rfl (Nat.le_of_ble_eq_true rfl) (Nat.zero_le _) (Nat.zero_le _) d_Mo_front_336 (fun H locs hP hD hS => ?_)
                                          have hP : va_P (dC, dI) classes [(o, .inr (5, [.ref gi, .ref ge, .ref gt, .ref go, .ref gb, .ref gm, .ref gl, .int (nI i0.2), .int (nI e0.2), .int (nI t0.2), .int (nI mk), .int (nI ((ap1 (ap (ap1 (ap (dr L0) (nmL 76 68 73)) 32) (rgM (f % 4))) 44).2))])), (gl, .inl (cl, 32, .inl (iN ((ap1 (ap (ap1 (ap (dr L0) (nmL 76 68 73)) 32) (rgM (f % 4))) 44).1))))] H := hP
                                          have hD : va_D A [(o, .inr (5, [.ref gi, .ref ge, .ref gt, .ref go, .ref gb, .ref gm, .ref gl, .int (nI i0.2), .int (nI e0.2), .int (nI t0.2), .int (nI mk), .int (nI ((ap1 (ap (ap1 (ap (dr L0) (nmL 76 68 73)) 32) (rgM (f % 4))) 44).2))])), (gl, .inl (cl, 32, .inl (iN ((ap1 (ap (ap1 (ap (dr L0) (nmL 76 68 73)) 32) (rgM (f % 4))) 44).1))))] := hD
                                          refine stk (st2 := []) rfl ?_
                                          rw [hfr]
                                          exact eUv hx hb hr hlocks hP hD hS [0, 1] rfl rfl (by decide) d_Mo_front_339
                                · exfalso; omega
                              · exfalso; omega
                          · exfalso; omega
                        · exfalso; omega
                      · exfalso; omega
                    · exfalso; omega
                  · exfalso; omega
                · exfalso; omega
              · exfalso; omega
            · exfalso; omega
          · exfalso; omega
      · exfalso; omega
    · exfalso; omega
  · obtain ⟨hfr, hlg⟩ := fr_6 hf ef
    have hl3 := lgO_le f
    have hlg2 : ¬ 1 < lgO f := fun q => hlg.mp q
    refine lv_iload_n hx hb d_Mo_front_5 rfl (lv_at hl 1 rfl) ?_
    refine lv_bipush (v := nI 16) hx hb d_Mo_front_6 (by decide) ?_
    refine nDiv hx hb d_Mo_front_8 (by omega) (by omega) (by omega) ?_
    refine lv_istore_n (lv' := [(2, .int (nI (f / 16))), (0, .ref o), (1, .int (nI f))]) hx hb d_Mo_front_9 rfl hl (Nat.le_of_ble_eq_true rfl) rfl (fun ls hl => ?_)
    refine lv_iload_n hx hb d_Mo_front_10 rfl (lv_at hl 0 rfl) ?_
    refine z_if_ne (tgt := 70) hx hb d_Mo_front_11 (tI_n (by omega)) (by decide) (fun g11 => ?_) (fun g11 => ?_)
    · refine lv_iload_n hx hb d_Mo_front_70 rfl (lv_at hl 0 rfl) ?_
      refine lv_iconst (v := nI 1) hx hb d_Mo_front_71 (by decide) ?_
      refine z_icmp_ne (tgt := 85) hx hb d_Mo_front_72 (tI_n (by omega)) (tI_n (by omega)) (by decide) (fun g72 => ?_) (fun g72 => ?_)
      · refine lv_iload_n hx hb d_Mo_front_85 rfl (lv_at hl 0 rfl) ?_
        refine lv_iconst (v := nI 2) hx hb d_Mo_front_86 (by decide) ?_
        refine z_icmp_ne (tgt := 100) hx hb d_Mo_front_87 (tI_n (by omega)) (tI_n (by omega)) (by decide) (fun g87 => ?_) (fun g87 => ?_)
        · exfalso; omega
        · refine lv_aload_n hx hb d_Mo_front_90 rfl (lv_at hl 1 rfl) ?_
          refine lv_bipush (v := nI 76) hx hb d_Mo_front_91 (by decide) ?_
          refine lv_bipush (v := nI 68) hx hb d_Mo_front_93 (by decide) ?_
          refine lv_bipush (v := nI 73) hx hb d_Mo_front_95 (by decide) ?_
          refine uV (As := [.int (nI 76), .int (nI 68), .int (nI 73)]) (rest := []) (wr := []) hx hb hml hown ht (c_Mo_name l dC dI z _ o gi ge gt go gb gm gl i0 e0 t0 mk (dr L0) cl 76 68 73 (Nat.le_of_ble_eq_true rfl) (by first | assumption | omega)) yv_Mo_name k_605 (Nat.le_of_ble_eq_true rfl) (Nat.le_of_ble_eq_true rfl) hP hK hSS hD hS hA [0, 1] [] [0] rfl rfl (by decide) rfl (by decide) (by decide) rfl 0 5 rfl rfl rfl hl rfl rfl (Nat.le_of_ble_eq_true rfl) (Nat.zero_le _) (Nat.zero_le _) d_Mo_front_97 (fun H locs hP hD hS => ?_)
          have hP : va_P (dC, dI) classes [(o, .inr (5, [.ref gi, .ref ge, .ref gt, .ref go, .ref gb, .ref gm, .ref gl, .int (nI i0.2), .int (nI e0.2), .int (nI t0.2), .int (nI mk), .int (nI ((ap (dr L0) (nmL 76 68 73)).2))])), (gl, .inl (cl, 32, .inl (iN ((ap (dr L0) (nmL 76 68 73)).1))))] H := hP
          have hD : va_D A [(o, .inr (5, [.ref gi, .ref ge, .ref gt, .ref go, .ref gb, .ref gm, .ref gl, .int (nI i0.2), .int (nI e0.2), .int (nI t0.2), .int (nI mk), .int (nI ((ap (dr L0) (nmL 76 68 73)).2))])), (gl, .inl (cl, 32, .inl (iN ((ap (dr L0) (nmL 76 68 73)).1))))] := hD
          refine stk (st2 := []) rfl ?_
          refine lv_iload_n hx hb d_Mo_front_100 rfl (lv_at hl 0 rfl) ?_
          refine lv_iconst (v := nI 3) hx hb d_Mo_front_101 (by decide) ?_
          refine z_icmp_ne (tgt := 115) hx hb d_Mo_front_102 (tI_n (by omega)) (tI_n (by omega)) (by decide) (fun g102 => ?_) (fun g102 => ?_)
          · refine lv_iload_n hx hb d_Mo_front_115 rfl (lv_at hl 0 rfl) ?_
            refine lv_iconst (v := nI 4) hx hb d_Mo_front_116 (by decide) ?_
            refine z_icmp_ne (tgt := 130) hx hb d_Mo_front_117 (tI_n (by omega)) (tI_n (by omega)) (by decide) (fun g117 => ?_) (fun g117 => ?_)
            · refine lv_iload_n hx hb d_Mo_front_130 rfl (lv_at hl 2 rfl) ?_
              refine lv_bipush (v := nI 80) hx hb d_Mo_front_131 (by decide) ?_
              refine z_icmp_ne (tgt := 146) hx hb d_Mo_front_133 (tI_n (by omega)) (tI_n (by omega)) (by decide) (fun g133 => ?_) (fun g133 => ?_)
              · refine lv_iload_n hx hb d_Mo_front_146 rfl (lv_at hl 2 rfl) ?_
                refine lv_bipush (v := nI 81) hx hb d_Mo_front_147 (by decide) ?_
                refine z_icmp_ne (tgt := 162) hx hb d_Mo_front_149 (tI_n (by omega)) (tI_n (by omega)) (by decide) (fun g149 => ?_) (fun g149 => ?_)
                · refine lv_iload_n hx hb d_Mo_front_162 rfl (lv_at hl 2 rfl) ?_
                  refine lv_bipush (v := nI 81) hx hb d_Mo_front_163 (by decide) ?_
                  refine z_icmp_ne (tgt := 174) hx hb d_Mo_front_165 (tI_n (by omega)) (tI_n (by omega)) (by decide) (fun g165 => ?_) (fun g165 => ?_)
                  · refine lv_iload_n hx hb d_Mo_front_174 rfl (lv_at hl 2 rfl) ?_
                    refine lv_bipush (v := nI 82) hx hb d_Mo_front_175 (by decide) ?_
                    refine z_icmp_lt (tgt := 195) hx hb d_Mo_front_177 (tI_n (by omega)) (tI_n (by omega)) (by decide) (fun g177 => ?_) (fun g177 => ?_)
                    · refine lv_iload_n hx hb d_Mo_front_195 rfl (lv_at hl 0 rfl) ?_
                      refine lv_bipush (v := nI 6) hx hb d_Mo_front_196 (by decide) ?_
                      refine z_icmp_ne (tgt := 211) hx hb d_Mo_front_198 (tI_n (by omega)) (tI_n (by omega)) (by decide) (fun g198 => ?_) (fun g198 => ?_)
                      · refine lv_iload_n hx hb d_Mo_front_211 rfl (lv_at hl 2 rfl) ?_
                        refine lv_bipush (v := nI 112) hx hb d_Mo_front_212 (by decide) ?_
                        refine z_icmp_lt (tgt := 232) hx hb d_Mo_front_214 (tI_n (by omega)) (tI_n (by omega)) (by decide) (fun g214 => ?_) (fun g214 => ?_)
                        · refine lv_iload_n hx hb d_Mo_front_232 rfl (lv_at hl 2 rfl) ?_
                          refine lv_bipush (v := nI 116) hx hb d_Mo_front_233 (by decide) ?_
                          refine z_icmp_lt (tgt := 247) hx hb d_Mo_front_235 (tI_n (by omega)) (tI_n (by omega)) (by decide) (fun g235 => ?_) (fun g235 => ?_)
                          · refine lv_aload_n hx hb d_Mo_front_247 rfl (lv_at hl 1 rfl) ?_
                            refine lv_bipush (v := nI 32) hx hb d_Mo_front_248 (by decide) ?_
                            refine uV (As := [.int (nI 32)]) (rest := []) (wr := []) hx hb hml hown ht (c_Mo_put l dC dI z _ o gi ge gt go gb gm gl i0 e0 t0 mk (ap (dr L0) (nmL 76 68 73)) cl 32 (Nat.le_of_ble_eq_true rfl)) yv_Mo_put k_609 (Nat.le_of_ble_eq_true rfl) (Nat.le_of_ble_eq_true rfl) hP hK hSS hD hS hA [0, 1] [] [0] rfl rfl (by decide) rfl (by decide) (by decide) rfl 0 5 rfl rfl rfl hl rfl rfl (Nat.le_of_ble_eq_true rfl) (Nat.zero_le _) (Nat.zero_le _) d_Mo_front_250 (fun H locs hP hD hS => ?_)
                            have hP : va_P (dC, dI) classes [(o, .inr (5, [.ref gi, .ref ge, .ref gt, .ref go, .ref gb, .ref gm, .ref gl, .int (nI i0.2), .int (nI e0.2), .int (nI t0.2), .int (nI mk), .int (nI ((ap1 (ap (dr L0) (nmL 76 68 73)) 32).2))])), (gl, .inl (cl, 32, .inl (iN ((ap1 (ap (dr L0) (nmL 76 68 73)) 32).1))))] H := hP
                            have hD : va_D A [(o, .inr (5, [.ref gi, .ref ge, .ref gt, .ref go, .ref gb, .ref gm, .ref gl, .int (nI i0.2), .int (nI e0.2), .int (nI t0.2), .int (nI mk), .int (nI ((ap1 (ap (dr L0) (nmL 76 68 73)) 32).2))])), (gl, .inl (cl, 32, .inl (iN ((ap1 (ap (dr L0) (nmL 76 68 73)) 32).1))))] := hD
                            refine stk (st2 := []) rfl ?_
                            refine lv_iload_n hx hb d_Mo_front_253 rfl (lv_at hl 0 rfl) ?_
                            refine lv_iconst (v := nI 3) hx hb d_Mo_front_254 (by decide) ?_
                            refine z_icmp_eq (tgt := 263) hx hb d_Mo_front_255 (tI_n (by omega)) (tI_n (by omega)) (by decide) (fun g255 => ?_) (fun g255 => ?_)
                            · exfalso; omega
                            · refine lv_iload_n hx hb d_Mo_front_258 rfl (lv_at hl 0 rfl) ?_
                              refine lv_iconst (v := nI 4) hx hb d_Mo_front_259 (by decide) ?_
                              refine z_icmp_ne (tgt := 278) hx hb d_Mo_front_260 (tI_n (by omega)) (tI_n (by omega)) (by decide) (fun g260 => ?_) (fun g260 => ?_)
                              · refine lv_iload_n hx hb d_Mo_front_278 rfl (lv_at hl 2 rfl) ?_
                                refine lv_bipush (v := nI 82) hx hb d_Mo_front_279 (by decide) ?_
                                refine z_icmp_lt (tgt := 301) hx hb d_Mo_front_281 (tI_n (by omega)) (tI_n (by omega)) (by decide) (fun g281 => ?_) (fun g281 => ?_)
                                · refine lv_iload_n hx hb d_Mo_front_301 rfl (lv_at hl 0 rfl) ?_
                                  refine lv_iconst (v := nI 5) hx hb d_Mo_front_302 (by decide) ?_
                                  refine z_icmp_eq (tgt := 313) hx hb d_Mo_front_303 (tI_n (by omega)) (tI_n (by omega)) (by decide) (fun g303 => ?_) (fun g303 => ?_)
                                  · exfalso; omega
                                  · refine lv_aload_n hx hb d_Mo_front_306 rfl (lv_at hl 1 rfl) ?_
                                    refine lv_iload_n hx hb d_Mo_front_307 rfl (lv_at hl 2 rfl) ?_
                                    refine lv_iconst (v := nI 4) hx hb d_Mo_front_308 (by decide) ?_
                                    refine nRem hx hb d_Mo_front_309 (by omega) (by omega) (by omega) ?_
                                    refine uV (As := [.int (nI (f % 4))]) (rest := []) (wr := []) hx hb hml hown ht (c_Mo_register l dC dI z _ o gi ge gt go gb gm gl i0 e0 t0 mk (ap1 (ap (dr L0) (nmL 76 68 73)) 32) cl (f % 4) (Nat.le_of_ble_eq_true rfl) (by first | assumption | omega)) yv_Mo_register k_625 (Nat.le_of_ble_eq_true rfl) (Nat.le_of_ble_eq_true rfl) hP hK hSS hD hS hA [0, 1] [] [0] rfl rfl (by decide) rfl (by decide) (by decide) rfl 0 5 rfl rfl rfl hl rfl rfl (Nat.le_of_ble_eq_true rfl) (Nat.zero_le _) (Nat.zero_le _) d_Mo_front_310 (fun H locs hP hD hS => ?_)
                                    have hP : va_P (dC, dI) classes [(o, .inr (5, [.ref gi, .ref ge, .ref gt, .ref go, .ref gb, .ref gm, .ref gl, .int (nI i0.2), .int (nI e0.2), .int (nI t0.2), .int (nI mk), .int (nI ((ap (ap1 (ap (dr L0) (nmL 76 68 73)) 32) (rgM (f % 4))).2))])), (gl, .inl (cl, 32, .inl (iN ((ap (ap1 (ap (dr L0) (nmL 76 68 73)) 32) (rgM (f % 4))).1))))] H := hP
                                    have hD : va_D A [(o, .inr (5, [.ref gi, .ref ge, .ref gt, .ref go, .ref gb, .ref gm, .ref gl, .int (nI i0.2), .int (nI e0.2), .int (nI t0.2), .int (nI mk), .int (nI ((ap (ap1 (ap (dr L0) (nmL 76 68 73)) 32) (rgM (f % 4))).2))])), (gl, .inl (cl, 32, .inl (iN ((ap (ap1 (ap (dr L0) (nmL 76 68 73)) 32) (rgM (f % 4))).1))))] := hD
                                    refine stk (st2 := []) rfl ?_
                                    refine lv_iload_n hx hb d_Mo_front_313 rfl (lv_at hl 2 rfl) ?_
                                    refine rS (As := [.int (nI f)]) (rest := []) hx hb hml hown ht (c_Mo_longOf l dC dI z f (by first | assumption | omega)) ys_Mo_longOf k_560 (Nat.le_of_ble_eq_true rfl) (Nat.le_of_ble_eq_true rfl) hP hK hSS hS [] [] rfl rfl hl rfl rfl (Nat.le_of_ble_eq_true rfl) (Nat.zero_le _) (Nat.zero_le _) d_Mo_front_314 ?_
                                    refine lv_iconst (v := nI 1) hx hb d_Mo_front_317 (by decide) ?_
                                    refine z_icmp_le (tgt := 339) hx hb d_Mo_front_318 (tI_n (by omega)) (tI_n (by omega)) (by decide) (fun g318 => ?_) (fun g318 => ?_)
                                    · rw [hfr]
                                      exact eUv hx hb hr hlocks hP hD hS [0, 1] rfl rfl (by decide) d_Mo_front_339
                                    · exfalso; omega
                                · exfalso; omega
                              · exfalso; omega
                          · exfalso; omega
                        · exfalso; omega
                      · exfalso; omega
                    · exfalso; omega
                  · exfalso; omega
                · exfalso; omega
              · exfalso; omega
            · exfalso; omega
          · exfalso; omega
      · exfalso; omega
    · exfalso; omega
  · obtain ⟨hfr, hlg⟩ := fr_7 hf ef
    have hl3 := lgO_le f
    have hlg2 : ¬ 1 < lgO f := fun q => hlg.mp q
    refine lv_iload_n hx hb d_Mo_front_5 rfl (lv_at hl 1 rfl) ?_
    refine lv_bipush (v := nI 16) hx hb d_Mo_front_6 (by decide) ?_
    refine nDiv hx hb d_Mo_front_8 (by omega) (by omega) (by omega) ?_
    refine lv_istore_n (lv' := [(2, .int (nI (f / 16))), (0, .ref o), (1, .int (nI f))]) hx hb d_Mo_front_9 rfl hl (Nat.le_of_ble_eq_true rfl) rfl (fun ls hl => ?_)
    refine lv_iload_n hx hb d_Mo_front_10 rfl (lv_at hl 0 rfl) ?_
    refine z_if_ne (tgt := 70) hx hb d_Mo_front_11 (tI_n (by omega)) (by decide) (fun g11 => ?_) (fun g11 => ?_)
    · refine lv_iload_n hx hb d_Mo_front_70 rfl (lv_at hl 0 rfl) ?_
      refine lv_iconst (v := nI 1) hx hb d_Mo_front_71 (by decide) ?_
      refine z_icmp_ne (tgt := 85) hx hb d_Mo_front_72 (tI_n (by omega)) (tI_n (by omega)) (by decide) (fun g72 => ?_) (fun g72 => ?_)
      · refine lv_iload_n hx hb d_Mo_front_85 rfl (lv_at hl 0 rfl) ?_
        refine lv_iconst (v := nI 2) hx hb d_Mo_front_86 (by decide) ?_
        refine z_icmp_ne (tgt := 100) hx hb d_Mo_front_87 (tI_n (by omega)) (tI_n (by omega)) (by decide) (fun g87 => ?_) (fun g87 => ?_)
        · refine lv_iload_n hx hb d_Mo_front_100 rfl (lv_at hl 0 rfl) ?_
          refine lv_iconst (v := nI 3) hx hb d_Mo_front_101 (by decide) ?_
          refine z_icmp_ne (tgt := 115) hx hb d_Mo_front_102 (tI_n (by omega)) (tI_n (by omega)) (by decide) (fun g102 => ?_) (fun g102 => ?_)
          · exfalso; omega
          · refine lv_aload_n hx hb d_Mo_front_105 rfl (lv_at hl 1 rfl) ?_
            refine lv_bipush (v := nI 77) hx hb d_Mo_front_106 (by decide) ?_
            refine lv_bipush (v := nI 79) hx hb d_Mo_front_108 (by decide) ?_
            refine lv_bipush (v := nI 86) hx hb d_Mo_front_110 (by decide) ?_
            refine uV (As := [.int (nI 77), .int (nI 79), .int (nI 86)]) (rest := []) (wr := []) hx hb hml hown ht (c_Mo_name l dC dI z _ o gi ge gt go gb gm gl i0 e0 t0 mk (dr L0) cl 77 79 86 (Nat.le_of_ble_eq_true rfl) (by first | assumption | omega)) yv_Mo_name k_605 (Nat.le_of_ble_eq_true rfl) (Nat.le_of_ble_eq_true rfl) hP hK hSS hD hS hA [0, 1] [] [0] rfl rfl (by decide) rfl (by decide) (by decide) rfl 0 5 rfl rfl rfl hl rfl rfl (Nat.le_of_ble_eq_true rfl) (Nat.zero_le _) (Nat.zero_le _) d_Mo_front_112 (fun H locs hP hD hS => ?_)
            have hP : va_P (dC, dI) classes [(o, .inr (5, [.ref gi, .ref ge, .ref gt, .ref go, .ref gb, .ref gm, .ref gl, .int (nI i0.2), .int (nI e0.2), .int (nI t0.2), .int (nI mk), .int (nI ((ap (dr L0) (nmL 77 79 86)).2))])), (gl, .inl (cl, 32, .inl (iN ((ap (dr L0) (nmL 77 79 86)).1))))] H := hP
            have hD : va_D A [(o, .inr (5, [.ref gi, .ref ge, .ref gt, .ref go, .ref gb, .ref gm, .ref gl, .int (nI i0.2), .int (nI e0.2), .int (nI t0.2), .int (nI mk), .int (nI ((ap (dr L0) (nmL 77 79 86)).2))])), (gl, .inl (cl, 32, .inl (iN ((ap (dr L0) (nmL 77 79 86)).1))))] := hD
            refine stk (st2 := []) rfl ?_
            refine lv_iload_n hx hb d_Mo_front_115 rfl (lv_at hl 0 rfl) ?_
            refine lv_iconst (v := nI 4) hx hb d_Mo_front_116 (by decide) ?_
            refine z_icmp_ne (tgt := 130) hx hb d_Mo_front_117 (tI_n (by omega)) (tI_n (by omega)) (by decide) (fun g117 => ?_) (fun g117 => ?_)
            · refine lv_iload_n hx hb d_Mo_front_130 rfl (lv_at hl 2 rfl) ?_
              refine lv_bipush (v := nI 80) hx hb d_Mo_front_131 (by decide) ?_
              refine z_icmp_ne (tgt := 146) hx hb d_Mo_front_133 (tI_n (by omega)) (tI_n (by omega)) (by decide) (fun g133 => ?_) (fun g133 => ?_)
              · refine lv_iload_n hx hb d_Mo_front_146 rfl (lv_at hl 2 rfl) ?_
                refine lv_bipush (v := nI 81) hx hb d_Mo_front_147 (by decide) ?_
                refine z_icmp_ne (tgt := 162) hx hb d_Mo_front_149 (tI_n (by omega)) (tI_n (by omega)) (by decide) (fun g149 => ?_) (fun g149 => ?_)
                · refine lv_iload_n hx hb d_Mo_front_162 rfl (lv_at hl 2 rfl) ?_
                  refine lv_bipush (v := nI 81) hx hb d_Mo_front_163 (by decide) ?_
                  refine z_icmp_ne (tgt := 174) hx hb d_Mo_front_165 (tI_n (by omega)) (tI_n (by omega)) (by decide) (fun g165 => ?_) (fun g165 => ?_)
                  · refine lv_iload_n hx hb d_Mo_front_174 rfl (lv_at hl 2 rfl) ?_
                    refine lv_bipush (v := nI 82) hx hb d_Mo_front_175 (by decide) ?_
                    refine z_icmp_lt (tgt := 195) hx hb d_Mo_front_177 (tI_n (by omega)) (tI_n (by omega)) (by decide) (fun g177 => ?_) (fun g177 => ?_)
                    · refine lv_iload_n hx hb d_Mo_front_195 rfl (lv_at hl 0 rfl) ?_
                      refine lv_bipush (v := nI 6) hx hb d_Mo_front_196 (by decide) ?_
                      refine z_icmp_ne (tgt := 211) hx hb d_Mo_front_198 (tI_n (by omega)) (tI_n (by omega)) (by decide) (fun g198 => ?_) (fun g198 => ?_)
                      · refine lv_iload_n hx hb d_Mo_front_211 rfl (lv_at hl 2 rfl) ?_
                        refine lv_bipush (v := nI 112) hx hb d_Mo_front_212 (by decide) ?_
                        refine z_icmp_lt (tgt := 232) hx hb d_Mo_front_214 (tI_n (by omega)) (tI_n (by omega)) (by decide) (fun g214 => ?_) (fun g214 => ?_)
                        · refine lv_iload_n hx hb d_Mo_front_232 rfl (lv_at hl 2 rfl) ?_
                          refine lv_bipush (v := nI 116) hx hb d_Mo_front_233 (by decide) ?_
                          refine z_icmp_lt (tgt := 247) hx hb d_Mo_front_235 (tI_n (by omega)) (tI_n (by omega)) (by decide) (fun g235 => ?_) (fun g235 => ?_)
                          · refine lv_aload_n hx hb d_Mo_front_247 rfl (lv_at hl 1 rfl) ?_
                            refine lv_bipush (v := nI 32) hx hb d_Mo_front_248 (by decide) ?_
                            refine uV (As := [.int (nI 32)]) (rest := []) (wr := []) hx hb hml hown ht (c_Mo_put l dC dI z _ o gi ge gt go gb gm gl i0 e0 t0 mk (ap (dr L0) (nmL 77 79 86)) cl 32 (Nat.le_of_ble_eq_true rfl)) yv_Mo_put k_609 (Nat.le_of_ble_eq_true rfl) (Nat.le_of_ble_eq_true rfl) hP hK hSS hD hS hA [0, 1] [] [0] rfl rfl (by decide) rfl (by decide) (by decide) rfl 0 5 rfl rfl rfl hl rfl rfl (Nat.le_of_ble_eq_true rfl) (Nat.zero_le _) (Nat.zero_le _) d_Mo_front_250 (fun H locs hP hD hS => ?_)
                            have hP : va_P (dC, dI) classes [(o, .inr (5, [.ref gi, .ref ge, .ref gt, .ref go, .ref gb, .ref gm, .ref gl, .int (nI i0.2), .int (nI e0.2), .int (nI t0.2), .int (nI mk), .int (nI ((ap1 (ap (dr L0) (nmL 77 79 86)) 32).2))])), (gl, .inl (cl, 32, .inl (iN ((ap1 (ap (dr L0) (nmL 77 79 86)) 32).1))))] H := hP
                            have hD : va_D A [(o, .inr (5, [.ref gi, .ref ge, .ref gt, .ref go, .ref gb, .ref gm, .ref gl, .int (nI i0.2), .int (nI e0.2), .int (nI t0.2), .int (nI mk), .int (nI ((ap1 (ap (dr L0) (nmL 77 79 86)) 32).2))])), (gl, .inl (cl, 32, .inl (iN ((ap1 (ap (dr L0) (nmL 77 79 86)) 32).1))))] := hD
                            refine stk (st2 := []) rfl ?_
                            refine lv_iload_n hx hb d_Mo_front_253 rfl (lv_at hl 0 rfl) ?_
                            refine lv_iconst (v := nI 3) hx hb d_Mo_front_254 (by decide) ?_
                            refine z_icmp_eq (tgt := 263) hx hb d_Mo_front_255 (tI_n (by omega)) (tI_n (by omega)) (by decide) (fun g255 => ?_) (fun g255 => ?_)
                            · refine lv_aload_n hx hb d_Mo_front_263 rfl (lv_at hl 1 rfl) ?_
                              refine lv_iload_n hx hb d_Mo_front_264 rfl (lv_at hl 2 rfl) ?_
                              refine lv_iconst (v := nI 4) hx hb d_Mo_front_265 (by decide) ?_
                              refine nDiv hx hb d_Mo_front_266 (by omega) (by omega) (by omega) ?_
                              refine lv_iconst (v := nI 4) hx hb d_Mo_front_267 (by decide) ?_
                              refine nRem hx hb d_Mo_front_268 (by omega) (by omega) (by omega) ?_
                              refine uV (As := [.int (nI ((f / 4) % 4))]) (rest := []) (wr := []) hx hb hml hown ht (c_Mo_register l dC dI z _ o gi ge gt go gb gm gl i0 e0 t0 mk (ap1 (ap (dr L0) (nmL 77 79 86)) 32) cl ((f / 4) % 4) (Nat.le_of_ble_eq_true rfl) (by first | assumption | omega)) yv_Mo_register k_625 (Nat.le_of_ble_eq_true rfl) (Nat.le_of_ble_eq_true rfl) hP hK hSS hD hS hA [0, 1] [] [0] rfl rfl (by decide) rfl (by decide) (by decide) rfl 0 5 rfl rfl rfl hl rfl rfl (Nat.le_of_ble_eq_true rfl) (Nat.zero_le _) (Nat.zero_le _) d_Mo_front_269 (fun H locs hP hD hS => ?_)
                              have hP : va_P (dC, dI) classes [(o, .inr (5, [.ref gi, .ref ge, .ref gt, .ref go, .ref gb, .ref gm, .ref gl, .int (nI i0.2), .int (nI e0.2), .int (nI t0.2), .int (nI mk), .int (nI ((ap (ap1 (ap (dr L0) (nmL 77 79 86)) 32) (rgM ((f / 4) % 4))).2))])), (gl, .inl (cl, 32, .inl (iN ((ap (ap1 (ap (dr L0) (nmL 77 79 86)) 32) (rgM ((f / 4) % 4))).1))))] H := hP
                              have hD : va_D A [(o, .inr (5, [.ref gi, .ref ge, .ref gt, .ref go, .ref gb, .ref gm, .ref gl, .int (nI i0.2), .int (nI e0.2), .int (nI t0.2), .int (nI mk), .int (nI ((ap (ap1 (ap (dr L0) (nmL 77 79 86)) 32) (rgM ((f / 4) % 4))).2))])), (gl, .inl (cl, 32, .inl (iN ((ap (ap1 (ap (dr L0) (nmL 77 79 86)) 32) (rgM ((f / 4) % 4))).1))))] := hD
                              refine stk (st2 := []) rfl ?_
                              refine lv_aload_n hx hb d_Mo_front_272 rfl (lv_at hl 1 rfl) ?_
                              refine lv_bipush (v := nI 44) hx hb d_Mo_front_273 (by decide) ?_
                              refine uV (As := [.int (nI 44)]) (rest := []) (wr := []) hx hb hml hown ht (c_Mo_put l dC dI z _ o gi ge gt go gb gm gl i0 e0 t0 mk (ap (ap1 (ap (dr L0) (nmL 77 79 86)) 32) (rgM ((f / 4) % 4))) cl 44 (Nat.le_of_ble_eq_true rfl)) yv_Mo_put k_609 (Nat.le_of_ble_eq_true rfl) (Nat.le_of_ble_eq_true rfl) hP hK hSS hD hS hA [0, 1] [] [0] rfl rfl (by decide) rfl (by decide) (by decide) rfl 0 5 rfl rfl rfl hl rfl rfl (Nat.le_of_ble_eq_true rfl) (Nat.zero_le _) (Nat.zero_le _) d_Mo_front_275 (fun H locs hP hD hS => ?_)
                              have hP : va_P (dC, dI) classes [(o, .inr (5, [.ref gi, .ref ge, .ref gt, .ref go, .ref gb, .ref gm, .ref gl, .int (nI i0.2), .int (nI e0.2), .int (nI t0.2), .int (nI mk), .int (nI ((ap1 (ap (ap1 (ap (dr L0) (nmL 77 79 86)) 32) (rgM ((f / 4) % 4))) 44).2))])), (gl, .inl (cl, 32, .inl (iN ((ap1 (ap (ap1 (ap (dr L0) (nmL 77 79 86)) 32) (rgM ((f / 4) % 4))) 44).1))))] H := hP
                              have hD : va_D A [(o, .inr (5, [.ref gi, .ref ge, .ref gt, .ref go, .ref gb, .ref gm, .ref gl, .int (nI i0.2), .int (nI e0.2), .int (nI t0.2), .int (nI mk), .int (nI ((ap1 (ap (ap1 (ap (dr L0) (nmL 77 79 86)) 32) (rgM ((f / 4) % 4))) 44).2))])), (gl, .inl (cl, 32, .inl (iN ((ap1 (ap (ap1 (ap (dr L0) (nmL 77 79 86)) 32) (rgM ((f / 4) % 4))) 44).1))))] := hD
                              refine stk (st2 := []) rfl ?_
                              refine lv_iload_n hx hb d_Mo_front_278 rfl (lv_at hl 2 rfl) ?_
                              refine lv_bipush (v := nI 82) hx hb d_Mo_front_279 (by decide) ?_
                              refine z_icmp_lt (tgt := 301) hx hb d_Mo_front_281 (tI_n (by omega)) (tI_n (by omega)) (by decide) (fun g281 => ?_) (fun g281 => ?_)
                              · refine lv_iload_n hx hb d_Mo_front_301 rfl (lv_at hl 0 rfl) ?_
                                refine lv_iconst (v := nI 5) hx hb d_Mo_front_302 (by decide) ?_
                                refine z_icmp_eq (tgt := 313) hx hb d_Mo_front_303 (tI_n (by omega)) (tI_n (by omega)) (by decide) (fun g303 => ?_) (fun g303 => ?_)
                                · exfalso; omega
                                · refine lv_aload_n hx hb d_Mo_front_306 rfl (lv_at hl 1 rfl) ?_
                                  refine lv_iload_n hx hb d_Mo_front_307 rfl (lv_at hl 2 rfl) ?_
                                  refine lv_iconst (v := nI 4) hx hb d_Mo_front_308 (by decide) ?_
                                  refine nRem hx hb d_Mo_front_309 (by omega) (by omega) (by omega) ?_
                                  refine uV (As := [.int (nI (f % 4))]) (rest := []) (wr := []) hx hb hml hown ht (c_Mo_register l dC dI z _ o gi ge gt go gb gm gl i0 e0 t0 mk (ap1 (ap (ap1 (ap (dr L0) (nmL 77 79 86)) 32) (rgM ((f / 4) % 4))) 44) cl (f % 4) (Nat.le_of_ble_eq_true rfl) (by first | assumption | omega)) yv_Mo_register k_625 (Nat.le_of_ble_eq_true rfl) (Nat.le_of_ble_eq_true rfl) hP hK hSS hD hS hA [0, 1] [] [0] rfl rfl (by decide) rfl (by decide) (by decide) rfl 0 5 rfl rfl rfl hl rfl rfl (Nat.le_of_ble_eq_true rfl) (Nat.zero_le _) (Nat.zero_le _) d_Mo_front_310 (fun H locs hP hD hS => ?_)
                                  have hP : va_P (dC, dI) classes [(o, .inr (5, [.ref gi, .ref ge, .ref gt, .ref go, .ref gb, .ref gm, .ref gl, .int (nI i0.2), .int (nI e0.2), .int (nI t0.2), .int (nI mk), .int (nI ((ap (ap1 (ap (ap1 (ap (dr L0) (nmL 77 79 86)) 32) (rgM ((f / 4) % 4))) 44) (rgM (f % 4))).2))])), (gl, .inl (cl, 32, .inl (iN ((ap (ap1 (ap (ap1 (ap (dr L0) (nmL 77 79 86)) 32) (rgM ((f / 4) % 4))) 44) (rgM (f % 4))).1))))] H := hP
                                  have hD : va_D A [(o, .inr (5, [.ref gi, .ref ge, .ref gt, .ref go, .ref gb, .ref gm, .ref gl, .int (nI i0.2), .int (nI e0.2), .int (nI t0.2), .int (nI mk), .int (nI ((ap (ap1 (ap (ap1 (ap (dr L0) (nmL 77 79 86)) 32) (rgM ((f / 4) % 4))) 44) (rgM (f % 4))).2))])), (gl, .inl (cl, 32, .inl (iN ((ap (ap1 (ap (ap1 (ap (dr L0) (nmL 77 79 86)) 32) (rgM ((f / 4) % 4))) 44) (rgM (f % 4))).1))))] := hD
                                  refine stk (st2 := []) rfl ?_
                                  refine lv_iload_n hx hb d_Mo_front_313 rfl (lv_at hl 2 rfl) ?_
                                  refine rS (As := [.int (nI f)]) (rest := []) hx hb hml hown ht (c_Mo_longOf l dC dI z f (by first | assumption | omega)) ys_Mo_longOf k_560 (Nat.le_of_ble_eq_true rfl) (Nat.le_of_ble_eq_true rfl) hP hK hSS hS [] [] rfl rfl hl rfl rfl (Nat.le_of_ble_eq_true rfl) (Nat.zero_le _) (Nat.zero_le _) d_Mo_front_314 ?_
                                  refine lv_iconst (v := nI 1) hx hb d_Mo_front_317 (by decide) ?_
                                  refine z_icmp_le (tgt := 339) hx hb d_Mo_front_318 (tI_n (by omega)) (tI_n (by omega)) (by decide) (fun g318 => ?_) (fun g318 => ?_)
                                  · rw [hfr]
                                    exact eUv hx hb hr hlocks hP hD hS [0, 1] rfl rfl (by decide) d_Mo_front_339
                                  · exfalso; omega
                              · exfalso; omega
                            · exfalso; omega
                          · exfalso; omega
                        · exfalso; omega
                      · exfalso; omega
                    · exfalso; omega
                  · exfalso; omega
                · exfalso; omega
              · exfalso; omega
            · exfalso; omega
        · exfalso; omega
      · exfalso; omega
    · exfalso; omega
  · obtain ⟨hfr, hlg⟩ := fr_8 hf ef
    have hl3 := lgO_le f
    have hlg2 : ¬ 1 < lgO f := fun q => hlg.mp q
    refine lv_iload_n hx hb d_Mo_front_5 rfl (lv_at hl 1 rfl) ?_
    refine lv_bipush (v := nI 16) hx hb d_Mo_front_6 (by decide) ?_
    refine nDiv hx hb d_Mo_front_8 (by omega) (by omega) (by omega) ?_
    refine lv_istore_n (lv' := [(2, .int (nI (f / 16))), (0, .ref o), (1, .int (nI f))]) hx hb d_Mo_front_9 rfl hl (Nat.le_of_ble_eq_true rfl) rfl (fun ls hl => ?_)
    refine lv_iload_n hx hb d_Mo_front_10 rfl (lv_at hl 0 rfl) ?_
    refine z_if_ne (tgt := 70) hx hb d_Mo_front_11 (tI_n (by omega)) (by decide) (fun g11 => ?_) (fun g11 => ?_)
    · refine lv_iload_n hx hb d_Mo_front_70 rfl (lv_at hl 0 rfl) ?_
      refine lv_iconst (v := nI 1) hx hb d_Mo_front_71 (by decide) ?_
      refine z_icmp_ne (tgt := 85) hx hb d_Mo_front_72 (tI_n (by omega)) (tI_n (by omega)) (by decide) (fun g72 => ?_) (fun g72 => ?_)
      · refine lv_iload_n hx hb d_Mo_front_85 rfl (lv_at hl 0 rfl) ?_
        refine lv_iconst (v := nI 2) hx hb d_Mo_front_86 (by decide) ?_
        refine z_icmp_ne (tgt := 100) hx hb d_Mo_front_87 (tI_n (by omega)) (tI_n (by omega)) (by decide) (fun g87 => ?_) (fun g87 => ?_)
        · refine lv_iload_n hx hb d_Mo_front_100 rfl (lv_at hl 0 rfl) ?_
          refine lv_iconst (v := nI 3) hx hb d_Mo_front_101 (by decide) ?_
          refine z_icmp_ne (tgt := 115) hx hb d_Mo_front_102 (tI_n (by omega)) (tI_n (by omega)) (by decide) (fun g102 => ?_) (fun g102 => ?_)
          · refine lv_iload_n hx hb d_Mo_front_115 rfl (lv_at hl 0 rfl) ?_
            refine lv_iconst (v := nI 4) hx hb d_Mo_front_116 (by decide) ?_
            refine z_icmp_ne (tgt := 130) hx hb d_Mo_front_117 (tI_n (by omega)) (tI_n (by omega)) (by decide) (fun g117 => ?_) (fun g117 => ?_)
            · exfalso; omega
            · refine lv_aload_n hx hb d_Mo_front_120 rfl (lv_at hl 1 rfl) ?_
              refine lv_bipush (v := nI 65) hx hb d_Mo_front_121 (by decide) ?_
              refine lv_bipush (v := nI 68) hx hb d_Mo_front_123 (by decide) ?_
              refine lv_bipush (v := nI 68) hx hb d_Mo_front_125 (by decide) ?_
              refine uV (As := [.int (nI 65), .int (nI 68), .int (nI 68)]) (rest := []) (wr := []) hx hb hml hown ht (c_Mo_name l dC dI z _ o gi ge gt go gb gm gl i0 e0 t0 mk (dr L0) cl 65 68 68 (Nat.le_of_ble_eq_true rfl) (by first | assumption | omega)) yv_Mo_name k_605 (Nat.le_of_ble_eq_true rfl) (Nat.le_of_ble_eq_true rfl) hP hK hSS hD hS hA [0, 1] [] [0] rfl rfl (by decide) rfl (by decide) (by decide) rfl 0 5 rfl rfl rfl hl rfl rfl (Nat.le_of_ble_eq_true rfl) (Nat.zero_le _) (Nat.zero_le _) d_Mo_front_127 (fun H locs hP hD hS => ?_)
              have hP : va_P (dC, dI) classes [(o, .inr (5, [.ref gi, .ref ge, .ref gt, .ref go, .ref gb, .ref gm, .ref gl, .int (nI i0.2), .int (nI e0.2), .int (nI t0.2), .int (nI mk), .int (nI ((ap (dr L0) (nmL 65 68 68)).2))])), (gl, .inl (cl, 32, .inl (iN ((ap (dr L0) (nmL 65 68 68)).1))))] H := hP
              have hD : va_D A [(o, .inr (5, [.ref gi, .ref ge, .ref gt, .ref go, .ref gb, .ref gm, .ref gl, .int (nI i0.2), .int (nI e0.2), .int (nI t0.2), .int (nI mk), .int (nI ((ap (dr L0) (nmL 65 68 68)).2))])), (gl, .inl (cl, 32, .inl (iN ((ap (dr L0) (nmL 65 68 68)).1))))] := hD
              refine stk (st2 := []) rfl ?_
              refine lv_iload_n hx hb d_Mo_front_130 rfl (lv_at hl 2 rfl) ?_
              refine lv_bipush (v := nI 80) hx hb d_Mo_front_131 (by decide) ?_
              refine z_icmp_ne (tgt := 146) hx hb d_Mo_front_133 (tI_n (by omega)) (tI_n (by omega)) (by decide) (fun g133 => ?_) (fun g133 => ?_)
              · refine lv_iload_n hx hb d_Mo_front_146 rfl (lv_at hl 2 rfl) ?_
                refine lv_bipush (v := nI 81) hx hb d_Mo_front_147 (by decide) ?_
                refine z_icmp_ne (tgt := 162) hx hb d_Mo_front_149 (tI_n (by omega)) (tI_n (by omega)) (by decide) (fun g149 => ?_) (fun g149 => ?_)
                · refine lv_iload_n hx hb d_Mo_front_162 rfl (lv_at hl 2 rfl) ?_
                  refine lv_bipush (v := nI 81) hx hb d_Mo_front_163 (by decide) ?_
                  refine z_icmp_ne (tgt := 174) hx hb d_Mo_front_165 (tI_n (by omega)) (tI_n (by omega)) (by decide) (fun g165 => ?_) (fun g165 => ?_)
                  · refine lv_iload_n hx hb d_Mo_front_174 rfl (lv_at hl 2 rfl) ?_
                    refine lv_bipush (v := nI 82) hx hb d_Mo_front_175 (by decide) ?_
                    refine z_icmp_lt (tgt := 195) hx hb d_Mo_front_177 (tI_n (by omega)) (tI_n (by omega)) (by decide) (fun g177 => ?_) (fun g177 => ?_)
                    · refine lv_iload_n hx hb d_Mo_front_195 rfl (lv_at hl 0 rfl) ?_
                      refine lv_bipush (v := nI 6) hx hb d_Mo_front_196 (by decide) ?_
                      refine z_icmp_ne (tgt := 211) hx hb d_Mo_front_198 (tI_n (by omega)) (tI_n (by omega)) (by decide) (fun g198 => ?_) (fun g198 => ?_)
                      · refine lv_iload_n hx hb d_Mo_front_211 rfl (lv_at hl 2 rfl) ?_
                        refine lv_bipush (v := nI 112) hx hb d_Mo_front_212 (by decide) ?_
                        refine z_icmp_lt (tgt := 232) hx hb d_Mo_front_214 (tI_n (by omega)) (tI_n (by omega)) (by decide) (fun g214 => ?_) (fun g214 => ?_)
                        · refine lv_iload_n hx hb d_Mo_front_232 rfl (lv_at hl 2 rfl) ?_
                          refine lv_bipush (v := nI 116) hx hb d_Mo_front_233 (by decide) ?_
                          refine z_icmp_lt (tgt := 247) hx hb d_Mo_front_235 (tI_n (by omega)) (tI_n (by omega)) (by decide) (fun g235 => ?_) (fun g235 => ?_)
                          · refine lv_aload_n hx hb d_Mo_front_247 rfl (lv_at hl 1 rfl) ?_
                            refine lv_bipush (v := nI 32) hx hb d_Mo_front_248 (by decide) ?_
                            refine uV (As := [.int (nI 32)]) (rest := []) (wr := []) hx hb hml hown ht (c_Mo_put l dC dI z _ o gi ge gt go gb gm gl i0 e0 t0 mk (ap (dr L0) (nmL 65 68 68)) cl 32 (Nat.le_of_ble_eq_true rfl)) yv_Mo_put k_609 (Nat.le_of_ble_eq_true rfl) (Nat.le_of_ble_eq_true rfl) hP hK hSS hD hS hA [0, 1] [] [0] rfl rfl (by decide) rfl (by decide) (by decide) rfl 0 5 rfl rfl rfl hl rfl rfl (Nat.le_of_ble_eq_true rfl) (Nat.zero_le _) (Nat.zero_le _) d_Mo_front_250 (fun H locs hP hD hS => ?_)
                            have hP : va_P (dC, dI) classes [(o, .inr (5, [.ref gi, .ref ge, .ref gt, .ref go, .ref gb, .ref gm, .ref gl, .int (nI i0.2), .int (nI e0.2), .int (nI t0.2), .int (nI mk), .int (nI ((ap1 (ap (dr L0) (nmL 65 68 68)) 32).2))])), (gl, .inl (cl, 32, .inl (iN ((ap1 (ap (dr L0) (nmL 65 68 68)) 32).1))))] H := hP
                            have hD : va_D A [(o, .inr (5, [.ref gi, .ref ge, .ref gt, .ref go, .ref gb, .ref gm, .ref gl, .int (nI i0.2), .int (nI e0.2), .int (nI t0.2), .int (nI mk), .int (nI ((ap1 (ap (dr L0) (nmL 65 68 68)) 32).2))])), (gl, .inl (cl, 32, .inl (iN ((ap1 (ap (dr L0) (nmL 65 68 68)) 32).1))))] := hD
                            refine stk (st2 := []) rfl ?_
                            refine lv_iload_n hx hb d_Mo_front_253 rfl (lv_at hl 0 rfl) ?_
                            refine lv_iconst (v := nI 3) hx hb d_Mo_front_254 (by decide) ?_
                            refine z_icmp_eq (tgt := 263) hx hb d_Mo_front_255 (tI_n (by omega)) (tI_n (by omega)) (by decide) (fun g255 => ?_) (fun g255 => ?_)
                            · exfalso; omega
                            · refine lv_iload_n hx hb d_Mo_front_258 rfl (lv_at hl 0 rfl) ?_
                              refine lv_iconst (v := nI 4) hx hb d_Mo_front_259 (by decide) ?_
                              refine z_icmp_ne (tgt := 278) hx hb d_Mo_front_260 (tI_n (by omega)) (tI_n (by omega)) (by decide) (fun g260 => ?_) (fun g260 => ?_)
                              · exfalso; omega
                              · refine lv_aload_n hx hb d_Mo_front_263 rfl (lv_at hl 1 rfl) ?_
                                refine lv_iload_n hx hb d_Mo_front_264 rfl (lv_at hl 2 rfl) ?_
                                refine lv_iconst (v := nI 4) hx hb d_Mo_front_265 (by decide) ?_
                                refine nDiv hx hb d_Mo_front_266 (by omega) (by omega) (by omega) ?_
                                refine lv_iconst (v := nI 4) hx hb d_Mo_front_267 (by decide) ?_
                                refine nRem hx hb d_Mo_front_268 (by omega) (by omega) (by omega) ?_
                                refine uV (As := [.int (nI ((f / 4) % 4))]) (rest := []) (wr := []) hx hb hml hown ht (c_Mo_register l dC dI z _ o gi ge gt go gb gm gl i0 e0 t0 mk (ap1 (ap (dr L0) (nmL 65 68 68)) 32) cl ((f / 4) % 4) (Nat.le_of_ble_eq_true rfl) (by first | assumption | omega)) yv_Mo_register k_625 (Nat.le_of_ble_eq_true rfl) (Nat.le_of_ble_eq_true rfl) hP hK hSS hD hS hA [0, 1] [] [0] rfl rfl (by decide) rfl (by decide) (by decide) rfl 0 5 rfl rfl rfl hl rfl rfl (Nat.le_of_ble_eq_true rfl) (Nat.zero_le _) (Nat.zero_le _) d_Mo_front_269 (fun H locs hP hD hS => ?_)
                                have hP : va_P (dC, dI) classes [(o, .inr (5, [.ref gi, .ref ge, .ref gt, .ref go, .ref gb, .ref gm, .ref gl, .int (nI i0.2), .int (nI e0.2), .int (nI t0.2), .int (nI mk), .int (nI ((ap (ap1 (ap (dr L0) (nmL 65 68 68)) 32) (rgM ((f / 4) % 4))).2))])), (gl, .inl (cl, 32, .inl (iN ((ap (ap1 (ap (dr L0) (nmL 65 68 68)) 32) (rgM ((f / 4) % 4))).1))))] H := hP
                                have hD : va_D A [(o, .inr (5, [.ref gi, .ref ge, .ref gt, .ref go, .ref gb, .ref gm, .ref gl, .int (nI i0.2), .int (nI e0.2), .int (nI t0.2), .int (nI mk), .int (nI ((ap (ap1 (ap (dr L0) (nmL 65 68 68)) 32) (rgM ((f / 4) % 4))).2))])), (gl, .inl (cl, 32, .inl (iN ((ap (ap1 (ap (dr L0) (nmL 65 68 68)) 32) (rgM ((f / 4) % 4))).1))))] := hD
                                refine stk (st2 := []) rfl ?_
                                refine lv_aload_n hx hb d_Mo_front_272 rfl (lv_at hl 1 rfl) ?_
                                refine lv_bipush (v := nI 44) hx hb d_Mo_front_273 (by decide) ?_
                                refine uV (As := [.int (nI 44)]) (rest := []) (wr := []) hx hb hml hown ht (c_Mo_put l dC dI z _ o gi ge gt go gb gm gl i0 e0 t0 mk (ap (ap1 (ap (dr L0) (nmL 65 68 68)) 32) (rgM ((f / 4) % 4))) cl 44 (Nat.le_of_ble_eq_true rfl)) yv_Mo_put k_609 (Nat.le_of_ble_eq_true rfl) (Nat.le_of_ble_eq_true rfl) hP hK hSS hD hS hA [0, 1] [] [0] rfl rfl (by decide) rfl (by decide) (by decide) rfl 0 5 rfl rfl rfl hl rfl rfl (Nat.le_of_ble_eq_true rfl) (Nat.zero_le _) (Nat.zero_le _) d_Mo_front_275 (fun H locs hP hD hS => ?_)
                                have hP : va_P (dC, dI) classes [(o, .inr (5, [.ref gi, .ref ge, .ref gt, .ref go, .ref gb, .ref gm, .ref gl, .int (nI i0.2), .int (nI e0.2), .int (nI t0.2), .int (nI mk), .int (nI ((ap1 (ap (ap1 (ap (dr L0) (nmL 65 68 68)) 32) (rgM ((f / 4) % 4))) 44).2))])), (gl, .inl (cl, 32, .inl (iN ((ap1 (ap (ap1 (ap (dr L0) (nmL 65 68 68)) 32) (rgM ((f / 4) % 4))) 44).1))))] H := hP
                                have hD : va_D A [(o, .inr (5, [.ref gi, .ref ge, .ref gt, .ref go, .ref gb, .ref gm, .ref gl, .int (nI i0.2), .int (nI e0.2), .int (nI t0.2), .int (nI mk), .int (nI ((ap1 (ap (ap1 (ap (dr L0) (nmL 65 68 68)) 32) (rgM ((f / 4) % 4))) 44).2))])), (gl, .inl (cl, 32, .inl (iN ((ap1 (ap (ap1 (ap (dr L0) (nmL 65 68 68)) 32) (rgM ((f / 4) % 4))) 44).1))))] := hD
                                refine stk (st2 := []) rfl ?_
                                refine lv_iload_n hx hb d_Mo_front_278 rfl (lv_at hl 2 rfl) ?_
                                refine lv_bipush (v := nI 82) hx hb d_Mo_front_279 (by decide) ?_
                                refine z_icmp_lt (tgt := 301) hx hb d_Mo_front_281 (tI_n (by omega)) (tI_n (by omega)) (by decide) (fun g281 => ?_) (fun g281 => ?_)
                                · refine lv_iload_n hx hb d_Mo_front_301 rfl (lv_at hl 0 rfl) ?_
                                  refine lv_iconst (v := nI 5) hx hb d_Mo_front_302 (by decide) ?_
                                  refine z_icmp_eq (tgt := 313) hx hb d_Mo_front_303 (tI_n (by omega)) (tI_n (by omega)) (by decide) (fun g303 => ?_) (fun g303 => ?_)
                                  · exfalso; omega
                                  · refine lv_aload_n hx hb d_Mo_front_306 rfl (lv_at hl 1 rfl) ?_
                                    refine lv_iload_n hx hb d_Mo_front_307 rfl (lv_at hl 2 rfl) ?_
                                    refine lv_iconst (v := nI 4) hx hb d_Mo_front_308 (by decide) ?_
                                    refine nRem hx hb d_Mo_front_309 (by omega) (by omega) (by omega) ?_
                                    refine uV (As := [.int (nI (f % 4))]) (rest := []) (wr := []) hx hb hml hown ht (c_Mo_register l dC dI z _ o gi ge gt go gb gm gl i0 e0 t0 mk (ap1 (ap (ap1 (ap (dr L0) (nmL 65 68 68)) 32) (rgM ((f / 4) % 4))) 44) cl (f % 4) (Nat.le_of_ble_eq_true rfl) (by first | assumption | omega)) yv_Mo_register k_625 (Nat.le_of_ble_eq_true rfl) (Nat.le_of_ble_eq_true rfl) hP hK hSS hD hS hA [0, 1] [] [0] rfl rfl (by decide) rfl (by decide) (by decide) rfl 0 5 rfl rfl rfl hl rfl rfl (Nat.le_of_ble_eq_true rfl) (Nat.zero_le _) (Nat.zero_le _) d_Mo_front_310 (fun H locs hP hD hS => ?_)
                                    have hP : va_P (dC, dI) classes [(o, .inr (5, [.ref gi, .ref ge, .ref gt, .ref go, .ref gb, .ref gm, .ref gl, .int (nI i0.2), .int (nI e0.2), .int (nI t0.2), .int (nI mk), .int (nI ((ap (ap1 (ap (ap1 (ap (dr L0) (nmL 65 68 68)) 32) (rgM ((f / 4) % 4))) 44) (rgM (f % 4))).2))])), (gl, .inl (cl, 32, .inl (iN ((ap (ap1 (ap (ap1 (ap (dr L0) (nmL 65 68 68)) 32) (rgM ((f / 4) % 4))) 44) (rgM (f % 4))).1))))] H := hP
                                    have hD : va_D A [(o, .inr (5, [.ref gi, .ref ge, .ref gt, .ref go, .ref gb, .ref gm, .ref gl, .int (nI i0.2), .int (nI e0.2), .int (nI t0.2), .int (nI mk), .int (nI ((ap (ap1 (ap (ap1 (ap (dr L0) (nmL 65 68 68)) 32) (rgM ((f / 4) % 4))) 44) (rgM (f % 4))).2))])), (gl, .inl (cl, 32, .inl (iN ((ap (ap1 (ap (ap1 (ap (dr L0) (nmL 65 68 68)) 32) (rgM ((f / 4) % 4))) 44) (rgM (f % 4))).1))))] := hD
                                    refine stk (st2 := []) rfl ?_
                                    refine lv_iload_n hx hb d_Mo_front_313 rfl (lv_at hl 2 rfl) ?_
                                    refine rS (As := [.int (nI f)]) (rest := []) hx hb hml hown ht (c_Mo_longOf l dC dI z f (by first | assumption | omega)) ys_Mo_longOf k_560 (Nat.le_of_ble_eq_true rfl) (Nat.le_of_ble_eq_true rfl) hP hK hSS hS [] [] rfl rfl hl rfl rfl (Nat.le_of_ble_eq_true rfl) (Nat.zero_le _) (Nat.zero_le _) d_Mo_front_314 ?_
                                    refine lv_iconst (v := nI 1) hx hb d_Mo_front_317 (by decide) ?_
                                    refine z_icmp_le (tgt := 339) hx hb d_Mo_front_318 (tI_n (by omega)) (tI_n (by omega)) (by decide) (fun g318 => ?_) (fun g318 => ?_)
                                    · rw [hfr]
                                      exact eUv hx hb hr hlocks hP hD hS [0, 1] rfl rfl (by decide) d_Mo_front_339
                                    · exfalso; omega
                                · exfalso; omega
                          · exfalso; omega
                        · exfalso; omega
                      · exfalso; omega
                    · exfalso; omega
                  · exfalso; omega
                · exfalso; omega
              · exfalso; omega
          · exfalso; omega
        · exfalso; omega
      · exfalso; omega
    · exfalso; omega
  · obtain ⟨hfr, hlg⟩ := fr_9 hf ef
    have hl3 := lgO_le f
    have hlg2 : 1 < lgO f := hlg.mpr trivial
    refine lv_iload_n hx hb d_Mo_front_5 rfl (lv_at hl 1 rfl) ?_
    refine lv_bipush (v := nI 16) hx hb d_Mo_front_6 (by decide) ?_
    refine nDiv hx hb d_Mo_front_8 (by omega) (by omega) (by omega) ?_
    refine lv_istore_n (lv' := [(2, .int (nI (f / 16))), (0, .ref o), (1, .int (nI f))]) hx hb d_Mo_front_9 rfl hl (Nat.le_of_ble_eq_true rfl) rfl (fun ls hl => ?_)
    refine lv_iload_n hx hb d_Mo_front_10 rfl (lv_at hl 0 rfl) ?_
    refine z_if_ne (tgt := 70) hx hb d_Mo_front_11 (tI_n (by omega)) (by decide) (fun g11 => ?_) (fun g11 => ?_)
    · refine lv_iload_n hx hb d_Mo_front_70 rfl (lv_at hl 0 rfl) ?_
      refine lv_iconst (v := nI 1) hx hb d_Mo_front_71 (by decide) ?_
      refine z_icmp_ne (tgt := 85) hx hb d_Mo_front_72 (tI_n (by omega)) (tI_n (by omega)) (by decide) (fun g72 => ?_) (fun g72 => ?_)
      · refine lv_iload_n hx hb d_Mo_front_85 rfl (lv_at hl 0 rfl) ?_
        refine lv_iconst (v := nI 2) hx hb d_Mo_front_86 (by decide) ?_
        refine z_icmp_ne (tgt := 100) hx hb d_Mo_front_87 (tI_n (by omega)) (tI_n (by omega)) (by decide) (fun g87 => ?_) (fun g87 => ?_)
        · refine lv_iload_n hx hb d_Mo_front_100 rfl (lv_at hl 0 rfl) ?_
          refine lv_iconst (v := nI 3) hx hb d_Mo_front_101 (by decide) ?_
          refine z_icmp_ne (tgt := 115) hx hb d_Mo_front_102 (tI_n (by omega)) (tI_n (by omega)) (by decide) (fun g102 => ?_) (fun g102 => ?_)
          · refine lv_iload_n hx hb d_Mo_front_115 rfl (lv_at hl 0 rfl) ?_
            refine lv_iconst (v := nI 4) hx hb d_Mo_front_116 (by decide) ?_
            refine z_icmp_ne (tgt := 130) hx hb d_Mo_front_117 (tI_n (by omega)) (tI_n (by omega)) (by decide) (fun g117 => ?_) (fun g117 => ?_)
            · refine lv_iload_n hx hb d_Mo_front_130 rfl (lv_at hl 2 rfl) ?_
              refine lv_bipush (v := nI 80) hx hb d_Mo_front_131 (by decide) ?_
              refine z_icmp_ne (tgt := 146) hx hb d_Mo_front_133 (tI_n (by omega)) (tI_n (by omega)) (by decide) (fun g133 => ?_) (fun g133 => ?_)
              · exfalso; omega
              · refine lv_aload_n hx hb d_Mo_front_136 rfl (lv_at hl 1 rfl) ?_
                refine lv_bipush (v := nI 74) hx hb d_Mo_front_137 (by decide) ?_
                refine lv_bipush (v := nI 77) hx hb d_Mo_front_139 (by decide) ?_
                refine lv_bipush (v := nI 80) hx hb d_Mo_front_141 (by decide) ?_
                refine uV (As := [.int (nI 74), .int (nI 77), .int (nI 80)]) (rest := []) (wr := []) hx hb hml hown ht (c_Mo_name l dC dI z _ o gi ge gt go gb gm gl i0 e0 t0 mk (dr L0) cl 74 77 80 (Nat.le_of_ble_eq_true rfl) (by first | assumption | omega)) yv_Mo_name k_605 (Nat.le_of_ble_eq_true rfl) (Nat.le_of_ble_eq_true rfl) hP hK hSS hD hS hA [0, 1] [] [0] rfl rfl (by decide) rfl (by decide) (by decide) rfl 0 5 rfl rfl rfl hl rfl rfl (Nat.le_of_ble_eq_true rfl) (Nat.zero_le _) (Nat.zero_le _) d_Mo_front_143 (fun H locs hP hD hS => ?_)
                have hP : va_P (dC, dI) classes [(o, .inr (5, [.ref gi, .ref ge, .ref gt, .ref go, .ref gb, .ref gm, .ref gl, .int (nI i0.2), .int (nI e0.2), .int (nI t0.2), .int (nI mk), .int (nI ((ap (dr L0) (nmL 74 77 80)).2))])), (gl, .inl (cl, 32, .inl (iN ((ap (dr L0) (nmL 74 77 80)).1))))] H := hP
                have hD : va_D A [(o, .inr (5, [.ref gi, .ref ge, .ref gt, .ref go, .ref gb, .ref gm, .ref gl, .int (nI i0.2), .int (nI e0.2), .int (nI t0.2), .int (nI mk), .int (nI ((ap (dr L0) (nmL 74 77 80)).2))])), (gl, .inl (cl, 32, .inl (iN ((ap (dr L0) (nmL 74 77 80)).1))))] := hD
                refine stk (st2 := []) rfl ?_
                refine lv_iload_n hx hb d_Mo_front_146 rfl (lv_at hl 2 rfl) ?_
                refine lv_bipush (v := nI 81) hx hb d_Mo_front_147 (by decide) ?_
                refine z_icmp_ne (tgt := 162) hx hb d_Mo_front_149 (tI_n (by omega)) (tI_n (by omega)) (by decide) (fun g149 => ?_) (fun g149 => ?_)
                · refine lv_iload_n hx hb d_Mo_front_162 rfl (lv_at hl 2 rfl) ?_
                  refine lv_bipush (v := nI 81) hx hb d_Mo_front_163 (by decide) ?_
                  refine z_icmp_ne (tgt := 174) hx hb d_Mo_front_165 (tI_n (by omega)) (tI_n (by omega)) (by decide) (fun g165 => ?_) (fun g165 => ?_)
                  · refine lv_iload_n hx hb d_Mo_front_174 rfl (lv_at hl 2 rfl) ?_
                    refine lv_bipush (v := nI 82) hx hb d_Mo_front_175 (by decide) ?_
                    refine z_icmp_lt (tgt := 195) hx hb d_Mo_front_177 (tI_n (by omega)) (tI_n (by omega)) (by decide) (fun g177 => ?_) (fun g177 => ?_)
                    · refine lv_iload_n hx hb d_Mo_front_195 rfl (lv_at hl 0 rfl) ?_
                      refine lv_bipush (v := nI 6) hx hb d_Mo_front_196 (by decide) ?_
                      refine z_icmp_ne (tgt := 211) hx hb d_Mo_front_198 (tI_n (by omega)) (tI_n (by omega)) (by decide) (fun g198 => ?_) (fun g198 => ?_)
                      · refine lv_iload_n hx hb d_Mo_front_211 rfl (lv_at hl 2 rfl) ?_
                        refine lv_bipush (v := nI 112) hx hb d_Mo_front_212 (by decide) ?_
                        refine z_icmp_lt (tgt := 232) hx hb d_Mo_front_214 (tI_n (by omega)) (tI_n (by omega)) (by decide) (fun g214 => ?_) (fun g214 => ?_)
                        · refine lv_iload_n hx hb d_Mo_front_232 rfl (lv_at hl 2 rfl) ?_
                          refine lv_bipush (v := nI 116) hx hb d_Mo_front_233 (by decide) ?_
                          refine z_icmp_lt (tgt := 247) hx hb d_Mo_front_235 (tI_n (by omega)) (tI_n (by omega)) (by decide) (fun g235 => ?_) (fun g235 => ?_)
                          · refine lv_aload_n hx hb d_Mo_front_247 rfl (lv_at hl 1 rfl) ?_
                            refine lv_bipush (v := nI 32) hx hb d_Mo_front_248 (by decide) ?_
                            refine uV (As := [.int (nI 32)]) (rest := []) (wr := []) hx hb hml hown ht (c_Mo_put l dC dI z _ o gi ge gt go gb gm gl i0 e0 t0 mk (ap (dr L0) (nmL 74 77 80)) cl 32 (Nat.le_of_ble_eq_true rfl)) yv_Mo_put k_609 (Nat.le_of_ble_eq_true rfl) (Nat.le_of_ble_eq_true rfl) hP hK hSS hD hS hA [0, 1] [] [0] rfl rfl (by decide) rfl (by decide) (by decide) rfl 0 5 rfl rfl rfl hl rfl rfl (Nat.le_of_ble_eq_true rfl) (Nat.zero_le _) (Nat.zero_le _) d_Mo_front_250 (fun H locs hP hD hS => ?_)
                            have hP : va_P (dC, dI) classes [(o, .inr (5, [.ref gi, .ref ge, .ref gt, .ref go, .ref gb, .ref gm, .ref gl, .int (nI i0.2), .int (nI e0.2), .int (nI t0.2), .int (nI mk), .int (nI ((ap1 (ap (dr L0) (nmL 74 77 80)) 32).2))])), (gl, .inl (cl, 32, .inl (iN ((ap1 (ap (dr L0) (nmL 74 77 80)) 32).1))))] H := hP
                            have hD : va_D A [(o, .inr (5, [.ref gi, .ref ge, .ref gt, .ref go, .ref gb, .ref gm, .ref gl, .int (nI i0.2), .int (nI e0.2), .int (nI t0.2), .int (nI mk), .int (nI ((ap1 (ap (dr L0) (nmL 74 77 80)) 32).2))])), (gl, .inl (cl, 32, .inl (iN ((ap1 (ap (dr L0) (nmL 74 77 80)) 32).1))))] := hD
                            refine stk (st2 := []) rfl ?_
                            refine lv_iload_n hx hb d_Mo_front_253 rfl (lv_at hl 0 rfl) ?_
                            refine lv_iconst (v := nI 3) hx hb d_Mo_front_254 (by decide) ?_
                            refine z_icmp_eq (tgt := 263) hx hb d_Mo_front_255 (tI_n (by omega)) (tI_n (by omega)) (by decide) (fun g255 => ?_) (fun g255 => ?_)
                            · exfalso; omega
                            · refine lv_iload_n hx hb d_Mo_front_258 rfl (lv_at hl 0 rfl) ?_
                              refine lv_iconst (v := nI 4) hx hb d_Mo_front_259 (by decide) ?_
                              refine z_icmp_ne (tgt := 278) hx hb d_Mo_front_260 (tI_n (by omega)) (tI_n (by omega)) (by decide) (fun g260 => ?_) (fun g260 => ?_)
                              · refine lv_iload_n hx hb d_Mo_front_278 rfl (lv_at hl 2 rfl) ?_
                                refine lv_bipush (v := nI 82) hx hb d_Mo_front_279 (by decide) ?_
                                refine z_icmp_lt (tgt := 301) hx hb d_Mo_front_281 (tI_n (by omega)) (tI_n (by omega)) (by decide) (fun g281 => ?_) (fun g281 => ?_)
                                · refine lv_iload_n hx hb d_Mo_front_301 rfl (lv_at hl 0 rfl) ?_
                                  refine lv_iconst (v := nI 5) hx hb d_Mo_front_302 (by decide) ?_
                                  refine z_icmp_eq (tgt := 313) hx hb d_Mo_front_303 (tI_n (by omega)) (tI_n (by omega)) (by decide) (fun g303 => ?_) (fun g303 => ?_)
                                  · refine lv_iload_n hx hb d_Mo_front_313 rfl (lv_at hl 2 rfl) ?_
                                    refine rS (As := [.int (nI f)]) (rest := []) hx hb hml hown ht (c_Mo_longOf l dC dI z f (by first | assumption | omega)) ys_Mo_longOf k_560 (Nat.le_of_ble_eq_true rfl) (Nat.le_of_ble_eq_true rfl) hP hK hSS hS [] [] rfl rfl hl rfl rfl (Nat.le_of_ble_eq_true rfl) (Nat.zero_le _) (Nat.zero_le _) d_Mo_front_314 ?_
                                    refine lv_iconst (v := nI 1) hx hb d_Mo_front_317 (by decide) ?_
                                    refine z_icmp_le (tgt := 339) hx hb d_Mo_front_318 (tI_n (by omega)) (tI_n (by omega)) (by decide) (fun g318 => ?_) (fun g318 => ?_)
                                    · exfalso; omega
                                    · refine lv_iload_n hx hb d_Mo_front_321 rfl (lv_at hl 2 rfl) ?_
                                      refine lv_bipush (v := nI 80) hx hb d_Mo_front_322 (by decide) ?_
                                      refine z_icmp_eq (tgt := 339) hx hb d_Mo_front_324 (tI_n (by omega)) (tI_n (by omega)) (by decide) (fun g324 => ?_) (fun g324 => ?_)
                                      · rw [hfr]
                                        exact eUv hx hb hr hlocks hP hD hS [0, 1] rfl rfl (by decide) d_Mo_front_339
                                      · exfalso; omega
                                  · exfalso; omega
                                · exfalso; omega
                              · exfalso; omega
                          · exfalso; omega
                        · exfalso; omega
                      · exfalso; omega
                    · exfalso; omega
                  · exfalso; omega
                · exfalso; omega
            · exfalso; omega
          · exfalso; omega
        · exfalso; omega
      · exfalso; omega
    · exfalso; omega
  · obtain ⟨hfr, hlg⟩ := fr_10 hf ef
    have hl3 := lgO_le f
    have hlg2 : 1 < lgO f := hlg.mpr trivial
    refine lv_iload_n hx hb d_Mo_front_5 rfl (lv_at hl 1 rfl) ?_
    refine lv_bipush (v := nI 16) hx hb d_Mo_front_6 (by decide) ?_
    refine nDiv hx hb d_Mo_front_8 (by omega) (by omega) (by omega) ?_
    refine lv_istore_n (lv' := [(2, .int (nI (f / 16))), (0, .ref o), (1, .int (nI f))]) hx hb d_Mo_front_9 rfl hl (Nat.le_of_ble_eq_true rfl) rfl (fun ls hl => ?_)
    refine lv_iload_n hx hb d_Mo_front_10 rfl (lv_at hl 0 rfl) ?_
    refine z_if_ne (tgt := 70) hx hb d_Mo_front_11 (tI_n (by omega)) (by decide) (fun g11 => ?_) (fun g11 => ?_)
    · refine lv_iload_n hx hb d_Mo_front_70 rfl (lv_at hl 0 rfl) ?_
      refine lv_iconst (v := nI 1) hx hb d_Mo_front_71 (by decide) ?_
      refine z_icmp_ne (tgt := 85) hx hb d_Mo_front_72 (tI_n (by omega)) (tI_n (by omega)) (by decide) (fun g72 => ?_) (fun g72 => ?_)
      · refine lv_iload_n hx hb d_Mo_front_85 rfl (lv_at hl 0 rfl) ?_
        refine lv_iconst (v := nI 2) hx hb d_Mo_front_86 (by decide) ?_
        refine z_icmp_ne (tgt := 100) hx hb d_Mo_front_87 (tI_n (by omega)) (tI_n (by omega)) (by decide) (fun g87 => ?_) (fun g87 => ?_)
        · refine lv_iload_n hx hb d_Mo_front_100 rfl (lv_at hl 0 rfl) ?_
          refine lv_iconst (v := nI 3) hx hb d_Mo_front_101 (by decide) ?_
          refine z_icmp_ne (tgt := 115) hx hb d_Mo_front_102 (tI_n (by omega)) (tI_n (by omega)) (by decide) (fun g102 => ?_) (fun g102 => ?_)
          · refine lv_iload_n hx hb d_Mo_front_115 rfl (lv_at hl 0 rfl) ?_
            refine lv_iconst (v := nI 4) hx hb d_Mo_front_116 (by decide) ?_
            refine z_icmp_ne (tgt := 130) hx hb d_Mo_front_117 (tI_n (by omega)) (tI_n (by omega)) (by decide) (fun g117 => ?_) (fun g117 => ?_)
            · refine lv_iload_n hx hb d_Mo_front_130 rfl (lv_at hl 2 rfl) ?_
              refine lv_bipush (v := nI 80) hx hb d_Mo_front_131 (by decide) ?_
              refine z_icmp_ne (tgt := 146) hx hb d_Mo_front_133 (tI_n (by omega)) (tI_n (by omega)) (by decide) (fun g133 => ?_) (fun g133 => ?_)
              · refine lv_iload_n hx hb d_Mo_front_146 rfl (lv_at hl 2 rfl) ?_
                refine lv_bipush (v := nI 81) hx hb d_Mo_front_147 (by decide) ?_
                refine z_icmp_ne (tgt := 162) hx hb d_Mo_front_149 (tI_n (by omega)) (tI_n (by omega)) (by decide) (fun g149 => ?_) (fun g149 => ?_)
                · exfalso; omega
                · refine lv_aload_n hx hb d_Mo_front_152 rfl (lv_at hl 1 rfl) ?_
                  refine lv_bipush (v := nI 67) hx hb d_Mo_front_153 (by decide) ?_
                  refine lv_bipush (v := nI 65) hx hb d_Mo_front_155 (by decide) ?_
                  refine lv_bipush (v := nI 76) hx hb d_Mo_front_157 (by decide) ?_
                  refine uV (As := [.int (nI 67), .int (nI 65), .int (nI 76)]) (rest := []) (wr := []) hx hb hml hown ht (c_Mo_name l dC dI z _ o gi ge gt go gb gm gl i0 e0 t0 mk (dr L0) cl 67 65 76 (Nat.le_of_ble_eq_true rfl) (by first | assumption | omega)) yv_Mo_name k_605 (Nat.le_of_ble_eq_true rfl) (Nat.le_of_ble_eq_true rfl) hP hK hSS hD hS hA [0, 1] [] [0] rfl rfl (by decide) rfl (by decide) (by decide) rfl 0 5 rfl rfl rfl hl rfl rfl (Nat.le_of_ble_eq_true rfl) (Nat.zero_le _) (Nat.zero_le _) d_Mo_front_159 (fun H locs hP hD hS => ?_)
                  have hP : va_P (dC, dI) classes [(o, .inr (5, [.ref gi, .ref ge, .ref gt, .ref go, .ref gb, .ref gm, .ref gl, .int (nI i0.2), .int (nI e0.2), .int (nI t0.2), .int (nI mk), .int (nI ((ap (dr L0) (nmL 67 65 76)).2))])), (gl, .inl (cl, 32, .inl (iN ((ap (dr L0) (nmL 67 65 76)).1))))] H := hP
                  have hD : va_D A [(o, .inr (5, [.ref gi, .ref ge, .ref gt, .ref go, .ref gb, .ref gm, .ref gl, .int (nI i0.2), .int (nI e0.2), .int (nI t0.2), .int (nI mk), .int (nI ((ap (dr L0) (nmL 67 65 76)).2))])), (gl, .inl (cl, 32, .inl (iN ((ap (dr L0) (nmL 67 65 76)).1))))] := hD
                  refine stk (st2 := []) rfl ?_
                  refine lv_iload_n hx hb d_Mo_front_162 rfl (lv_at hl 2 rfl) ?_
                  refine lv_bipush (v := nI 81) hx hb d_Mo_front_163 (by decide) ?_
                  refine z_icmp_ne (tgt := 174) hx hb d_Mo_front_165 (tI_n (by omega)) (tI_n (by omega)) (by decide) (fun g165 => ?_) (fun g165 => ?_)
                  · exfalso; omega
                  · refine lv_aload_n hx hb d_Mo_front_168 rfl (lv_at hl 1 rfl) ?_
                    refine lv_bipush (v := nI 76) hx hb d_Mo_front_169 (by decide) ?_
                    refine uV (As := [.int (nI 76)]) (rest := []) (wr := []) hx hb hml hown ht (c_Mo_put l dC dI z _ o gi ge gt go gb gm gl i0 e0 t0 mk (ap (dr L0) (nmL 67 65 76)) cl 76 (Nat.le_of_ble_eq_true rfl)) yv_Mo_put k_609 (Nat.le_of_ble_eq_true rfl) (Nat.le_of_ble_eq_true rfl) hP hK hSS hD hS hA [0, 1] [] [0] rfl rfl (by decide) rfl (by decide) (by decide) rfl 0 5 rfl rfl rfl hl rfl rfl (Nat.le_of_ble_eq_true rfl) (Nat.zero_le _) (Nat.zero_le _) d_Mo_front_171 (fun H locs hP hD hS => ?_)
                    have hP : va_P (dC, dI) classes [(o, .inr (5, [.ref gi, .ref ge, .ref gt, .ref go, .ref gb, .ref gm, .ref gl, .int (nI i0.2), .int (nI e0.2), .int (nI t0.2), .int (nI mk), .int (nI ((ap1 (ap (dr L0) (nmL 67 65 76)) 76).2))])), (gl, .inl (cl, 32, .inl (iN ((ap1 (ap (dr L0) (nmL 67 65 76)) 76).1))))] H := hP
                    have hD : va_D A [(o, .inr (5, [.ref gi, .ref ge, .ref gt, .ref go, .ref gb, .ref gm, .ref gl, .int (nI i0.2), .int (nI e0.2), .int (nI t0.2), .int (nI mk), .int (nI ((ap1 (ap (dr L0) (nmL 67 65 76)) 76).2))])), (gl, .inl (cl, 32, .inl (iN ((ap1 (ap (dr L0) (nmL 67 65 76)) 76).1))))] := hD
                    refine stk (st2 := []) rfl ?_
                    refine lv_iload_n hx hb d_Mo_front_174 rfl (lv_at hl 2 rfl) ?_
                    refine lv_bipush (v := nI 82) hx hb d_Mo_front_175 (by decide) ?_
                    refine z_icmp_lt (tgt := 195) hx hb d_Mo_front_177 (tI_n (by omega)) (tI_n (by omega)) (by decide) (fun g177 => ?_) (fun g177 => ?_)
                    · refine lv_iload_n hx hb d_Mo_front_195 rfl (lv_at hl 0 rfl) ?_
                      refine lv_bipush (v := nI 6) hx hb d_Mo_front_196 (by decide) ?_
                      refine z_icmp_ne (tgt := 211) hx hb d_Mo_front_198 (tI_n (by omega)) (tI_n (by omega)) (by decide) (fun g198 => ?_) (fun g198 => ?_)
                      · refine lv_iload_n hx hb d_Mo_front_211 rfl (lv_at hl 2 rfl) ?_
                        refine lv_bipush (v := nI 112) hx hb d_Mo_front_212 (by decide) ?_
                        refine z_icmp_lt (tgt := 232) hx hb d_Mo_front_214 (tI_n (by omega)) (tI_n (by omega)) (by decide) (fun g214 => ?_) (fun g214 => ?_)
                        · refine lv_iload_n hx hb d_Mo_front_232 rfl (lv_at hl 2 rfl) ?_
                          refine lv_bipush (v := nI 116) hx hb d_Mo_front_233 (by decide) ?_
                          refine z_icmp_lt (tgt := 247) hx hb d_Mo_front_235 (tI_n (by omega)) (tI_n (by omega)) (by decide) (fun g235 => ?_) (fun g235 => ?_)
                          · refine lv_aload_n hx hb d_Mo_front_247 rfl (lv_at hl 1 rfl) ?_
                            refine lv_bipush (v := nI 32) hx hb d_Mo_front_248 (by decide) ?_
                            refine uV (As := [.int (nI 32)]) (rest := []) (wr := []) hx hb hml hown ht (c_Mo_put l dC dI z _ o gi ge gt go gb gm gl i0 e0 t0 mk (ap1 (ap (dr L0) (nmL 67 65 76)) 76) cl 32 (Nat.le_of_ble_eq_true rfl)) yv_Mo_put k_609 (Nat.le_of_ble_eq_true rfl) (Nat.le_of_ble_eq_true rfl) hP hK hSS hD hS hA [0, 1] [] [0] rfl rfl (by decide) rfl (by decide) (by decide) rfl 0 5 rfl rfl rfl hl rfl rfl (Nat.le_of_ble_eq_true rfl) (Nat.zero_le _) (Nat.zero_le _) d_Mo_front_250 (fun H locs hP hD hS => ?_)
                            have hP : va_P (dC, dI) classes [(o, .inr (5, [.ref gi, .ref ge, .ref gt, .ref go, .ref gb, .ref gm, .ref gl, .int (nI i0.2), .int (nI e0.2), .int (nI t0.2), .int (nI mk), .int (nI ((ap1 (ap1 (ap (dr L0) (nmL 67 65 76)) 76) 32).2))])), (gl, .inl (cl, 32, .inl (iN ((ap1 (ap1 (ap (dr L0) (nmL 67 65 76)) 76) 32).1))))] H := hP
                            have hD : va_D A [(o, .inr (5, [.ref gi, .ref ge, .ref gt, .ref go, .ref gb, .ref gm, .ref gl, .int (nI i0.2), .int (nI e0.2), .int (nI t0.2), .int (nI mk), .int (nI ((ap1 (ap1 (ap (dr L0) (nmL 67 65 76)) 76) 32).2))])), (gl, .inl (cl, 32, .inl (iN ((ap1 (ap1 (ap (dr L0) (nmL 67 65 76)) 76) 32).1))))] := hD
                            refine stk (st2 := []) rfl ?_
                            refine lv_iload_n hx hb d_Mo_front_253 rfl (lv_at hl 0 rfl) ?_
                            refine lv_iconst (v := nI 3) hx hb d_Mo_front_254 (by decide) ?_
                            refine z_icmp_eq (tgt := 263) hx hb d_Mo_front_255 (tI_n (by omega)) (tI_n (by omega)) (by decide) (fun g255 => ?_) (fun g255 => ?_)
                            · exfalso; omega
                            · refine lv_iload_n hx hb d_Mo_front_258 rfl (lv_at hl 0 rfl) ?_
                              refine lv_iconst (v := nI 4) hx hb d_Mo_front_259 (by decide) ?_
                              refine z_icmp_ne (tgt := 278) hx hb d_Mo_front_260 (tI_n (by omega)) (tI_n (by omega)) (by decide) (fun g260 => ?_) (fun g260 => ?_)
                              · refine lv_iload_n hx hb d_Mo_front_278 rfl (lv_at hl 2 rfl) ?_
                                refine lv_bipush (v := nI 82) hx hb d_Mo_front_279 (by decide) ?_
                                refine z_icmp_lt (tgt := 301) hx hb d_Mo_front_281 (tI_n (by omega)) (tI_n (by omega)) (by decide) (fun g281 => ?_) (fun g281 => ?_)
                                · refine lv_iload_n hx hb d_Mo_front_301 rfl (lv_at hl 0 rfl) ?_
                                  refine lv_iconst (v := nI 5) hx hb d_Mo_front_302 (by decide) ?_
                                  refine z_icmp_eq (tgt := 313) hx hb d_Mo_front_303 (tI_n (by omega)) (tI_n (by omega)) (by decide) (fun g303 => ?_) (fun g303 => ?_)
                                  · refine lv_iload_n hx hb d_Mo_front_313 rfl (lv_at hl 2 rfl) ?_
                                    refine rS (As := [.int (nI f)]) (rest := []) hx hb hml hown ht (c_Mo_longOf l dC dI z f (by first | assumption | omega)) ys_Mo_longOf k_560 (Nat.le_of_ble_eq_true rfl) (Nat.le_of_ble_eq_true rfl) hP hK hSS hS [] [] rfl rfl hl rfl rfl (Nat.le_of_ble_eq_true rfl) (Nat.zero_le _) (Nat.zero_le _) d_Mo_front_314 ?_
                                    refine lv_iconst (v := nI 1) hx hb d_Mo_front_317 (by decide) ?_
                                    refine z_icmp_le (tgt := 339) hx hb d_Mo_front_318 (tI_n (by omega)) (tI_n (by omega)) (by decide) (fun g318 => ?_) (fun g318 => ?_)
                                    · exfalso; omega
                                    · refine lv_iload_n hx hb d_Mo_front_321 rfl (lv_at hl 2 rfl) ?_
                                      refine lv_bipush (v := nI 80) hx hb d_Mo_front_322 (by decide) ?_
                                      refine z_icmp_eq (tgt := 339) hx hb d_Mo_front_324 (tI_n (by omega)) (tI_n (by omega)) (by decide) (fun g324 => ?_) (fun g324 => ?_)
                                      · exfalso; omega
                                      · refine lv_iload_n hx hb d_Mo_front_327 rfl (lv_at hl 2 rfl) ?_
                                        refine lv_bipush (v := nI 81) hx hb d_Mo_front_328 (by decide) ?_
                                        refine z_icmp_eq (tgt := 339) hx hb d_Mo_front_330 (tI_n (by omega)) (tI_n (by omega)) (by decide) (fun g330 => ?_) (fun g330 => ?_)
                                        · rw [hfr]
                                          exact eUv hx hb hr hlocks hP hD hS [0, 1] rfl rfl (by decide) d_Mo_front_339
                                        · exfalso; omega
                                  · exfalso; omega
                                · exfalso; omega
                              · exfalso; omega
                          · exfalso; omega
                        · exfalso; omega
                      · exfalso; omega
                    · exfalso; omega
              · exfalso; omega
            · exfalso; omega
          · exfalso; omega
        · exfalso; omega
      · exfalso; omega
    · exfalso; omega
  · obtain ⟨hfr, hlg⟩ := fr_11 hf ef
    have hl3 := lgO_le f
    have hlg2 : 1 < lgO f := hlg.mpr trivial
    refine lv_iload_n hx hb d_Mo_front_5 rfl (lv_at hl 1 rfl) ?_
    refine lv_bipush (v := nI 16) hx hb d_Mo_front_6 (by decide) ?_
    refine nDiv hx hb d_Mo_front_8 (by omega) (by omega) (by omega) ?_
    refine lv_istore_n (lv' := [(2, .int (nI (f / 16))), (0, .ref o), (1, .int (nI f))]) hx hb d_Mo_front_9 rfl hl (Nat.le_of_ble_eq_true rfl) rfl (fun ls hl => ?_)
    refine lv_iload_n hx hb d_Mo_front_10 rfl (lv_at hl 0 rfl) ?_
    refine z_if_ne (tgt := 70) hx hb d_Mo_front_11 (tI_n (by omega)) (by decide) (fun g11 => ?_) (fun g11 => ?_)
    · refine lv_iload_n hx hb d_Mo_front_70 rfl (lv_at hl 0 rfl) ?_
      refine lv_iconst (v := nI 1) hx hb d_Mo_front_71 (by decide) ?_
      refine z_icmp_ne (tgt := 85) hx hb d_Mo_front_72 (tI_n (by omega)) (tI_n (by omega)) (by decide) (fun g72 => ?_) (fun g72 => ?_)
      · refine lv_iload_n hx hb d_Mo_front_85 rfl (lv_at hl 0 rfl) ?_
        refine lv_iconst (v := nI 2) hx hb d_Mo_front_86 (by decide) ?_
        refine z_icmp_ne (tgt := 100) hx hb d_Mo_front_87 (tI_n (by omega)) (tI_n (by omega)) (by decide) (fun g87 => ?_) (fun g87 => ?_)
        · refine lv_iload_n hx hb d_Mo_front_100 rfl (lv_at hl 0 rfl) ?_
          refine lv_iconst (v := nI 3) hx hb d_Mo_front_101 (by decide) ?_
          refine z_icmp_ne (tgt := 115) hx hb d_Mo_front_102 (tI_n (by omega)) (tI_n (by omega)) (by decide) (fun g102 => ?_) (fun g102 => ?_)
          · refine lv_iload_n hx hb d_Mo_front_115 rfl (lv_at hl 0 rfl) ?_
            refine lv_iconst (v := nI 4) hx hb d_Mo_front_116 (by decide) ?_
            refine z_icmp_ne (tgt := 130) hx hb d_Mo_front_117 (tI_n (by omega)) (tI_n (by omega)) (by decide) (fun g117 => ?_) (fun g117 => ?_)
            · refine lv_iload_n hx hb d_Mo_front_130 rfl (lv_at hl 2 rfl) ?_
              refine lv_bipush (v := nI 80) hx hb d_Mo_front_131 (by decide) ?_
              refine z_icmp_ne (tgt := 146) hx hb d_Mo_front_133 (tI_n (by omega)) (tI_n (by omega)) (by decide) (fun g133 => ?_) (fun g133 => ?_)
              · refine lv_iload_n hx hb d_Mo_front_146 rfl (lv_at hl 2 rfl) ?_
                refine lv_bipush (v := nI 81) hx hb d_Mo_front_147 (by decide) ?_
                refine z_icmp_ne (tgt := 162) hx hb d_Mo_front_149 (tI_n (by omega)) (tI_n (by omega)) (by decide) (fun g149 => ?_) (fun g149 => ?_)
                · refine lv_iload_n hx hb d_Mo_front_162 rfl (lv_at hl 2 rfl) ?_
                  refine lv_bipush (v := nI 81) hx hb d_Mo_front_163 (by decide) ?_
                  refine z_icmp_ne (tgt := 174) hx hb d_Mo_front_165 (tI_n (by omega)) (tI_n (by omega)) (by decide) (fun g165 => ?_) (fun g165 => ?_)
                  · refine lv_iload_n hx hb d_Mo_front_174 rfl (lv_at hl 2 rfl) ?_
                    refine lv_bipush (v := nI 82) hx hb d_Mo_front_175 (by decide) ?_
                    refine z_icmp_lt (tgt := 195) hx hb d_Mo_front_177 (tI_n (by omega)) (tI_n (by omega)) (by decide) (fun g177 => ?_) (fun g177 => ?_)
                    · exfalso; omega
                    · refine lv_iload_n hx hb d_Mo_front_180 rfl (lv_at hl 2 rfl) ?_
                      refine lv_bipush (v := nI 85) hx hb d_Mo_front_181 (by decide) ?_
                      refine z_icmp_gt (tgt := 195) hx hb d_Mo_front_183 (tI_n (by omega)) (tI_n (by omega)) (by decide) (fun g183 => ?_) (fun g183 => ?_)
                      · exfalso; omega
                      · refine lv_aload_n hx hb d_Mo_front_186 rfl (lv_at hl 1 rfl) ?_
                        refine lv_bipush (v := nI 74) hx hb d_Mo_front_187 (by decide) ?_
                        refine lv_bipush (v := nI 90) hx hb d_Mo_front_189 (by decide) ?_
                        refine lv_iconst (v := nI 0) hx hb d_Mo_front_191 (by decide) ?_
                        refine uV (As := [.int (nI 74), .int (nI 90), .int (nI 0)]) (rest := []) (wr := []) hx hb hml hown ht (c_Mo_name l dC dI z _ o gi ge gt go gb gm gl i0 e0 t0 mk (dr L0) cl 74 90 0 (Nat.le_of_ble_eq_true rfl) (by first | assumption | omega)) yv_Mo_name k_605 (Nat.le_of_ble_eq_true rfl) (Nat.le_of_ble_eq_true rfl) hP hK hSS hD hS hA [0, 1] [] [0] rfl rfl (by decide) rfl (by decide) (by decide) rfl 0 5 rfl rfl rfl hl rfl rfl (Nat.le_of_ble_eq_true rfl) (Nat.zero_le _) (Nat.zero_le _) d_Mo_front_192 (fun H locs hP hD hS => ?_)
                        have hP : va_P (dC, dI) classes [(o, .inr (5, [.ref gi, .ref ge, .ref gt, .ref go, .ref gb, .ref gm, .ref gl, .int (nI i0.2), .int (nI e0.2), .int (nI t0.2), .int (nI mk), .int (nI ((ap (dr L0) (nmL 74 90 0)).2))])), (gl, .inl (cl, 32, .inl (iN ((ap (dr L0) (nmL 74 90 0)).1))))] H := hP
                        have hD : va_D A [(o, .inr (5, [.ref gi, .ref ge, .ref gt, .ref go, .ref gb, .ref gm, .ref gl, .int (nI i0.2), .int (nI e0.2), .int (nI t0.2), .int (nI mk), .int (nI ((ap (dr L0) (nmL 74 90 0)).2))])), (gl, .inl (cl, 32, .inl (iN ((ap (dr L0) (nmL 74 90 0)).1))))] := hD
                        refine stk (st2 := []) rfl ?_
                        refine lv_iload_n hx hb d_Mo_front_195 rfl (lv_at hl 0 rfl) ?_
                        refine lv_bipush (v := nI 6) hx hb d_Mo_front_196 (by decide) ?_
                        refine z_icmp_ne (tgt := 211) hx hb d_Mo_front_198 (tI_n (by omega)) (tI_n (by omega)) (by decide) (fun g198 => ?_) (fun g198 => ?_)
                        · refine lv_iload_n hx hb d_Mo_front_211 rfl (lv_at hl 2 rfl) ?_
                          refine lv_bipush (v := nI 112) hx hb d_Mo_front_212 (by decide) ?_
                          refine z_icmp_lt (tgt := 232) hx hb d_Mo_front_214 (tI_n (by omega)) (tI_n (by omega)) (by decide) (fun g214 => ?_) (fun g214 => ?_)
                          · refine lv_iload_n hx hb d_Mo_front_232 rfl (lv_at hl 2 rfl) ?_
                            refine lv_bipush (v := nI 116) hx hb d_Mo_front_233 (by decide) ?_
                            refine z_icmp_lt (tgt := 247) hx hb d_Mo_front_235 (tI_n (by omega)) (tI_n (by omega)) (by decide) (fun g235 => ?_) (fun g235 => ?_)
                            · refine lv_aload_n hx hb d_Mo_front_247 rfl (lv_at hl 1 rfl) ?_
                              refine lv_bipush (v := nI 32) hx hb d_Mo_front_248 (by decide) ?_
                              refine uV (As := [.int (nI 32)]) (rest := []) (wr := []) hx hb hml hown ht (c_Mo_put l dC dI z _ o gi ge gt go gb gm gl i0 e0 t0 mk (ap (dr L0) (nmL 74 90 0)) cl 32 (Nat.le_of_ble_eq_true rfl)) yv_Mo_put k_609 (Nat.le_of_ble_eq_true rfl) (Nat.le_of_ble_eq_true rfl) hP hK hSS hD hS hA [0, 1] [] [0] rfl rfl (by decide) rfl (by decide) (by decide) rfl 0 5 rfl rfl rfl hl rfl rfl (Nat.le_of_ble_eq_true rfl) (Nat.zero_le _) (Nat.zero_le _) d_Mo_front_250 (fun H locs hP hD hS => ?_)
                              have hP : va_P (dC, dI) classes [(o, .inr (5, [.ref gi, .ref ge, .ref gt, .ref go, .ref gb, .ref gm, .ref gl, .int (nI i0.2), .int (nI e0.2), .int (nI t0.2), .int (nI mk), .int (nI ((ap1 (ap (dr L0) (nmL 74 90 0)) 32).2))])), (gl, .inl (cl, 32, .inl (iN ((ap1 (ap (dr L0) (nmL 74 90 0)) 32).1))))] H := hP
                              have hD : va_D A [(o, .inr (5, [.ref gi, .ref ge, .ref gt, .ref go, .ref gb, .ref gm, .ref gl, .int (nI i0.2), .int (nI e0.2), .int (nI t0.2), .int (nI mk), .int (nI ((ap1 (ap (dr L0) (nmL 74 90 0)) 32).2))])), (gl, .inl (cl, 32, .inl (iN ((ap1 (ap (dr L0) (nmL 74 90 0)) 32).1))))] := hD
                              refine stk (st2 := []) rfl ?_
                              refine lv_iload_n hx hb d_Mo_front_253 rfl (lv_at hl 0 rfl) ?_
                              refine lv_iconst (v := nI 3) hx hb d_Mo_front_254 (by decide) ?_
                              refine z_icmp_eq (tgt := 263) hx hb d_Mo_front_255 (tI_n (by omega)) (tI_n (by omega)) (by decide) (fun g255 => ?_) (fun g255 => ?_)
                              · exfalso; omega
                              · refine lv_iload_n hx hb d_Mo_front_258 rfl (lv_at hl 0 rfl) ?_
                                refine lv_iconst (v := nI 4) hx hb d_Mo_front_259 (by decide) ?_
                                refine z_icmp_ne (tgt := 278) hx hb d_Mo_front_260 (tI_n (by omega)) (tI_n (by omega)) (by decide) (fun g260 => ?_) (fun g260 => ?_)
                                · refine lv_iload_n hx hb d_Mo_front_278 rfl (lv_at hl 2 rfl) ?_
                                  refine lv_bipush (v := nI 82) hx hb d_Mo_front_279 (by decide) ?_
                                  refine z_icmp_lt (tgt := 301) hx hb d_Mo_front_281 (tI_n (by omega)) (tI_n (by omega)) (by decide) (fun g281 => ?_) (fun g281 => ?_)
                                  · exfalso; omega
                                  · refine lv_iload_n hx hb d_Mo_front_284 rfl (lv_at hl 2 rfl) ?_
                                    refine lv_bipush (v := nI 85) hx hb d_Mo_front_285 (by decide) ?_
                                    refine z_icmp_gt (tgt := 301) hx hb d_Mo_front_287 (tI_n (by omega)) (tI_n (by omega)) (by decide) (fun g287 => ?_) (fun g287 => ?_)
                                    · exfalso; omega
                                    · refine lv_aload_n hx hb d_Mo_front_290 rfl (lv_at hl 1 rfl) ?_
                                      refine lv_iload_n hx hb d_Mo_front_291 rfl (lv_at hl 2 rfl) ?_
                                      refine lv_bipush (v := nI 82) hx hb d_Mo_front_292 (by decide) ?_
                                      refine nSub hx hb d_Mo_front_294 (by omega) ?_
                                      refine uV (As := [.int (nI (f - 82))]) (rest := []) (wr := []) hx hb hml hown ht (c_Mo_register l dC dI z _ o gi ge gt go gb gm gl i0 e0 t0 mk (ap1 (ap (dr L0) (nmL 74 90 0)) 32) cl (f - 82) (Nat.le_of_ble_eq_true rfl) (by first | assumption | omega)) yv_Mo_register k_625 (Nat.le_of_ble_eq_true rfl) (Nat.le_of_ble_eq_true rfl) hP hK hSS hD hS hA [0, 1] [] [0] rfl rfl (by decide) rfl (by decide) (by decide) rfl 0 5 rfl rfl rfl hl rfl rfl (Nat.le_of_ble_eq_true rfl) (Nat.zero_le _) (Nat.zero_le _) d_Mo_front_295 (fun H locs hP hD hS => ?_)
                                      have hP : va_P (dC, dI) classes [(o, .inr (5, [.ref gi, .ref ge, .ref gt, .ref go, .ref gb, .ref gm, .ref gl, .int (nI i0.2), .int (nI e0.2), .int (nI t0.2), .int (nI mk), .int (nI ((ap (ap1 (ap (dr L0) (nmL 74 90 0)) 32) (rgM (f - 82))).2))])), (gl, .inl (cl, 32, .inl (iN ((ap (ap1 (ap (dr L0) (nmL 74 90 0)) 32) (rgM (f - 82))).1))))] H := hP
                                      have hD : va_D A [(o, .inr (5, [.ref gi, .ref ge, .ref gt, .ref go, .ref gb, .ref gm, .ref gl, .int (nI i0.2), .int (nI e0.2), .int (nI t0.2), .int (nI mk), .int (nI ((ap (ap1 (ap (dr L0) (nmL 74 90 0)) 32) (rgM (f - 82))).2))])), (gl, .inl (cl, 32, .inl (iN ((ap (ap1 (ap (dr L0) (nmL 74 90 0)) 32) (rgM (f - 82))).1))))] := hD
                                      refine stk (st2 := []) rfl ?_
                                      refine lv_goto (tgt := 313) hx hb d_Mo_front_298 (by decide) ?_
                                      refine lv_iload_n hx hb d_Mo_front_313 rfl (lv_at hl 2 rfl) ?_
                                      refine rS (As := [.int (nI f)]) (rest := []) hx hb hml hown ht (c_Mo_longOf l dC dI z f (by first | assumption | omega)) ys_Mo_longOf k_560 (Nat.le_of_ble_eq_true rfl) (Nat.le_of_ble_eq_true rfl) hP hK hSS hS [] [] rfl rfl hl rfl rfl (Nat.le_of_ble_eq_true rfl) (Nat.zero_le _) (Nat.zero_le _) d_Mo_front_314 ?_
                                      refine lv_iconst (v := nI 1) hx hb d_Mo_front_317 (by decide) ?_
                                      refine z_icmp_le (tgt := 339) hx hb d_Mo_front_318 (tI_n (by omega)) (tI_n (by omega)) (by decide) (fun g318 => ?_) (fun g318 => ?_)
                                      · exfalso; omega
                                      · refine lv_iload_n hx hb d_Mo_front_321 rfl (lv_at hl 2 rfl) ?_
                                        refine lv_bipush (v := nI 80) hx hb d_Mo_front_322 (by decide) ?_
                                        refine z_icmp_eq (tgt := 339) hx hb d_Mo_front_324 (tI_n (by omega)) (tI_n (by omega)) (by decide) (fun g324 => ?_) (fun g324 => ?_)
                                        · exfalso; omega
                                        · refine lv_iload_n hx hb d_Mo_front_327 rfl (lv_at hl 2 rfl) ?_
                                          refine lv_bipush (v := nI 81) hx hb d_Mo_front_328 (by decide) ?_
                                          refine z_icmp_eq (tgt := 339) hx hb d_Mo_front_330 (tI_n (by omega)) (tI_n (by omega)) (by decide) (fun g330 => ?_) (fun g330 => ?_)
                                          · exfalso; omega
                                          · refine lv_aload_n hx hb d_Mo_front_333 rfl (lv_at hl 1 rfl) ?_
                                            refine lv_bipush (v := nI 44) hx hb d_Mo_front_334 (by decide) ?_
                                            refine uV (As := [.int (nI 44)]) (rest := []) (wr := []) hx hb hml hown ht (c_Mo_put l dC dI z _ o gi ge gt go gb gm gl i0 e0 t0 mk (ap (ap1 (ap (dr L0) (nmL 74 90 0)) 32) (rgM (f - 82))) cl 44 (Nat.le_of_ble_eq_true rfl)) yv_Mo_put k_609 (Nat.le_of_ble_eq_true rfl) (Nat.le_of_ble_eq_true rfl) hP hK hSS hD hS hA [0, 1] [] [0] rfl rfl (by decide) rfl (by decide) (by decide) rfl 0 5 rfl rfl rfl hl rfl rfl (Nat.le_of_ble_eq_true rfl) (Nat.zero_le _) (Nat.zero_le _) d_Mo_front_336 (fun H locs hP hD hS => ?_)
                                            have hP : va_P (dC, dI) classes [(o, .inr (5, [.ref gi, .ref ge, .ref gt, .ref go, .ref gb, .ref gm, .ref gl, .int (nI i0.2), .int (nI e0.2), .int (nI t0.2), .int (nI mk), .int (nI ((ap1 (ap (ap1 (ap (dr L0) (nmL 74 90 0)) 32) (rgM (f - 82))) 44).2))])), (gl, .inl (cl, 32, .inl (iN ((ap1 (ap (ap1 (ap (dr L0) (nmL 74 90 0)) 32) (rgM (f - 82))) 44).1))))] H := hP
                                            have hD : va_D A [(o, .inr (5, [.ref gi, .ref ge, .ref gt, .ref go, .ref gb, .ref gm, .ref gl, .int (nI i0.2), .int (nI e0.2), .int (nI t0.2), .int (nI mk), .int (nI ((ap1 (ap (ap1 (ap (dr L0) (nmL 74 90 0)) 32) (rgM (f - 82))) 44).2))])), (gl, .inl (cl, 32, .inl (iN ((ap1 (ap (ap1 (ap (dr L0) (nmL 74 90 0)) 32) (rgM (f - 82))) 44).1))))] := hD
                                            refine stk (st2 := []) rfl ?_
                                            rw [hfr]
                                            exact eUv hx hb hr hlocks hP hD hS [0, 1] rfl rfl (by decide) d_Mo_front_339
                                · exfalso; omega
                            · exfalso; omega
                          · exfalso; omega
                        · exfalso; omega
                  · exfalso; omega
                · exfalso; omega
              · exfalso; omega
            · exfalso; omega
          · exfalso; omega
        · exfalso; omega
      · exfalso; omega
    · exfalso; omega
  · obtain ⟨hfr, hlg⟩ := fr_12 hf ef
    have hl3 := lgO_le f
    have hlg2 : ¬ 1 < lgO f := fun q => hlg.mp q
    refine lv_iload_n hx hb d_Mo_front_5 rfl (lv_at hl 1 rfl) ?_
    refine lv_bipush (v := nI 16) hx hb d_Mo_front_6 (by decide) ?_
    refine nDiv hx hb d_Mo_front_8 (by omega) (by omega) (by omega) ?_
    refine lv_istore_n (lv' := [(2, .int (nI (f / 16))), (0, .ref o), (1, .int (nI f))]) hx hb d_Mo_front_9 rfl hl (Nat.le_of_ble_eq_true rfl) rfl (fun ls hl => ?_)
    refine lv_iload_n hx hb d_Mo_front_10 rfl (lv_at hl 0 rfl) ?_
    refine z_if_ne (tgt := 70) hx hb d_Mo_front_11 (tI_n (by omega)) (by decide) (fun g11 => ?_) (fun g11 => ?_)
    · refine lv_iload_n hx hb d_Mo_front_70 rfl (lv_at hl 0 rfl) ?_
      refine lv_iconst (v := nI 1) hx hb d_Mo_front_71 (by decide) ?_
      refine z_icmp_ne (tgt := 85) hx hb d_Mo_front_72 (tI_n (by omega)) (tI_n (by omega)) (by decide) (fun g72 => ?_) (fun g72 => ?_)
      · refine lv_iload_n hx hb d_Mo_front_85 rfl (lv_at hl 0 rfl) ?_
        refine lv_iconst (v := nI 2) hx hb d_Mo_front_86 (by decide) ?_
        refine z_icmp_ne (tgt := 100) hx hb d_Mo_front_87 (tI_n (by omega)) (tI_n (by omega)) (by decide) (fun g87 => ?_) (fun g87 => ?_)
        · refine lv_iload_n hx hb d_Mo_front_100 rfl (lv_at hl 0 rfl) ?_
          refine lv_iconst (v := nI 3) hx hb d_Mo_front_101 (by decide) ?_
          refine z_icmp_ne (tgt := 115) hx hb d_Mo_front_102 (tI_n (by omega)) (tI_n (by omega)) (by decide) (fun g102 => ?_) (fun g102 => ?_)
          · refine lv_iload_n hx hb d_Mo_front_115 rfl (lv_at hl 0 rfl) ?_
            refine lv_iconst (v := nI 4) hx hb d_Mo_front_116 (by decide) ?_
            refine z_icmp_ne (tgt := 130) hx hb d_Mo_front_117 (tI_n (by omega)) (tI_n (by omega)) (by decide) (fun g117 => ?_) (fun g117 => ?_)
            · refine lv_iload_n hx hb d_Mo_front_130 rfl (lv_at hl 2 rfl) ?_
              refine lv_bipush (v := nI 80) hx hb d_Mo_front_131 (by decide) ?_
              refine z_icmp_ne (tgt := 146) hx hb d_Mo_front_133 (tI_n (by omega)) (tI_n (by omega)) (by decide) (fun g133 => ?_) (fun g133 => ?_)
              · refine lv_iload_n hx hb d_Mo_front_146 rfl (lv_at hl 2 rfl) ?_
                refine lv_bipush (v := nI 81) hx hb d_Mo_front_147 (by decide) ?_
                refine z_icmp_ne (tgt := 162) hx hb d_Mo_front_149 (tI_n (by omega)) (tI_n (by omega)) (by decide) (fun g149 => ?_) (fun g149 => ?_)
                · refine lv_iload_n hx hb d_Mo_front_162 rfl (lv_at hl 2 rfl) ?_
                  refine lv_bipush (v := nI 81) hx hb d_Mo_front_163 (by decide) ?_
                  refine z_icmp_ne (tgt := 174) hx hb d_Mo_front_165 (tI_n (by omega)) (tI_n (by omega)) (by decide) (fun g165 => ?_) (fun g165 => ?_)
                  · refine lv_iload_n hx hb d_Mo_front_174 rfl (lv_at hl 2 rfl) ?_
                    refine lv_bipush (v := nI 82) hx hb d_Mo_front_175 (by decide) ?_
                    refine z_icmp_lt (tgt := 195) hx hb d_Mo_front_177 (tI_n (by omega)) (tI_n (by omega)) (by decide) (fun g177 => ?_) (fun g177 => ?_)
                    · exfalso; omega
                    · refine lv_iload_n hx hb d_Mo_front_180 rfl (lv_at hl 2 rfl) ?_
                      refine lv_bipush (v := nI 85) hx hb d_Mo_front_181 (by decide) ?_
                      refine z_icmp_gt (tgt := 195) hx hb d_Mo_front_183 (tI_n (by omega)) (tI_n (by omega)) (by decide) (fun g183 => ?_) (fun g183 => ?_)
                      · refine lv_iload_n hx hb d_Mo_front_195 rfl (lv_at hl 0 rfl) ?_
                        refine lv_bipush (v := nI 6) hx hb d_Mo_front_196 (by decide) ?_
                        refine z_icmp_ne (tgt := 211) hx hb d_Mo_front_198 (tI_n (by omega)) (tI_n (by omega)) (by decide) (fun g198 => ?_) (fun g198 => ?_)
                        · refine lv_iload_n hx hb d_Mo_front_211 rfl (lv_at hl 2 rfl) ?_
                          refine lv_bipush (v := nI 112) hx hb d_Mo_front_212 (by decide) ?_
                          refine z_icmp_lt (tgt := 232) hx hb d_Mo_front_214 (tI_n (by omega)) (tI_n (by omega)) (by decide) (fun g214 => ?_) (fun g214 => ?_)
                          · refine lv_iload_n hx hb d_Mo_front_232 rfl (lv_at hl 2 rfl) ?_
                            refine lv_bipush (v := nI 116) hx hb d_Mo_front_233 (by decide) ?_
                            refine z_icmp_lt (tgt := 247) hx hb d_Mo_front_235 (tI_n (by omega)) (tI_n (by omega)) (by decide) (fun g235 => ?_) (fun g235 => ?_)
                            · refine lv_aload_n hx hb d_Mo_front_247 rfl (lv_at hl 1 rfl) ?_
                              refine lv_bipush (v := nI 32) hx hb d_Mo_front_248 (by decide) ?_
                              refine uV (As := [.int (nI 32)]) (rest := []) (wr := []) hx hb hml hown ht (c_Mo_put l dC dI z _ o gi ge gt go gb gm gl i0 e0 t0 mk (dr L0) cl 32 (Nat.le_of_ble_eq_true rfl)) yv_Mo_put k_609 (Nat.le_of_ble_eq_true rfl) (Nat.le_of_ble_eq_true rfl) hP hK hSS hD hS hA [0, 1] [] [0] rfl rfl (by decide) rfl (by decide) (by decide) rfl 0 5 rfl rfl rfl hl rfl rfl (Nat.le_of_ble_eq_true rfl) (Nat.zero_le _) (Nat.zero_le _) d_Mo_front_250 (fun H locs hP hD hS => ?_)
                              have hP : va_P (dC, dI) classes [(o, .inr (5, [.ref gi, .ref ge, .ref gt, .ref go, .ref gb, .ref gm, .ref gl, .int (nI i0.2), .int (nI e0.2), .int (nI t0.2), .int (nI mk), .int (nI ((ap1 (dr L0) 32).2))])), (gl, .inl (cl, 32, .inl (iN ((ap1 (dr L0) 32).1))))] H := hP
                              have hD : va_D A [(o, .inr (5, [.ref gi, .ref ge, .ref gt, .ref go, .ref gb, .ref gm, .ref gl, .int (nI i0.2), .int (nI e0.2), .int (nI t0.2), .int (nI mk), .int (nI ((ap1 (dr L0) 32).2))])), (gl, .inl (cl, 32, .inl (iN ((ap1 (dr L0) 32).1))))] := hD
                              refine stk (st2 := []) rfl ?_
                              refine lv_iload_n hx hb d_Mo_front_253 rfl (lv_at hl 0 rfl) ?_
                              refine lv_iconst (v := nI 3) hx hb d_Mo_front_254 (by decide) ?_
                              refine z_icmp_eq (tgt := 263) hx hb d_Mo_front_255 (tI_n (by omega)) (tI_n (by omega)) (by decide) (fun g255 => ?_) (fun g255 => ?_)
                              · exfalso; omega
                              · refine lv_iload_n hx hb d_Mo_front_258 rfl (lv_at hl 0 rfl) ?_
                                refine lv_iconst (v := nI 4) hx hb d_Mo_front_259 (by decide) ?_
                                refine z_icmp_ne (tgt := 278) hx hb d_Mo_front_260 (tI_n (by omega)) (tI_n (by omega)) (by decide) (fun g260 => ?_) (fun g260 => ?_)
                                · refine lv_iload_n hx hb d_Mo_front_278 rfl (lv_at hl 2 rfl) ?_
                                  refine lv_bipush (v := nI 82) hx hb d_Mo_front_279 (by decide) ?_
                                  refine z_icmp_lt (tgt := 301) hx hb d_Mo_front_281 (tI_n (by omega)) (tI_n (by omega)) (by decide) (fun g281 => ?_) (fun g281 => ?_)
                                  · exfalso; omega
                                  · refine lv_iload_n hx hb d_Mo_front_284 rfl (lv_at hl 2 rfl) ?_
                                    refine lv_bipush (v := nI 85) hx hb d_Mo_front_285 (by decide) ?_
                                    refine z_icmp_gt (tgt := 301) hx hb d_Mo_front_287 (tI_n (by omega)) (tI_n (by omega)) (by decide) (fun g287 => ?_) (fun g287 => ?_)
                                    · refine lv_iload_n hx hb d_Mo_front_301 rfl (lv_at hl 0 rfl) ?_
                                      refine lv_iconst (v := nI 5) hx hb d_Mo_front_302 (by decide) ?_
                                      refine z_icmp_eq (tgt := 313) hx hb d_Mo_front_303 (tI_n (by omega)) (tI_n (by omega)) (by decide) (fun g303 => ?_) (fun g303 => ?_)
                                      · refine lv_iload_n hx hb d_Mo_front_313 rfl (lv_at hl 2 rfl) ?_
                                        refine rS (As := [.int (nI f)]) (rest := []) hx hb hml hown ht (c_Mo_longOf l dC dI z f (by first | assumption | omega)) ys_Mo_longOf k_560 (Nat.le_of_ble_eq_true rfl) (Nat.le_of_ble_eq_true rfl) hP hK hSS hS [] [] rfl rfl hl rfl rfl (Nat.le_of_ble_eq_true rfl) (Nat.zero_le _) (Nat.zero_le _) d_Mo_front_314 ?_
                                        refine lv_iconst (v := nI 1) hx hb d_Mo_front_317 (by decide) ?_
                                        refine z_icmp_le (tgt := 339) hx hb d_Mo_front_318 (tI_n (by omega)) (tI_n (by omega)) (by decide) (fun g318 => ?_) (fun g318 => ?_)
                                        · rw [hfr]
                                          exact eUv hx hb hr hlocks hP hD hS [0, 1] rfl rfl (by decide) d_Mo_front_339
                                        · exfalso; omega
                                      · exfalso; omega
                                    · exfalso; omega
                                · exfalso; omega
                            · exfalso; omega
                          · exfalso; omega
                        · exfalso; omega
                      · exfalso; omega
                  · exfalso; omega
                · exfalso; omega
              · exfalso; omega
            · exfalso; omega
          · exfalso; omega
        · exfalso; omega
      · exfalso; omega
    · exfalso; omega
  · obtain ⟨hfr, hlg⟩ := fr_13 hf ef
    have hl3 := lgO_le f
    have hlg2 : 1 < lgO f := hlg.mpr trivial
    refine lv_iload_n hx hb d_Mo_front_5 rfl (lv_at hl 1 rfl) ?_
    refine lv_bipush (v := nI 16) hx hb d_Mo_front_6 (by decide) ?_
    refine nDiv hx hb d_Mo_front_8 (by omega) (by omega) (by omega) ?_
    refine lv_istore_n (lv' := [(2, .int (nI (f / 16))), (0, .ref o), (1, .int (nI f))]) hx hb d_Mo_front_9 rfl hl (Nat.le_of_ble_eq_true rfl) rfl (fun ls hl => ?_)
    refine lv_iload_n hx hb d_Mo_front_10 rfl (lv_at hl 0 rfl) ?_
    refine z_if_ne (tgt := 70) hx hb d_Mo_front_11 (tI_n (by omega)) (by decide) (fun g11 => ?_) (fun g11 => ?_)
    · refine lv_iload_n hx hb d_Mo_front_70 rfl (lv_at hl 0 rfl) ?_
      refine lv_iconst (v := nI 1) hx hb d_Mo_front_71 (by decide) ?_
      refine z_icmp_ne (tgt := 85) hx hb d_Mo_front_72 (tI_n (by omega)) (tI_n (by omega)) (by decide) (fun g72 => ?_) (fun g72 => ?_)
      · refine lv_iload_n hx hb d_Mo_front_85 rfl (lv_at hl 0 rfl) ?_
        refine lv_iconst (v := nI 2) hx hb d_Mo_front_86 (by decide) ?_
        refine z_icmp_ne (tgt := 100) hx hb d_Mo_front_87 (tI_n (by omega)) (tI_n (by omega)) (by decide) (fun g87 => ?_) (fun g87 => ?_)
        · refine lv_iload_n hx hb d_Mo_front_100 rfl (lv_at hl 0 rfl) ?_
          refine lv_iconst (v := nI 3) hx hb d_Mo_front_101 (by decide) ?_
          refine z_icmp_ne (tgt := 115) hx hb d_Mo_front_102 (tI_n (by omega)) (tI_n (by omega)) (by decide) (fun g102 => ?_) (fun g102 => ?_)
          · refine lv_iload_n hx hb d_Mo_front_115 rfl (lv_at hl 0 rfl) ?_
            refine lv_iconst (v := nI 4) hx hb d_Mo_front_116 (by decide) ?_
            refine z_icmp_ne (tgt := 130) hx hb d_Mo_front_117 (tI_n (by omega)) (tI_n (by omega)) (by decide) (fun g117 => ?_) (fun g117 => ?_)
            · refine lv_iload_n hx hb d_Mo_front_130 rfl (lv_at hl 2 rfl) ?_
              refine lv_bipush (v := nI 80) hx hb d_Mo_front_131 (by decide) ?_
              refine z_icmp_ne (tgt := 146) hx hb d_Mo_front_133 (tI_n (by omega)) (tI_n (by omega)) (by decide) (fun g133 => ?_) (fun g133 => ?_)
              · refine lv_iload_n hx hb d_Mo_front_146 rfl (lv_at hl 2 rfl) ?_
                refine lv_bipush (v := nI 81) hx hb d_Mo_front_147 (by decide) ?_
                refine z_icmp_ne (tgt := 162) hx hb d_Mo_front_149 (tI_n (by omega)) (tI_n (by omega)) (by decide) (fun g149 => ?_) (fun g149 => ?_)
                · refine lv_iload_n hx hb d_Mo_front_162 rfl (lv_at hl 2 rfl) ?_
                  refine lv_bipush (v := nI 81) hx hb d_Mo_front_163 (by decide) ?_
                  refine z_icmp_ne (tgt := 174) hx hb d_Mo_front_165 (tI_n (by omega)) (tI_n (by omega)) (by decide) (fun g165 => ?_) (fun g165 => ?_)
                  · refine lv_iload_n hx hb d_Mo_front_174 rfl (lv_at hl 2 rfl) ?_
                    refine lv_bipush (v := nI 82) hx hb d_Mo_front_175 (by decide) ?_
                    refine z_icmp_lt (tgt := 195) hx hb d_Mo_front_177 (tI_n (by omega)) (tI_n (by omega)) (by decide) (fun g177 => ?_) (fun g177 => ?_)
                    · exfalso; omega
                    · refine lv_iload_n hx hb d_Mo_front_180 rfl (lv_at hl 2 rfl) ?_
                      refine lv_bipush (v := nI 85) hx hb d_Mo_front_181 (by decide) ?_
                      refine z_icmp_gt (tgt := 195) hx hb d_Mo_front_183 (tI_n (by omega)) (tI_n (by omega)) (by decide) (fun g183 => ?_) (fun g183 => ?_)
                      · refine lv_iload_n hx hb d_Mo_front_195 rfl (lv_at hl 0 rfl) ?_
                        refine lv_bipush (v := nI 6) hx hb d_Mo_front_196 (by decide) ?_
                        refine z_icmp_ne (tgt := 211) hx hb d_Mo_front_198 (tI_n (by omega)) (tI_n (by omega)) (by decide) (fun g198 => ?_) (fun g198 => ?_)
                        · exfalso; omega
                        · refine lv_aload_n hx hb d_Mo_front_201 rfl (lv_at hl 1 rfl) ?_
                          refine lv_bipush (v := nI 66) hx hb d_Mo_front_202 (by decide) ?_
                          refine lv_bipush (v := nI 78) hx hb d_Mo_front_204 (by decide) ?_
                          refine lv_bipush (v := nI 90) hx hb d_Mo_front_206 (by decide) ?_
                          refine uV (As := [.int (nI 66), .int (nI 78), .int (nI 90)]) (rest := []) (wr := []) hx hb hml hown ht (c_Mo_name l dC dI z _ o gi ge gt go gb gm gl i0 e0 t0 mk (dr L0) cl 66 78 90 (Nat.le_of_ble_eq_true rfl) (by first | assumption | omega)) yv_Mo_name k_605 (Nat.le_of_ble_eq_true rfl) (Nat.le_of_ble_eq_true rfl) hP hK hSS hD hS hA [0, 1] [] [0] rfl rfl (by decide) rfl (by decide) (by decide) rfl 0 5 rfl rfl rfl hl rfl rfl (Nat.le_of_ble_eq_true rfl) (Nat.zero_le _) (Nat.zero_le _) d_Mo_front_208 (fun H locs hP hD hS => ?_)
                          have hP : va_P (dC, dI) classes [(o, .inr (5, [.ref gi, .ref ge, .ref gt, .ref go, .ref gb, .ref gm, .ref gl, .int (nI i0.2), .int (nI e0.2), .int (nI t0.2), .int (nI mk), .int (nI ((ap (dr L0) (nmL 66 78 90)).2))])), (gl, .inl (cl, 32, .inl (iN ((ap (dr L0) (nmL 66 78 90)).1))))] H := hP
                          have hD : va_D A [(o, .inr (5, [.ref gi, .ref ge, .ref gt, .ref go, .ref gb, .ref gm, .ref gl, .int (nI i0.2), .int (nI e0.2), .int (nI t0.2), .int (nI mk), .int (nI ((ap (dr L0) (nmL 66 78 90)).2))])), (gl, .inl (cl, 32, .inl (iN ((ap (dr L0) (nmL 66 78 90)).1))))] := hD
                          refine stk (st2 := []) rfl ?_
                          refine lv_iload_n hx hb d_Mo_front_211 rfl (lv_at hl 2 rfl) ?_
                          refine lv_bipush (v := nI 112) hx hb d_Mo_front_212 (by decide) ?_
                          refine z_icmp_lt (tgt := 232) hx hb d_Mo_front_214 (tI_n (by omega)) (tI_n (by omega)) (by decide) (fun g214 => ?_) (fun g214 => ?_)
                          · refine lv_iload_n hx hb d_Mo_front_232 rfl (lv_at hl 2 rfl) ?_
                            refine lv_bipush (v := nI 116) hx hb d_Mo_front_233 (by decide) ?_
                            refine z_icmp_lt (tgt := 247) hx hb d_Mo_front_235 (tI_n (by omega)) (tI_n (by omega)) (by decide) (fun g235 => ?_) (fun g235 => ?_)
                            · refine lv_aload_n hx hb d_Mo_front_247 rfl (lv_at hl 1 rfl) ?_
                              refine lv_bipush (v := nI 32) hx hb d_Mo_front_248 (by decide) ?_
                              refine uV (As := [.int (nI 32)]) (rest := []) (wr := []) hx hb hml hown ht (c_Mo_put l dC dI z _ o gi ge gt go gb gm gl i0 e0 t0 mk (ap (dr L0) (nmL 66 78 90)) cl 32 (Nat.le_of_ble_eq_true rfl)) yv_Mo_put k_609 (Nat.le_of_ble_eq_true rfl) (Nat.le_of_ble_eq_true rfl) hP hK hSS hD hS hA [0, 1] [] [0] rfl rfl (by decide) rfl (by decide) (by decide) rfl 0 5 rfl rfl rfl hl rfl rfl (Nat.le_of_ble_eq_true rfl) (Nat.zero_le _) (Nat.zero_le _) d_Mo_front_250 (fun H locs hP hD hS => ?_)
                              have hP : va_P (dC, dI) classes [(o, .inr (5, [.ref gi, .ref ge, .ref gt, .ref go, .ref gb, .ref gm, .ref gl, .int (nI i0.2), .int (nI e0.2), .int (nI t0.2), .int (nI mk), .int (nI ((ap1 (ap (dr L0) (nmL 66 78 90)) 32).2))])), (gl, .inl (cl, 32, .inl (iN ((ap1 (ap (dr L0) (nmL 66 78 90)) 32).1))))] H := hP
                              have hD : va_D A [(o, .inr (5, [.ref gi, .ref ge, .ref gt, .ref go, .ref gb, .ref gm, .ref gl, .int (nI i0.2), .int (nI e0.2), .int (nI t0.2), .int (nI mk), .int (nI ((ap1 (ap (dr L0) (nmL 66 78 90)) 32).2))])), (gl, .inl (cl, 32, .inl (iN ((ap1 (ap (dr L0) (nmL 66 78 90)) 32).1))))] := hD
                              refine stk (st2 := []) rfl ?_
                              refine lv_iload_n hx hb d_Mo_front_253 rfl (lv_at hl 0 rfl) ?_
                              refine lv_iconst (v := nI 3) hx hb d_Mo_front_254 (by decide) ?_
                              refine z_icmp_eq (tgt := 263) hx hb d_Mo_front_255 (tI_n (by omega)) (tI_n (by omega)) (by decide) (fun g255 => ?_) (fun g255 => ?_)
                              · exfalso; omega
                              · refine lv_iload_n hx hb d_Mo_front_258 rfl (lv_at hl 0 rfl) ?_
                                refine lv_iconst (v := nI 4) hx hb d_Mo_front_259 (by decide) ?_
                                refine z_icmp_ne (tgt := 278) hx hb d_Mo_front_260 (tI_n (by omega)) (tI_n (by omega)) (by decide) (fun g260 => ?_) (fun g260 => ?_)
                                · refine lv_iload_n hx hb d_Mo_front_278 rfl (lv_at hl 2 rfl) ?_
                                  refine lv_bipush (v := nI 82) hx hb d_Mo_front_279 (by decide) ?_
                                  refine z_icmp_lt (tgt := 301) hx hb d_Mo_front_281 (tI_n (by omega)) (tI_n (by omega)) (by decide) (fun g281 => ?_) (fun g281 => ?_)
                                  · exfalso; omega
                                  · refine lv_iload_n hx hb d_Mo_front_284 rfl (lv_at hl 2 rfl) ?_
                                    refine lv_bipush (v := nI 85) hx hb d_Mo_front_285 (by decide) ?_
                                    refine z_icmp_gt (tgt := 301) hx hb d_Mo_front_287 (tI_n (by omega)) (tI_n (by omega)) (by decide) (fun g287 => ?_) (fun g287 => ?_)
                                    · refine lv_iload_n hx hb d_Mo_front_301 rfl (lv_at hl 0 rfl) ?_
                                      refine lv_iconst (v := nI 5) hx hb d_Mo_front_302 (by decide) ?_
                                      refine z_icmp_eq (tgt := 313) hx hb d_Mo_front_303 (tI_n (by omega)) (tI_n (by omega)) (by decide) (fun g303 => ?_) (fun g303 => ?_)
                                      · exfalso; omega
                                      · refine lv_aload_n hx hb d_Mo_front_306 rfl (lv_at hl 1 rfl) ?_
                                        refine lv_iload_n hx hb d_Mo_front_307 rfl (lv_at hl 2 rfl) ?_
                                        refine lv_iconst (v := nI 4) hx hb d_Mo_front_308 (by decide) ?_
                                        refine nRem hx hb d_Mo_front_309 (by omega) (by omega) (by omega) ?_
                                        refine uV (As := [.int (nI (f % 4))]) (rest := []) (wr := []) hx hb hml hown ht (c_Mo_register l dC dI z _ o gi ge gt go gb gm gl i0 e0 t0 mk (ap1 (ap (dr L0) (nmL 66 78 90)) 32) cl (f % 4) (Nat.le_of_ble_eq_true rfl) (by first | assumption | omega)) yv_Mo_register k_625 (Nat.le_of_ble_eq_true rfl) (Nat.le_of_ble_eq_true rfl) hP hK hSS hD hS hA [0, 1] [] [0] rfl rfl (by decide) rfl (by decide) (by decide) rfl 0 5 rfl rfl rfl hl rfl rfl (Nat.le_of_ble_eq_true rfl) (Nat.zero_le _) (Nat.zero_le _) d_Mo_front_310 (fun H locs hP hD hS => ?_)
                                        have hP : va_P (dC, dI) classes [(o, .inr (5, [.ref gi, .ref ge, .ref gt, .ref go, .ref gb, .ref gm, .ref gl, .int (nI i0.2), .int (nI e0.2), .int (nI t0.2), .int (nI mk), .int (nI ((ap (ap1 (ap (dr L0) (nmL 66 78 90)) 32) (rgM (f % 4))).2))])), (gl, .inl (cl, 32, .inl (iN ((ap (ap1 (ap (dr L0) (nmL 66 78 90)) 32) (rgM (f % 4))).1))))] H := hP
                                        have hD : va_D A [(o, .inr (5, [.ref gi, .ref ge, .ref gt, .ref go, .ref gb, .ref gm, .ref gl, .int (nI i0.2), .int (nI e0.2), .int (nI t0.2), .int (nI mk), .int (nI ((ap (ap1 (ap (dr L0) (nmL 66 78 90)) 32) (rgM (f % 4))).2))])), (gl, .inl (cl, 32, .inl (iN ((ap (ap1 (ap (dr L0) (nmL 66 78 90)) 32) (rgM (f % 4))).1))))] := hD
                                        refine stk (st2 := []) rfl ?_
                                        refine lv_iload_n hx hb d_Mo_front_313 rfl (lv_at hl 2 rfl) ?_
                                        refine rS (As := [.int (nI f)]) (rest := []) hx hb hml hown ht (c_Mo_longOf l dC dI z f (by first | assumption | omega)) ys_Mo_longOf k_560 (Nat.le_of_ble_eq_true rfl) (Nat.le_of_ble_eq_true rfl) hP hK hSS hS [] [] rfl rfl hl rfl rfl (Nat.le_of_ble_eq_true rfl) (Nat.zero_le _) (Nat.zero_le _) d_Mo_front_314 ?_
                                        refine lv_iconst (v := nI 1) hx hb d_Mo_front_317 (by decide) ?_
                                        refine z_icmp_le (tgt := 339) hx hb d_Mo_front_318 (tI_n (by omega)) (tI_n (by omega)) (by decide) (fun g318 => ?_) (fun g318 => ?_)
                                        · exfalso; omega
                                        · refine lv_iload_n hx hb d_Mo_front_321 rfl (lv_at hl 2 rfl) ?_
                                          refine lv_bipush (v := nI 80) hx hb d_Mo_front_322 (by decide) ?_
                                          refine z_icmp_eq (tgt := 339) hx hb d_Mo_front_324 (tI_n (by omega)) (tI_n (by omega)) (by decide) (fun g324 => ?_) (fun g324 => ?_)
                                          · exfalso; omega
                                          · refine lv_iload_n hx hb d_Mo_front_327 rfl (lv_at hl 2 rfl) ?_
                                            refine lv_bipush (v := nI 81) hx hb d_Mo_front_328 (by decide) ?_
                                            refine z_icmp_eq (tgt := 339) hx hb d_Mo_front_330 (tI_n (by omega)) (tI_n (by omega)) (by decide) (fun g330 => ?_) (fun g330 => ?_)
                                            · exfalso; omega
                                            · refine lv_aload_n hx hb d_Mo_front_333 rfl (lv_at hl 1 rfl) ?_
                                              refine lv_bipush (v := nI 44) hx hb d_Mo_front_334 (by decide) ?_
                                              refine uV (As := [.int (nI 44)]) (rest := []) (wr := []) hx hb hml hown ht (c_Mo_put l dC dI z _ o gi ge gt go gb gm gl i0 e0 t0 mk (ap (ap1 (ap (dr L0) (nmL 66 78 90)) 32) (rgM (f % 4))) cl 44 (Nat.le_of_ble_eq_true rfl)) yv_Mo_put k_609 (Nat.le_of_ble_eq_true rfl) (Nat.le_of_ble_eq_true rfl) hP hK hSS hD hS hA [0, 1] [] [0] rfl rfl (by decide) rfl (by decide) (by decide) rfl 0 5 rfl rfl rfl hl rfl rfl (Nat.le_of_ble_eq_true rfl) (Nat.zero_le _) (Nat.zero_le _) d_Mo_front_336 (fun H locs hP hD hS => ?_)
                                              have hP : va_P (dC, dI) classes [(o, .inr (5, [.ref gi, .ref ge, .ref gt, .ref go, .ref gb, .ref gm, .ref gl, .int (nI i0.2), .int (nI e0.2), .int (nI t0.2), .int (nI mk), .int (nI ((ap1 (ap (ap1 (ap (dr L0) (nmL 66 78 90)) 32) (rgM (f % 4))) 44).2))])), (gl, .inl (cl, 32, .inl (iN ((ap1 (ap (ap1 (ap (dr L0) (nmL 66 78 90)) 32) (rgM (f % 4))) 44).1))))] H := hP
                                              have hD : va_D A [(o, .inr (5, [.ref gi, .ref ge, .ref gt, .ref go, .ref gb, .ref gm, .ref gl, .int (nI i0.2), .int (nI e0.2), .int (nI t0.2), .int (nI mk), .int (nI ((ap1 (ap (ap1 (ap (dr L0) (nmL 66 78 90)) 32) (rgM (f % 4))) 44).2))])), (gl, .inl (cl, 32, .inl (iN ((ap1 (ap (ap1 (ap (dr L0) (nmL 66 78 90)) 32) (rgM (f % 4))) 44).1))))] := hD
                                              refine stk (st2 := []) rfl ?_
                                              rw [hfr]
                                              exact eUv hx hb hr hlocks hP hD hS [0, 1] rfl rfl (by decide) d_Mo_front_339
                                    · exfalso; omega
                                · exfalso; omega
                            · exfalso; omega
                          · exfalso; omega
                      · exfalso; omega
                  · exfalso; omega
                · exfalso; omega
              · exfalso; omega
            · exfalso; omega
          · exfalso; omega
        · exfalso; omega
      · exfalso; omega
    · exfalso; omega
  · obtain ⟨hfr, hlg⟩ := fr_14 hf ef
    have hl3 := lgO_le f
    have hlg2 : ¬ 1 < lgO f := fun q => hlg.mp q
    refine lv_iload_n hx hb d_Mo_front_5 rfl (lv_at hl 1 rfl) ?_
    refine lv_bipush (v := nI 16) hx hb d_Mo_front_6 (by decide) ?_
    refine nDiv hx hb d_Mo_front_8 (by omega) (by omega) (by omega) ?_
    refine lv_istore_n (lv' := [(2, .int (nI (f / 16))), (0, .ref o), (1, .int (nI f))]) hx hb d_Mo_front_9 rfl hl (Nat.le_of_ble_eq_true rfl) rfl (fun ls hl => ?_)
    refine lv_iload_n hx hb d_Mo_front_10 rfl (lv_at hl 0 rfl) ?_
    refine z_if_ne (tgt := 70) hx hb d_Mo_front_11 (tI_n (by omega)) (by decide) (fun g11 => ?_) (fun g11 => ?_)
    · refine lv_iload_n hx hb d_Mo_front_70 rfl (lv_at hl 0 rfl) ?_
      refine lv_iconst (v := nI 1) hx hb d_Mo_front_71 (by decide) ?_
      refine z_icmp_ne (tgt := 85) hx hb d_Mo_front_72 (tI_n (by omega)) (tI_n (by omega)) (by decide) (fun g72 => ?_) (fun g72 => ?_)
      · refine lv_iload_n hx hb d_Mo_front_85 rfl (lv_at hl 0 rfl) ?_
        refine lv_iconst (v := nI 2) hx hb d_Mo_front_86 (by decide) ?_
        refine z_icmp_ne (tgt := 100) hx hb d_Mo_front_87 (tI_n (by omega)) (tI_n (by omega)) (by decide) (fun g87 => ?_) (fun g87 => ?_)
        · refine lv_iload_n hx hb d_Mo_front_100 rfl (lv_at hl 0 rfl) ?_
          refine lv_iconst (v := nI 3) hx hb d_Mo_front_101 (by decide) ?_
          refine z_icmp_ne (tgt := 115) hx hb d_Mo_front_102 (tI_n (by omega)) (tI_n (by omega)) (by decide) (fun g102 => ?_) (fun g102 => ?_)
          · refine lv_iload_n hx hb d_Mo_front_115 rfl (lv_at hl 0 rfl) ?_
            refine lv_iconst (v := nI 4) hx hb d_Mo_front_116 (by decide) ?_
            refine z_icmp_ne (tgt := 130) hx hb d_Mo_front_117 (tI_n (by omega)) (tI_n (by omega)) (by decide) (fun g117 => ?_) (fun g117 => ?_)
            · refine lv_iload_n hx hb d_Mo_front_130 rfl (lv_at hl 2 rfl) ?_
              refine lv_bipush (v := nI 80) hx hb d_Mo_front_131 (by decide) ?_
              refine z_icmp_ne (tgt := 146) hx hb d_Mo_front_133 (tI_n (by omega)) (tI_n (by omega)) (by decide) (fun g133 => ?_) (fun g133 => ?_)
              · refine lv_iload_n hx hb d_Mo_front_146 rfl (lv_at hl 2 rfl) ?_
                refine lv_bipush (v := nI 81) hx hb d_Mo_front_147 (by decide) ?_
                refine z_icmp_ne (tgt := 162) hx hb d_Mo_front_149 (tI_n (by omega)) (tI_n (by omega)) (by decide) (fun g149 => ?_) (fun g149 => ?_)
                · refine lv_iload_n hx hb d_Mo_front_162 rfl (lv_at hl 2 rfl) ?_
                  refine lv_bipush (v := nI 81) hx hb d_Mo_front_163 (by decide) ?_
                  refine z_icmp_ne (tgt := 174) hx hb d_Mo_front_165 (tI_n (by omega)) (tI_n (by omega)) (by decide) (fun g165 => ?_) (fun g165 => ?_)
                  · refine lv_iload_n hx hb d_Mo_front_174 rfl (lv_at hl 2 rfl) ?_
                    refine lv_bipush (v := nI 82) hx hb d_Mo_front_175 (by decide) ?_
                    refine z_icmp_lt (tgt := 195) hx hb d_Mo_front_177 (tI_n (by omega)) (tI_n (by omega)) (by decide) (fun g177 => ?_) (fun g177 => ?_)
                    · exfalso; omega
                    · refine lv_iload_n hx hb d_Mo_front_180 rfl (lv_at hl 2 rfl) ?_
                      refine lv_bipush (v := nI 85) hx hb d_Mo_front_181 (by decide) ?_
                      refine z_icmp_gt (tgt := 195) hx hb d_Mo_front_183 (tI_n (by omega)) (tI_n (by omega)) (by decide) (fun g183 => ?_) (fun g183 => ?_)
                      · refine lv_iload_n hx hb d_Mo_front_195 rfl (lv_at hl 0 rfl) ?_
                        refine lv_bipush (v := nI 6) hx hb d_Mo_front_196 (by decide) ?_
                        refine z_icmp_ne (tgt := 211) hx hb d_Mo_front_198 (tI_n (by omega)) (tI_n (by omega)) (by decide) (fun g198 => ?_) (fun g198 => ?_)
                        · exfalso; omega
                        · refine lv_aload_n hx hb d_Mo_front_201 rfl (lv_at hl 1 rfl) ?_
                          refine lv_bipush (v := nI 66) hx hb d_Mo_front_202 (by decide) ?_
                          refine lv_bipush (v := nI 78) hx hb d_Mo_front_204 (by decide) ?_
                          refine lv_bipush (v := nI 90) hx hb d_Mo_front_206 (by decide) ?_
                          refine uV (As := [.int (nI 66), .int (nI 78), .int (nI 90)]) (rest := []) (wr := []) hx hb hml hown ht (c_Mo_name l dC dI z _ o gi ge gt go gb gm gl i0 e0 t0 mk (dr L0) cl 66 78 90 (Nat.le_of_ble_eq_true rfl) (by first | assumption | omega)) yv_Mo_name k_605 (Nat.le_of_ble_eq_true rfl) (Nat.le_of_ble_eq_true rfl) hP hK hSS hD hS hA [0, 1] [] [0] rfl rfl (by decide) rfl (by decide) (by decide) rfl 0 5 rfl rfl rfl hl rfl rfl (Nat.le_of_ble_eq_true rfl) (Nat.zero_le _) (Nat.zero_le _) d_Mo_front_208 (fun H locs hP hD hS => ?_)
                          have hP : va_P (dC, dI) classes [(o, .inr (5, [.ref gi, .ref ge, .ref gt, .ref go, .ref gb, .ref gm, .ref gl, .int (nI i0.2), .int (nI e0.2), .int (nI t0.2), .int (nI mk), .int (nI ((ap (dr L0) (nmL 66 78 90)).2))])), (gl, .inl (cl, 32, .inl (iN ((ap (dr L0) (nmL 66 78 90)).1))))] H := hP
                          have hD : va_D A [(o, .inr (5, [.ref gi, .ref ge, .ref gt, .ref go, .ref gb, .ref gm, .ref gl, .int (nI i0.2), .int (nI e0.2), .int (nI t0.2), .int (nI mk), .int (nI ((ap (dr L0) (nmL 66 78 90)).2))])), (gl, .inl (cl, 32, .inl (iN ((ap (dr L0) (nmL 66 78 90)).1))))] := hD
                          refine stk (st2 := []) rfl ?_
                          refine lv_iload_n hx hb d_Mo_front_211 rfl (lv_at hl 2 rfl) ?_
                          refine lv_bipush (v := nI 112) hx hb d_Mo_front_212 (by decide) ?_
                          refine z_icmp_lt (tgt := 232) hx hb d_Mo_front_214 (tI_n (by omega)) (tI_n (by omega)) (by decide) (fun g214 => ?_) (fun g214 => ?_)
                          · refine lv_iload_n hx hb d_Mo_front_232 rfl (lv_at hl 2 rfl) ?_
                            refine lv_bipush (v := nI 116) hx hb d_Mo_front_233 (by decide) ?_
                            refine z_icmp_lt (tgt := 247) hx hb d_Mo_front_235 (tI_n (by omega)) (tI_n (by omega)) (by decide) (fun g235 => ?_) (fun g235 => ?_)
                            · refine lv_aload_n hx hb d_Mo_front_247 rfl (lv_at hl 1 rfl) ?_
                              refine lv_bipush (v := nI 32) hx hb d_Mo_front_248 (by decide) ?_
                              refine uV (As := [.int (nI 32)]) (rest := []) (wr := []) hx hb hml hown ht (c_Mo_put l dC dI z _ o gi ge gt go gb gm gl i0 e0 t0 mk (ap (dr L0) (nmL 66 78 90)) cl 32 (Nat.le_of_ble_eq_true rfl)) yv_Mo_put k_609 (Nat.le_of_ble_eq_true rfl) (Nat.le_of_ble_eq_true rfl) hP hK hSS hD hS hA [0, 1] [] [0] rfl rfl (by decide) rfl (by decide) (by decide) rfl 0 5 rfl rfl rfl hl rfl rfl (Nat.le_of_ble_eq_true rfl) (Nat.zero_le _) (Nat.zero_le _) d_Mo_front_250 (fun H locs hP hD hS => ?_)
                              have hP : va_P (dC, dI) classes [(o, .inr (5, [.ref gi, .ref ge, .ref gt, .ref go, .ref gb, .ref gm, .ref gl, .int (nI i0.2), .int (nI e0.2), .int (nI t0.2), .int (nI mk), .int (nI ((ap1 (ap (dr L0) (nmL 66 78 90)) 32).2))])), (gl, .inl (cl, 32, .inl (iN ((ap1 (ap (dr L0) (nmL 66 78 90)) 32).1))))] H := hP
                              have hD : va_D A [(o, .inr (5, [.ref gi, .ref ge, .ref gt, .ref go, .ref gb, .ref gm, .ref gl, .int (nI i0.2), .int (nI e0.2), .int (nI t0.2), .int (nI mk), .int (nI ((ap1 (ap (dr L0) (nmL 66 78 90)) 32).2))])), (gl, .inl (cl, 32, .inl (iN ((ap1 (ap (dr L0) (nmL 66 78 90)) 32).1))))] := hD
                              refine stk (st2 := []) rfl ?_
                              refine lv_iload_n hx hb d_Mo_front_253 rfl (lv_at hl 0 rfl) ?_
                              refine lv_iconst (v := nI 3) hx hb d_Mo_front_254 (by decide) ?_
                              refine z_icmp_eq (tgt := 263) hx hb d_Mo_front_255 (tI_n (by omega)) (tI_n (by omega)) (by decide) (fun g255 => ?_) (fun g255 => ?_)
                              · exfalso; omega
                              · refine lv_iload_n hx hb d_Mo_front_258 rfl (lv_at hl 0 rfl) ?_
                                refine lv_iconst (v := nI 4) hx hb d_Mo_front_259 (by decide) ?_
                                refine z_icmp_ne (tgt := 278) hx hb d_Mo_front_260 (tI_n (by omega)) (tI_n (by omega)) (by decide) (fun g260 => ?_) (fun g260 => ?_)
                                · refine lv_iload_n hx hb d_Mo_front_278 rfl (lv_at hl 2 rfl) ?_
                                  refine lv_bipush (v := nI 82) hx hb d_Mo_front_279 (by decide) ?_
                                  refine z_icmp_lt (tgt := 301) hx hb d_Mo_front_281 (tI_n (by omega)) (tI_n (by omega)) (by decide) (fun g281 => ?_) (fun g281 => ?_)
                                  · exfalso; omega
                                  · refine lv_iload_n hx hb d_Mo_front_284 rfl (lv_at hl 2 rfl) ?_
                                    refine lv_bipush (v := nI 85) hx hb d_Mo_front_285 (by decide) ?_
                                    refine z_icmp_gt (tgt := 301) hx hb d_Mo_front_287 (tI_n (by omega)) (tI_n (by omega)) (by decide) (fun g287 => ?_) (fun g287 => ?_)
                                    · refine lv_iload_n hx hb d_Mo_front_301 rfl (lv_at hl 0 rfl) ?_
                                      refine lv_iconst (v := nI 5) hx hb d_Mo_front_302 (by decide) ?_
                                      refine z_icmp_eq (tgt := 313) hx hb d_Mo_front_303 (tI_n (by omega)) (tI_n (by omega)) (by decide) (fun g303 => ?_) (fun g303 => ?_)
                                      · exfalso; omega
                                      · refine lv_aload_n hx hb d_Mo_front_306 rfl (lv_at hl 1 rfl) ?_
                                        refine lv_iload_n hx hb d_Mo_front_307 rfl (lv_at hl 2 rfl) ?_
                                        refine lv_iconst (v := nI 4) hx hb d_Mo_front_308 (by decide) ?_
                                        refine nRem hx hb d_Mo_front_309 (by omega) (by omega) (by omega) ?_
                                        refine uV (As := [.int (nI (f % 4))]) (rest := []) (wr := []) hx hb hml hown ht (c_Mo_register l dC dI z _ o gi ge gt go gb gm gl i0 e0 t0 mk (ap1 (ap (dr L0) (nmL 66 78 90)) 32) cl (f % 4) (Nat.le_of_ble_eq_true rfl) (by first | assumption | omega)) yv_Mo_register k_625 (Nat.le_of_ble_eq_true rfl) (Nat.le_of_ble_eq_true rfl) hP hK hSS hD hS hA [0, 1] [] [0] rfl rfl (by decide) rfl (by decide) (by decide) rfl 0 5 rfl rfl rfl hl rfl rfl (Nat.le_of_ble_eq_true rfl) (Nat.zero_le _) (Nat.zero_le _) d_Mo_front_310 (fun H locs hP hD hS => ?_)
                                        have hP : va_P (dC, dI) classes [(o, .inr (5, [.ref gi, .ref ge, .ref gt, .ref go, .ref gb, .ref gm, .ref gl, .int (nI i0.2), .int (nI e0.2), .int (nI t0.2), .int (nI mk), .int (nI ((ap (ap1 (ap (dr L0) (nmL 66 78 90)) 32) (rgM (f % 4))).2))])), (gl, .inl (cl, 32, .inl (iN ((ap (ap1 (ap (dr L0) (nmL 66 78 90)) 32) (rgM (f % 4))).1))))] H := hP
                                        have hD : va_D A [(o, .inr (5, [.ref gi, .ref ge, .ref gt, .ref go, .ref gb, .ref gm, .ref gl, .int (nI i0.2), .int (nI e0.2), .int (nI t0.2), .int (nI mk), .int (nI ((ap (ap1 (ap (dr L0) (nmL 66 78 90)) 32) (rgM (f % 4))).2))])), (gl, .inl (cl, 32, .inl (iN ((ap (ap1 (ap (dr L0) (nmL 66 78 90)) 32) (rgM (f % 4))).1))))] := hD
                                        refine stk (st2 := []) rfl ?_
                                        refine lv_iload_n hx hb d_Mo_front_313 rfl (lv_at hl 2 rfl) ?_
                                        refine rS (As := [.int (nI f)]) (rest := []) hx hb hml hown ht (c_Mo_longOf l dC dI z f (by first | assumption | omega)) ys_Mo_longOf k_560 (Nat.le_of_ble_eq_true rfl) (Nat.le_of_ble_eq_true rfl) hP hK hSS hS [] [] rfl rfl hl rfl rfl (Nat.le_of_ble_eq_true rfl) (Nat.zero_le _) (Nat.zero_le _) d_Mo_front_314 ?_
                                        refine lv_iconst (v := nI 1) hx hb d_Mo_front_317 (by decide) ?_
                                        refine z_icmp_le (tgt := 339) hx hb d_Mo_front_318 (tI_n (by omega)) (tI_n (by omega)) (by decide) (fun g318 => ?_) (fun g318 => ?_)
                                        · rw [hfr]
                                          exact eUv hx hb hr hlocks hP hD hS [0, 1] rfl rfl (by decide) d_Mo_front_339
                                        · exfalso; omega
                                    · exfalso; omega
                                · exfalso; omega
                            · exfalso; omega
                          · exfalso; omega
                      · exfalso; omega
                  · exfalso; omega
                · exfalso; omega
              · exfalso; omega
            · exfalso; omega
          · exfalso; omega
        · exfalso; omega
      · exfalso; omega
    · exfalso; omega
  · obtain ⟨hfr, hlg⟩ := fr_15 hf ef
    have hl3 := lgO_le f
    have hlg2 : 1 < lgO f := hlg.mpr trivial
    refine lv_iload_n hx hb d_Mo_front_5 rfl (lv_at hl 1 rfl) ?_
    refine lv_bipush (v := nI 16) hx hb d_Mo_front_6 (by decide) ?_
    refine nDiv hx hb d_Mo_front_8 (by omega) (by omega) (by omega) ?_
    refine lv_istore_n (lv' := [(2, .int (nI (f / 16))), (0, .ref o), (1, .int (nI f))]) hx hb d_Mo_front_9 rfl hl (Nat.le_of_ble_eq_true rfl) rfl (fun ls hl => ?_)
    refine lv_iload_n hx hb d_Mo_front_10 rfl (lv_at hl 0 rfl) ?_
    refine z_if_ne (tgt := 70) hx hb d_Mo_front_11 (tI_n (by omega)) (by decide) (fun g11 => ?_) (fun g11 => ?_)
    · refine lv_iload_n hx hb d_Mo_front_70 rfl (lv_at hl 0 rfl) ?_
      refine lv_iconst (v := nI 1) hx hb d_Mo_front_71 (by decide) ?_
      refine z_icmp_ne (tgt := 85) hx hb d_Mo_front_72 (tI_n (by omega)) (tI_n (by omega)) (by decide) (fun g72 => ?_) (fun g72 => ?_)
      · refine lv_iload_n hx hb d_Mo_front_85 rfl (lv_at hl 0 rfl) ?_
        refine lv_iconst (v := nI 2) hx hb d_Mo_front_86 (by decide) ?_
        refine z_icmp_ne (tgt := 100) hx hb d_Mo_front_87 (tI_n (by omega)) (tI_n (by omega)) (by decide) (fun g87 => ?_) (fun g87 => ?_)
        · refine lv_iload_n hx hb d_Mo_front_100 rfl (lv_at hl 0 rfl) ?_
          refine lv_iconst (v := nI 3) hx hb d_Mo_front_101 (by decide) ?_
          refine z_icmp_ne (tgt := 115) hx hb d_Mo_front_102 (tI_n (by omega)) (tI_n (by omega)) (by decide) (fun g102 => ?_) (fun g102 => ?_)
          · refine lv_iload_n hx hb d_Mo_front_115 rfl (lv_at hl 0 rfl) ?_
            refine lv_iconst (v := nI 4) hx hb d_Mo_front_116 (by decide) ?_
            refine z_icmp_ne (tgt := 130) hx hb d_Mo_front_117 (tI_n (by omega)) (tI_n (by omega)) (by decide) (fun g117 => ?_) (fun g117 => ?_)
            · refine lv_iload_n hx hb d_Mo_front_130 rfl (lv_at hl 2 rfl) ?_
              refine lv_bipush (v := nI 80) hx hb d_Mo_front_131 (by decide) ?_
              refine z_icmp_ne (tgt := 146) hx hb d_Mo_front_133 (tI_n (by omega)) (tI_n (by omega)) (by decide) (fun g133 => ?_) (fun g133 => ?_)
              · refine lv_iload_n hx hb d_Mo_front_146 rfl (lv_at hl 2 rfl) ?_
                refine lv_bipush (v := nI 81) hx hb d_Mo_front_147 (by decide) ?_
                refine z_icmp_ne (tgt := 162) hx hb d_Mo_front_149 (tI_n (by omega)) (tI_n (by omega)) (by decide) (fun g149 => ?_) (fun g149 => ?_)
                · refine lv_iload_n hx hb d_Mo_front_162 rfl (lv_at hl 2 rfl) ?_
                  refine lv_bipush (v := nI 81) hx hb d_Mo_front_163 (by decide) ?_
                  refine z_icmp_ne (tgt := 174) hx hb d_Mo_front_165 (tI_n (by omega)) (tI_n (by omega)) (by decide) (fun g165 => ?_) (fun g165 => ?_)
                  · refine lv_iload_n hx hb d_Mo_front_174 rfl (lv_at hl 2 rfl) ?_
                    refine lv_bipush (v := nI 82) hx hb d_Mo_front_175 (by decide) ?_
                    refine z_icmp_lt (tgt := 195) hx hb d_Mo_front_177 (tI_n (by omega)) (tI_n (by omega)) (by decide) (fun g177 => ?_) (fun g177 => ?_)
                    · exfalso; omega
                    · refine lv_iload_n hx hb d_Mo_front_180 rfl (lv_at hl 2 rfl) ?_
                      refine lv_bipush (v := nI 85) hx hb d_Mo_front_181 (by decide) ?_
                      refine z_icmp_gt (tgt := 195) hx hb d_Mo_front_183 (tI_n (by omega)) (tI_n (by omega)) (by decide) (fun g183 => ?_) (fun g183 => ?_)
                      · refine lv_iload_n hx hb d_Mo_front_195 rfl (lv_at hl 0 rfl) ?_
                        refine lv_bipush (v := nI 6) hx hb d_Mo_front_196 (by decide) ?_
                        refine z_icmp_ne (tgt := 211) hx hb d_Mo_front_198 (tI_n (by omega)) (tI_n (by omega)) (by decide) (fun g198 => ?_) (fun g198 => ?_)
                        · refine lv_iload_n hx hb d_Mo_front_211 rfl (lv_at hl 2 rfl) ?_
                          refine lv_bipush (v := nI 112) hx hb d_Mo_front_212 (by decide) ?_
                          refine z_icmp_lt (tgt := 232) hx hb d_Mo_front_214 (tI_n (by omega)) (tI_n (by omega)) (by decide) (fun g214 => ?_) (fun g214 => ?_)
                          · exfalso; omega
                          · refine lv_iload_n hx hb d_Mo_front_217 rfl (lv_at hl 2 rfl) ?_
                            refine lv_bipush (v := nI 115) hx hb d_Mo_front_218 (by decide) ?_
                            refine z_icmp_gt (tgt := 232) hx hb d_Mo_front_220 (tI_n (by omega)) (tI_n (by omega)) (by decide) (fun g220 => ?_) (fun g220 => ?_)
                            · exfalso; omega
                            · refine lv_aload_n hx hb d_Mo_front_223 rfl (lv_at hl 1 rfl) ?_
                              refine lv_bipush (v := nI 76) hx hb d_Mo_front_224 (by decide) ?_
                              refine lv_bipush (v := nI 68) hx hb d_Mo_front_226 (by decide) ?_
                              refine lv_iconst (v := nI 0) hx hb d_Mo_front_228 (by decide) ?_
                              refine uV (As := [.int (nI 76), .int (nI 68), .int (nI 0)]) (rest := []) (wr := []) hx hb hml hown ht (c_Mo_name l dC dI z _ o gi ge gt go gb gm gl i0 e0 t0 mk (dr L0) cl 76 68 0 (Nat.le_of_ble_eq_true rfl) (by first | assumption | omega)) yv_Mo_name k_605 (Nat.le_of_ble_eq_true rfl) (Nat.le_of_ble_eq_true rfl) hP hK hSS hD hS hA [0, 1] [] [0] rfl rfl (by decide) rfl (by decide) (by decide) rfl 0 5 rfl rfl rfl hl rfl rfl (Nat.le_of_ble_eq_true rfl) (Nat.zero_le _) (Nat.zero_le _) d_Mo_front_229 (fun H locs hP hD hS => ?_)
                              have hP : va_P (dC, dI) classes [(o, .inr (5, [.ref gi, .ref ge, .ref gt, .ref go, .ref gb, .ref gm, .ref gl, .int (nI i0.2), .int (nI e0.2), .int (nI t0.2), .int (nI mk), .int (nI ((ap (dr L0) (nmL 76 68 0)).2))])), (gl, .inl (cl, 32, .inl (iN ((ap (dr L0) (nmL 76 68 0)).1))))] H := hP
                              have hD : va_D A [(o, .inr (5, [.ref gi, .ref ge, .ref gt, .ref go, .ref gb, .ref gm, .ref gl, .int (nI i0.2), .int (nI e0.2), .int (nI t0.2), .int (nI mk), .int (nI ((ap (dr L0) (nmL 76 68 0)).2))])), (gl, .inl (cl, 32, .inl (iN ((ap (dr L0) (nmL 76 68 0)).1))))] := hD
                              refine stk (st2 := []) rfl ?_
                              refine lv_iload_n hx hb d_Mo_front_232 rfl (lv_at hl 2 rfl) ?_
                              refine lv_bipush (v := nI 116) hx hb d_Mo_front_233 (by decide) ?_
                              refine z_icmp_lt (tgt := 247) hx hb d_Mo_front_235 (tI_n (by omega)) (tI_n (by omega)) (by decide) (fun g235 => ?_) (fun g235 => ?_)
                              · refine lv_aload_n hx hb d_Mo_front_247 rfl (lv_at hl 1 rfl) ?_
                                refine lv_bipush (v := nI 32) hx hb d_Mo_front_248 (by decide) ?_
                                refine uV (As := [.int (nI 32)]) (rest := []) (wr := []) hx hb hml hown ht (c_Mo_put l dC dI z _ o gi ge gt go gb gm gl i0 e0 t0 mk (ap (dr L0) (nmL 76 68 0)) cl 32 (Nat.le_of_ble_eq_true rfl)) yv_Mo_put k_609 (Nat.le_of_ble_eq_true rfl) (Nat.le_of_ble_eq_true rfl) hP hK hSS hD hS hA [0, 1] [] [0] rfl rfl (by decide) rfl (by decide) (by decide) rfl 0 5 rfl rfl rfl hl rfl rfl (Nat.le_of_ble_eq_true rfl) (Nat.zero_le _) (Nat.zero_le _) d_Mo_front_250 (fun H locs hP hD hS => ?_)
                                have hP : va_P (dC, dI) classes [(o, .inr (5, [.ref gi, .ref ge, .ref gt, .ref go, .ref gb, .ref gm, .ref gl, .int (nI i0.2), .int (nI e0.2), .int (nI t0.2), .int (nI mk), .int (nI ((ap1 (ap (dr L0) (nmL 76 68 0)) 32).2))])), (gl, .inl (cl, 32, .inl (iN ((ap1 (ap (dr L0) (nmL 76 68 0)) 32).1))))] H := hP
                                have hD : va_D A [(o, .inr (5, [.ref gi, .ref ge, .ref gt, .ref go, .ref gb, .ref gm, .ref gl, .int (nI i0.2), .int (nI e0.2), .int (nI t0.2), .int (nI mk), .int (nI ((ap1 (ap (dr L0) (nmL 76 68 0)) 32).2))])), (gl, .inl (cl, 32, .inl (iN ((ap1 (ap (dr L0) (nmL 76 68 0)) 32).1))))] := hD
                                refine stk (st2 := []) rfl ?_
                                refine lv_iload_n hx hb d_Mo_front_253 rfl (lv_at hl 0 rfl) ?_
                                refine lv_iconst (v := nI 3) hx hb d_Mo_front_254 (by decide) ?_
                                refine z_icmp_eq (tgt := 263) hx hb d_Mo_front_255 (tI_n (by omega)) (tI_n (by omega)) (by decide) (fun g255 => ?_) (fun g255 => ?_)
                                · exfalso; omega
                                · refine lv_iload_n hx hb d_Mo_front_258 rfl (lv_at hl 0 rfl) ?_
                                  refine lv_iconst (v := nI 4) hx hb d_Mo_front_259 (by decide) ?_
                                  refine z_icmp_ne (tgt := 278) hx hb d_Mo_front_260 (tI_n (by omega)) (tI_n (by omega)) (by decide) (fun g260 => ?_) (fun g260 => ?_)
                                  · refine lv_iload_n hx hb d_Mo_front_278 rfl (lv_at hl 2 rfl) ?_
                                    refine lv_bipush (v := nI 82) hx hb d_Mo_front_279 (by decide) ?_
                                    refine z_icmp_lt (tgt := 301) hx hb d_Mo_front_281 (tI_n (by omega)) (tI_n (by omega)) (by decide) (fun g281 => ?_) (fun g281 => ?_)
                                    · exfalso; omega
                                    · refine lv_iload_n hx hb d_Mo_front_284 rfl (lv_at hl 2 rfl) ?_
                                      refine lv_bipush (v := nI 85) hx hb d_Mo_front_285 (by decide) ?_
                                      refine z_icmp_gt (tgt := 301) hx hb d_Mo_front_287 (tI_n (by omega)) (tI_n (by omega)) (by decide) (fun g287 => ?_) (fun g287 => ?_)
                                      · refine lv_iload_n hx hb d_Mo_front_301 rfl (lv_at hl 0 rfl) ?_
                                        refine lv_iconst (v := nI 5) hx hb d_Mo_front_302 (by decide) ?_
                                        refine z_icmp_eq (tgt := 313) hx hb d_Mo_front_303 (tI_n (by omega)) (tI_n (by omega)) (by decide) (fun g303 => ?_) (fun g303 => ?_)
                                        · exfalso; omega
                                        · refine lv_aload_n hx hb d_Mo_front_306 rfl (lv_at hl 1 rfl) ?_
                                          refine lv_iload_n hx hb d_Mo_front_307 rfl (lv_at hl 2 rfl) ?_
                                          refine lv_iconst (v := nI 4) hx hb d_Mo_front_308 (by decide) ?_
                                          refine nRem hx hb d_Mo_front_309 (by omega) (by omega) (by omega) ?_
                                          refine uV (As := [.int (nI (f % 4))]) (rest := []) (wr := []) hx hb hml hown ht (c_Mo_register l dC dI z _ o gi ge gt go gb gm gl i0 e0 t0 mk (ap1 (ap (dr L0) (nmL 76 68 0)) 32) cl (f % 4) (Nat.le_of_ble_eq_true rfl) (by first | assumption | omega)) yv_Mo_register k_625 (Nat.le_of_ble_eq_true rfl) (Nat.le_of_ble_eq_true rfl) hP hK hSS hD hS hA [0, 1] [] [0] rfl rfl (by decide) rfl (by decide) (by decide) rfl 0 5 rfl rfl rfl hl rfl rfl (Nat.le_of_ble_eq_true rfl) (Nat.zero_le _) (Nat.zero_le _) d_Mo_front_310 (fun H locs hP hD hS => ?_)
                                          have hP : va_P (dC, dI) classes [(o, .inr (5, [.ref gi, .ref ge, .ref gt, .ref go, .ref gb, .ref gm, .ref gl, .int (nI i0.2), .int (nI e0.2), .int (nI t0.2), .int (nI mk), .int (nI ((ap (ap1 (ap (dr L0) (nmL 76 68 0)) 32) (rgM (f % 4))).2))])), (gl, .inl (cl, 32, .inl (iN ((ap (ap1 (ap (dr L0) (nmL 76 68 0)) 32) (rgM (f % 4))).1))))] H := hP
                                          have hD : va_D A [(o, .inr (5, [.ref gi, .ref ge, .ref gt, .ref go, .ref gb, .ref gm, .ref gl, .int (nI i0.2), .int (nI e0.2), .int (nI t0.2), .int (nI mk), .int (nI ((ap (ap1 (ap (dr L0) (nmL 76 68 0)) 32) (rgM (f % 4))).2))])), (gl, .inl (cl, 32, .inl (iN ((ap (ap1 (ap (dr L0) (nmL 76 68 0)) 32) (rgM (f % 4))).1))))] := hD
                                          refine stk (st2 := []) rfl ?_
                                          refine lv_iload_n hx hb d_Mo_front_313 rfl (lv_at hl 2 rfl) ?_
                                          refine rS (As := [.int (nI f)]) (rest := []) hx hb hml hown ht (c_Mo_longOf l dC dI z f (by first | assumption | omega)) ys_Mo_longOf k_560 (Nat.le_of_ble_eq_true rfl) (Nat.le_of_ble_eq_true rfl) hP hK hSS hS [] [] rfl rfl hl rfl rfl (Nat.le_of_ble_eq_true rfl) (Nat.zero_le _) (Nat.zero_le _) d_Mo_front_314 ?_
                                          refine lv_iconst (v := nI 1) hx hb d_Mo_front_317 (by decide) ?_
                                          refine z_icmp_le (tgt := 339) hx hb d_Mo_front_318 (tI_n (by omega)) (tI_n (by omega)) (by decide) (fun g318 => ?_) (fun g318 => ?_)
                                          · exfalso; omega
                                          · refine lv_iload_n hx hb d_Mo_front_321 rfl (lv_at hl 2 rfl) ?_
                                            refine lv_bipush (v := nI 80) hx hb d_Mo_front_322 (by decide) ?_
                                            refine z_icmp_eq (tgt := 339) hx hb d_Mo_front_324 (tI_n (by omega)) (tI_n (by omega)) (by decide) (fun g324 => ?_) (fun g324 => ?_)
                                            · exfalso; omega
                                            · refine lv_iload_n hx hb d_Mo_front_327 rfl (lv_at hl 2 rfl) ?_
                                              refine lv_bipush (v := nI 81) hx hb d_Mo_front_328 (by decide) ?_
                                              refine z_icmp_eq (tgt := 339) hx hb d_Mo_front_330 (tI_n (by omega)) (tI_n (by omega)) (by decide) (fun g330 => ?_) (fun g330 => ?_)
                                              · exfalso; omega
                                              · refine lv_aload_n hx hb d_Mo_front_333 rfl (lv_at hl 1 rfl) ?_
                                                refine lv_bipush (v := nI 44) hx hb d_Mo_front_334 (by decide) ?_
                                                refine uV (As := [.int (nI 44)]) (rest := []) (wr := []) hx hb hml hown ht (c_Mo_put l dC dI z _ o gi ge gt go gb gm gl i0 e0 t0 mk (ap (ap1 (ap (dr L0) (nmL 76 68 0)) 32) (rgM (f % 4))) cl 44 (Nat.le_of_ble_eq_true rfl)) yv_Mo_put k_609 (Nat.le_of_ble_eq_true rfl) (Nat.le_of_ble_eq_true rfl) hP hK hSS hD hS hA [0, 1] [] [0] rfl rfl (by decide) rfl (by decide) (by decide) rfl 0 5 rfl rfl rfl hl rfl rfl (Nat.le_of_ble_eq_true rfl) (Nat.zero_le _) (Nat.zero_le _) d_Mo_front_336 (fun H locs hP hD hS => ?_)
                                                have hP : va_P (dC, dI) classes [(o, .inr (5, [.ref gi, .ref ge, .ref gt, .ref go, .ref gb, .ref gm, .ref gl, .int (nI i0.2), .int (nI e0.2), .int (nI t0.2), .int (nI mk), .int (nI ((ap1 (ap (ap1 (ap (dr L0) (nmL 76 68 0)) 32) (rgM (f % 4))) 44).2))])), (gl, .inl (cl, 32, .inl (iN ((ap1 (ap (ap1 (ap (dr L0) (nmL 76 68 0)) 32) (rgM (f % 4))) 44).1))))] H := hP
                                                have hD : va_D A [(o, .inr (5, [.ref gi, .ref ge, .ref gt, .ref go, .ref gb, .ref gm, .ref gl, .int (nI i0.2), .int (nI e0.2), .int (nI t0.2), .int (nI mk), .int (nI ((ap1 (ap (ap1 (ap (dr L0) (nmL 76 68 0)) 32) (rgM (f % 4))) 44).2))])), (gl, .inl (cl, 32, .inl (iN ((ap1 (ap (ap1 (ap (dr L0) (nmL 76 68 0)) 32) (rgM (f % 4))) 44).1))))] := hD
                                                refine stk (st2 := []) rfl ?_
                                                rw [hfr]
                                                exact eUv hx hb hr hlocks hP hD hS [0, 1] rfl rfl (by decide) d_Mo_front_339
                                      · exfalso; omega
                                  · exfalso; omega
                              · exfalso; omega
                        · exfalso; omega
                      · exfalso; omega
                  · exfalso; omega
                · exfalso; omega
              · exfalso; omega
            · exfalso; omega
          · exfalso; omega
        · exfalso; omega
      · exfalso; omega
    · exfalso; omega
  · obtain ⟨hfr, hlg⟩ := fr_16 hf ef
    have hl3 := lgO_le f
    have hlg2 : 1 < lgO f := hlg.mpr trivial
    refine lv_iload_n hx hb d_Mo_front_5 rfl (lv_at hl 1 rfl) ?_
    refine lv_bipush (v := nI 16) hx hb d_Mo_front_6 (by decide) ?_
    refine nDiv hx hb d_Mo_front_8 (by omega) (by omega) (by omega) ?_
    refine lv_istore_n (lv' := [(2, .int (nI (f / 16))), (0, .ref o), (1, .int (nI f))]) hx hb d_Mo_front_9 rfl hl (Nat.le_of_ble_eq_true rfl) rfl (fun ls hl => ?_)
    refine lv_iload_n hx hb d_Mo_front_10 rfl (lv_at hl 0 rfl) ?_
    refine z_if_ne (tgt := 70) hx hb d_Mo_front_11 (tI_n (by omega)) (by decide) (fun g11 => ?_) (fun g11 => ?_)
    · refine lv_iload_n hx hb d_Mo_front_70 rfl (lv_at hl 0 rfl) ?_
      refine lv_iconst (v := nI 1) hx hb d_Mo_front_71 (by decide) ?_
      refine z_icmp_ne (tgt := 85) hx hb d_Mo_front_72 (tI_n (by omega)) (tI_n (by omega)) (by decide) (fun g72 => ?_) (fun g72 => ?_)
      · refine lv_iload_n hx hb d_Mo_front_85 rfl (lv_at hl 0 rfl) ?_
        refine lv_iconst (v := nI 2) hx hb d_Mo_front_86 (by decide) ?_
        refine z_icmp_ne (tgt := 100) hx hb d_Mo_front_87 (tI_n (by omega)) (tI_n (by omega)) (by decide) (fun g87 => ?_) (fun g87 => ?_)
        · refine lv_iload_n hx hb d_Mo_front_100 rfl (lv_at hl 0 rfl) ?_
          refine lv_iconst (v := nI 3) hx hb d_Mo_front_101 (by decide) ?_
          refine z_icmp_ne (tgt := 115) hx hb d_Mo_front_102 (tI_n (by omega)) (tI_n (by omega)) (by decide) (fun g102 => ?_) (fun g102 => ?_)
          · refine lv_iload_n hx hb d_Mo_front_115 rfl (lv_at hl 0 rfl) ?_
            refine lv_iconst (v := nI 4) hx hb d_Mo_front_116 (by decide) ?_
            refine z_icmp_ne (tgt := 130) hx hb d_Mo_front_117 (tI_n (by omega)) (tI_n (by omega)) (by decide) (fun g117 => ?_) (fun g117 => ?_)
            · refine lv_iload_n hx hb d_Mo_front_130 rfl (lv_at hl 2 rfl) ?_
              refine lv_bipush (v := nI 80) hx hb d_Mo_front_131 (by decide) ?_
              refine z_icmp_ne (tgt := 146) hx hb d_Mo_front_133 (tI_n (by omega)) (tI_n (by omega)) (by decide) (fun g133 => ?_) (fun g133 => ?_)
              · refine lv_iload_n hx hb d_Mo_front_146 rfl (lv_at hl 2 rfl) ?_
                refine lv_bipush (v := nI 81) hx hb d_Mo_front_147 (by decide) ?_
                refine z_icmp_ne (tgt := 162) hx hb d_Mo_front_149 (tI_n (by omega)) (tI_n (by omega)) (by decide) (fun g149 => ?_) (fun g149 => ?_)
                · refine lv_iload_n hx hb d_Mo_front_162 rfl (lv_at hl 2 rfl) ?_
                  refine lv_bipush (v := nI 81) hx hb d_Mo_front_163 (by decide) ?_
                  refine z_icmp_ne (tgt := 174) hx hb d_Mo_front_165 (tI_n (by omega)) (tI_n (by omega)) (by decide) (fun g165 => ?_) (fun g165 => ?_)
                  · refine lv_iload_n hx hb d_Mo_front_174 rfl (lv_at hl 2 rfl) ?_
                    refine lv_bipush (v := nI 82) hx hb d_Mo_front_175 (by decide) ?_
                    refine z_icmp_lt (tgt := 195) hx hb d_Mo_front_177 (tI_n (by omega)) (tI_n (by omega)) (by decide) (fun g177 => ?_) (fun g177 => ?_)
                    · exfalso; omega
                    · refine lv_iload_n hx hb d_Mo_front_180 rfl (lv_at hl 2 rfl) ?_
                      refine lv_bipush (v := nI 85) hx hb d_Mo_front_181 (by decide) ?_
                      refine z_icmp_gt (tgt := 195) hx hb d_Mo_front_183 (tI_n (by omega)) (tI_n (by omega)) (by decide) (fun g183 => ?_) (fun g183 => ?_)
                      · refine lv_iload_n hx hb d_Mo_front_195 rfl (lv_at hl 0 rfl) ?_
                        refine lv_bipush (v := nI 6) hx hb d_Mo_front_196 (by decide) ?_
                        refine z_icmp_ne (tgt := 211) hx hb d_Mo_front_198 (tI_n (by omega)) (tI_n (by omega)) (by decide) (fun g198 => ?_) (fun g198 => ?_)
                        · refine lv_iload_n hx hb d_Mo_front_211 rfl (lv_at hl 2 rfl) ?_
                          refine lv_bipush (v := nI 112) hx hb d_Mo_front_212 (by decide) ?_
                          refine z_icmp_lt (tgt := 232) hx hb d_Mo_front_214 (tI_n (by omega)) (tI_n (by omega)) (by decide) (fun g214 => ?_) (fun g214 => ?_)
                          · exfalso; omega
                          · refine lv_iload_n hx hb d_Mo_front_217 rfl (lv_at hl 2 rfl) ?_
                            refine lv_bipush (v := nI 115) hx hb d_Mo_front_218 (by decide) ?_
                            refine z_icmp_gt (tgt := 232) hx hb d_Mo_front_220 (tI_n (by omega)) (tI_n (by omega)) (by decide) (fun g220 => ?_) (fun g220 => ?_)
                            · refine lv_iload_n hx hb d_Mo_front_232 rfl (lv_at hl 2 rfl) ?_
                              refine lv_bipush (v := nI 116) hx hb d_Mo_front_233 (by decide) ?_
                              refine z_icmp_lt (tgt := 247) hx hb d_Mo_front_235 (tI_n (by omega)) (tI_n (by omega)) (by decide) (fun g235 => ?_) (fun g235 => ?_)
                              · exfalso; omega
                              · refine lv_aload_n hx hb d_Mo_front_238 rfl (lv_at hl 1 rfl) ?_
                                refine lv_bipush (v := nI 83) hx hb d_Mo_front_239 (by decide) ?_
                                refine lv_bipush (v := nI 84) hx hb d_Mo_front_241 (by decide) ?_
                                refine lv_iconst (v := nI 0) hx hb d_Mo_front_243 (by decide) ?_
                                refine uV (As := [.int (nI 83), .int (nI 84), .int (nI 0)]) (rest := []) (wr := []) hx hb hml hown ht (c_Mo_name l dC dI z _ o gi ge gt go gb gm gl i0 e0 t0 mk (dr L0) cl 83 84 0 (Nat.le_of_ble_eq_true rfl) (by first | assumption | omega)) yv_Mo_name k_605 (Nat.le_of_ble_eq_true rfl) (Nat.le_of_ble_eq_true rfl) hP hK hSS hD hS hA [0, 1] [] [0] rfl rfl (by decide) rfl (by decide) (by decide) rfl 0 5 rfl rfl rfl hl rfl rfl (Nat.le_of_ble_eq_true rfl) (Nat.zero_le _) (Nat.zero_le _) d_Mo_front_244 (fun H locs hP hD hS => ?_)
                                have hP : va_P (dC, dI) classes [(o, .inr (5, [.ref gi, .ref ge, .ref gt, .ref go, .ref gb, .ref gm, .ref gl, .int (nI i0.2), .int (nI e0.2), .int (nI t0.2), .int (nI mk), .int (nI ((ap (dr L0) (nmL 83 84 0)).2))])), (gl, .inl (cl, 32, .inl (iN ((ap (dr L0) (nmL 83 84 0)).1))))] H := hP
                                have hD : va_D A [(o, .inr (5, [.ref gi, .ref ge, .ref gt, .ref go, .ref gb, .ref gm, .ref gl, .int (nI i0.2), .int (nI e0.2), .int (nI t0.2), .int (nI mk), .int (nI ((ap (dr L0) (nmL 83 84 0)).2))])), (gl, .inl (cl, 32, .inl (iN ((ap (dr L0) (nmL 83 84 0)).1))))] := hD
                                refine stk (st2 := []) rfl ?_
                                refine lv_aload_n hx hb d_Mo_front_247 rfl (lv_at hl 1 rfl) ?_
                                refine lv_bipush (v := nI 32) hx hb d_Mo_front_248 (by decide) ?_
                                refine uV (As := [.int (nI 32)]) (rest := []) (wr := []) hx hb hml hown ht (c_Mo_put l dC dI z _ o gi ge gt go gb gm gl i0 e0 t0 mk (ap (dr L0) (nmL 83 84 0)) cl 32 (Nat.le_of_ble_eq_true rfl)) yv_Mo_put k_609 (Nat.le_of_ble_eq_true rfl) (Nat.le_of_ble_eq_true rfl) hP hK hSS hD hS hA [0, 1] [] [0] rfl rfl (by decide) rfl (by decide) (by decide) rfl 0 5 rfl rfl rfl hl rfl rfl (Nat.le_of_ble_eq_true rfl) (Nat.zero_le _) (Nat.zero_le _) d_Mo_front_250 (fun H locs hP hD hS => ?_)
                                have hP : va_P (dC, dI) classes [(o, .inr (5, [.ref gi, .ref ge, .ref gt, .ref go, .ref gb, .ref gm, .ref gl, .int (nI i0.2), .int (nI e0.2), .int (nI t0.2), .int (nI mk), .int (nI ((ap1 (ap (dr L0) (nmL 83 84 0)) 32).2))])), (gl, .inl (cl, 32, .inl (iN ((ap1 (ap (dr L0) (nmL 83 84 0)) 32).1))))] H := hP
                                have hD : va_D A [(o, .inr (5, [.ref gi, .ref ge, .ref gt, .ref go, .ref gb, .ref gm, .ref gl, .int (nI i0.2), .int (nI e0.2), .int (nI t0.2), .int (nI mk), .int (nI ((ap1 (ap (dr L0) (nmL 83 84 0)) 32).2))])), (gl, .inl (cl, 32, .inl (iN ((ap1 (ap (dr L0) (nmL 83 84 0)) 32).1))))] := hD
                                refine stk (st2 := []) rfl ?_
                                refine lv_iload_n hx hb d_Mo_front_253 rfl (lv_at hl 0 rfl) ?_
                                refine lv_iconst (v := nI 3) hx hb d_Mo_front_254 (by decide) ?_
                                refine z_icmp_eq (tgt := 263) hx hb d_Mo_front_255 (tI_n (by omega)) (tI_n (by omega)) (by decide) (fun g255 => ?_) (fun g255 => ?_)
                                · exfalso; omega
                                · refine lv_iload_n hx hb d_Mo_front_258 rfl (lv_at hl 0 rfl) ?_
                                  refine lv_iconst (v := nI 4) hx hb d_Mo_front_259 (by decide) ?_
                                  refine z_icmp_ne (tgt := 278) hx hb d_Mo_front_260 (tI_n (by omega)) (tI_n (by omega)) (by decide) (fun g260 => ?_) (fun g260 => ?_)
                                  · refine lv_iload_n hx hb d_Mo_front_278 rfl (lv_at hl 2 rfl) ?_
                                    refine lv_bipush (v := nI 82) hx hb d_Mo_front_279 (by decide) ?_
                                    refine z_icmp_lt (tgt := 301) hx hb d_Mo_front_281 (tI_n (by omega)) (tI_n (by omega)) (by decide) (fun g281 => ?_) (fun g281 => ?_)
                                    · exfalso; omega
                                    · refine lv_iload_n hx hb d_Mo_front_284 rfl (lv_at hl 2 rfl) ?_
                                      refine lv_bipush (v := nI 85) hx hb d_Mo_front_285 (by decide) ?_
                                      refine z_icmp_gt (tgt := 301) hx hb d_Mo_front_287 (tI_n (by omega)) (tI_n (by omega)) (by decide) (fun g287 => ?_) (fun g287 => ?_)
                                      · refine lv_iload_n hx hb d_Mo_front_301 rfl (lv_at hl 0 rfl) ?_
                                        refine lv_iconst (v := nI 5) hx hb d_Mo_front_302 (by decide) ?_
                                        refine z_icmp_eq (tgt := 313) hx hb d_Mo_front_303 (tI_n (by omega)) (tI_n (by omega)) (by decide) (fun g303 => ?_) (fun g303 => ?_)
                                        · exfalso; omega
                                        · refine lv_aload_n hx hb d_Mo_front_306 rfl (lv_at hl 1 rfl) ?_
                                          refine lv_iload_n hx hb d_Mo_front_307 rfl (lv_at hl 2 rfl) ?_
                                          refine lv_iconst (v := nI 4) hx hb d_Mo_front_308 (by decide) ?_
                                          refine nRem hx hb d_Mo_front_309 (by omega) (by omega) (by omega) ?_
                                          refine uV (As := [.int (nI (f % 4))]) (rest := []) (wr := []) hx hb hml hown ht (c_Mo_register l dC dI z _ o gi ge gt go gb gm gl i0 e0 t0 mk (ap1 (ap (dr L0) (nmL 83 84 0)) 32) cl (f % 4) (Nat.le_of_ble_eq_true rfl) (by first | assumption | omega)) yv_Mo_register k_625 (Nat.le_of_ble_eq_true rfl) (Nat.le_of_ble_eq_true rfl) hP hK hSS hD hS hA [0, 1] [] [0] rfl rfl (by decide) rfl (by decide) (by decide) rfl 0 5 rfl rfl rfl hl rfl rfl (Nat.le_of_ble_eq_true rfl) (Nat.zero_le _) (Nat.zero_le _) d_Mo_front_310 (fun H locs hP hD hS => ?_)
                                          have hP : va_P (dC, dI) classes [(o, .inr (5, [.ref gi, .ref ge, .ref gt, .ref go, .ref gb, .ref gm, .ref gl, .int (nI i0.2), .int (nI e0.2), .int (nI t0.2), .int (nI mk), .int (nI ((ap (ap1 (ap (dr L0) (nmL 83 84 0)) 32) (rgM (f % 4))).2))])), (gl, .inl (cl, 32, .inl (iN ((ap (ap1 (ap (dr L0) (nmL 83 84 0)) 32) (rgM (f % 4))).1))))] H := hP
                                          have hD : va_D A [(o, .inr (5, [.ref gi, .ref ge, .ref gt, .ref go, .ref gb, .ref gm, .ref gl, .int (nI i0.2), .int (nI e0.2), .int (nI t0.2), .int (nI mk), .int (nI ((ap (ap1 (ap (dr L0) (nmL 83 84 0)) 32) (rgM (f % 4))).2))])), (gl, .inl (cl, 32, .inl (iN ((ap (ap1 (ap (dr L0) (nmL 83 84 0)) 32) (rgM (f % 4))).1))))] := hD
                                          refine stk (st2 := []) rfl ?_
                                          refine lv_iload_n hx hb d_Mo_front_313 rfl (lv_at hl 2 rfl) ?_
                                          refine rS (As := [.int (nI f)]) (rest := []) hx hb hml hown ht (c_Mo_longOf l dC dI z f (by first | assumption | omega)) ys_Mo_longOf k_560 (Nat.le_of_ble_eq_true rfl) (Nat.le_of_ble_eq_true rfl) hP hK hSS hS [] [] rfl rfl hl rfl rfl (Nat.le_of_ble_eq_true rfl) (Nat.zero_le _) (Nat.zero_le _) d_Mo_front_314 ?_
                                          refine lv_iconst (v := nI 1) hx hb d_Mo_front_317 (by decide) ?_
                                          refine z_icmp_le (tgt := 339) hx hb d_Mo_front_318 (tI_n (by omega)) (tI_n (by omega)) (by decide) (fun g318 => ?_) (fun g318 => ?_)
                                          · exfalso; omega
                                          · refine lv_iload_n hx hb d_Mo_front_321 rfl (lv_at hl 2 rfl) ?_
                                            refine lv_bipush (v := nI 80) hx hb d_Mo_front_322 (by decide) ?_
                                            refine z_icmp_eq (tgt := 339) hx hb d_Mo_front_324 (tI_n (by omega)) (tI_n (by omega)) (by decide) (fun g324 => ?_) (fun g324 => ?_)
                                            · exfalso; omega
                                            · refine lv_iload_n hx hb d_Mo_front_327 rfl (lv_at hl 2 rfl) ?_
                                              refine lv_bipush (v := nI 81) hx hb d_Mo_front_328 (by decide) ?_
                                              refine z_icmp_eq (tgt := 339) hx hb d_Mo_front_330 (tI_n (by omega)) (tI_n (by omega)) (by decide) (fun g330 => ?_) (fun g330 => ?_)
                                              · exfalso; omega
                                              · refine lv_aload_n hx hb d_Mo_front_333 rfl (lv_at hl 1 rfl) ?_
                                                refine lv_bipush (v := nI 44) hx hb d_Mo_front_334 (by decide) ?_
                                                refine uV (As := [.int (nI 44)]) (rest := []) (wr := []) hx hb hml hown ht (c_Mo_put l dC dI z _ o gi ge gt go gb gm gl i0 e0 t0 mk (ap (ap1 (ap (dr L0) (nmL 83 84 0)) 32) (rgM (f % 4))) cl 44 (Nat.le_of_ble_eq_true rfl)) yv_Mo_put k_609 (Nat.le_of_ble_eq_true rfl) (Nat.le_of_ble_eq_true rfl) hP hK hSS hD hS hA [0, 1] [] [0] rfl rfl (by decide) rfl (by decide) (by decide) rfl 0 5 rfl rfl rfl hl rfl rfl (Nat.le_of_ble_eq_true rfl) (Nat.zero_le _) (Nat.zero_le _) d_Mo_front_336 (fun H locs hP hD hS => ?_)
                                                have hP : va_P (dC, dI) classes [(o, .inr (5, [.ref gi, .ref ge, .ref gt, .ref go, .ref gb, .ref gm, .ref gl, .int (nI i0.2), .int (nI e0.2), .int (nI t0.2), .int (nI mk), .int (nI ((ap1 (ap (ap1 (ap (dr L0) (nmL 83 84 0)) 32) (rgM (f % 4))) 44).2))])), (gl, .inl (cl, 32, .inl (iN ((ap1 (ap (ap1 (ap (dr L0) (nmL 83 84 0)) 32) (rgM (f % 4))) 44).1))))] H := hP
                                                have hD : va_D A [(o, .inr (5, [.ref gi, .ref ge, .ref gt, .ref go, .ref gb, .ref gm, .ref gl, .int (nI i0.2), .int (nI e0.2), .int (nI t0.2), .int (nI mk), .int (nI ((ap1 (ap (ap1 (ap (dr L0) (nmL 83 84 0)) 32) (rgM (f % 4))) 44).2))])), (gl, .inl (cl, 32, .inl (iN ((ap1 (ap (ap1 (ap (dr L0) (nmL 83 84 0)) 32) (rgM (f % 4))) 44).1))))] := hD
                                                refine stk (st2 := []) rfl ?_
                                                rw [hfr]
                                                exact eUv hx hb hr hlocks hP hD hS [0, 1] rfl rfl (by decide) d_Mo_front_339
                                      · exfalso; omega
                                  · exfalso; omega
                            · exfalso; omega
                        · exfalso; omega
                      · exfalso; omega
                  · exfalso; omega
                · exfalso; omega
              · exfalso; omega
            · exfalso; omega
          · exfalso; omega
        · exfalso; omega
      · exfalso; omega
    · exfalso; omega
