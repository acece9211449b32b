set_option maxHeartbeats 4000000 in
set_option maxRecDepth 100000 in
theorem c_Mo_list (l : Launch) (dC : Nat → ClassId) (dI : Nat → Nat → Nat) (z : zT) (sz : Nat) (o : Nat) (gi : Nat) (ge : Nat) (gt : Nat) (go : Nat) (gb : Nat) (gm : Nat) (gl : Nat) (i0 : txT) (e0 : txT) (t0 : txT) (mk : Nat) (L0 : txT) (ci : ClassId) (ce : ClassId) (ct : ClassId) (cm1 : ClassId) (m0 : Nat → Bool) (cl : ClassId) (hn : i0.2 ≤ 160) (hb8 : ∀ i, i0.1 i < 256) (he : e0.2 ≤ 16) (hen : ∀ k, k < e0.2 → e0.1 k < i0.2) : MX l y_Mo_list b_Mo_list 8 (some .int) 5 113 (dC, dI) z [.ref o] [(o, .inr (5, [.ref gi, .ref ge, .ref gt, .ref go, .ref gb, .ref gm, .ref gl, .int (nI i0.2), .int (nI e0.2), .int (nI t0.2), .int (nI mk), .int (nI L0.2)])), (gi, .inl (ci, 160, .inl (iN i0.1))), (ge, .inl (ce, 16, .inl (iN e0.1))), (gt, .inl (ct, 2400, .inl (iN t0.1))), (gm, .inl (cm1, 160, .inl (zN m0))), (gl, .inl (cl, 32, .inl (iN L0.1)))] [(ci, .int), (ce, .int), (ct, .int), (cm1, .boolean), (cl, .int)] sz (fun _ : txT => some (.int (nI ((mls i0.1 i0.2 (mR i0 e0) i0.2 0 0 (dr t0)).2)))) (fun u : txT => True) (fun u : txT => [(o, .inr (5, [.ref gi, .ref ge, .ref gt, .ref go, .ref gb, .ref gm, .ref gl, .int (nI i0.2), .int (nI e0.2), .int (nI ((mls i0.1 i0.2 (mR i0 e0) i0.2 0 0 (dr t0)).2)), .int (nI mk), .int (nI u.2)])), (gi, .inl (ci, 160, .inl (iN i0.1))), (ge, .inl (ce, 16, .inl (iN e0.1))), (gt, .inl (ct, 2400, .inl (iN ((mls i0.1 i0.2 (mR i0 e0) i0.2 0 0 (dr t0)).1)))), (gm, .inl (cm1, 160, .inl (zN (mR i0 e0)))), (gl, .inl (cl, 32, .inl (iN u.1)))]) := by
  refine metX (by decide) (Nat.le_of_ble_eq_true rfl) ?_
  intro p e s m below meth c ls A hx hb hr hlocks hml hown ht hl hP hK hSS hD hS hA
  have hl : lv_has ls 8 [(0, .ref o)] := hl
  refine lv_aload_n hx hb d_Mo_list_0 rfl (lv_at hl 0 rfl) ?_
  refine uV (As := []) (rest := []) (wr := [(gt, .inl (ct, 2400, .inl (iN t0.1))), (gl, .inl (cl, 32, .inl (iN L0.1)))]) hx hb hml hown ht (c_Mo_reach l dC dI z _ o gi ge gt go gb gm gl i0 e0 t0 mk L0 ci ce cm1 m0 (by first | assumption | omega) (by first | assumption | omega) (by first | assumption | omega) (by first | assumption | omega)) yv_Mo_reach k_588 (Nat.le_of_ble_eq_true rfl) (Nat.le_of_ble_eq_true rfl) hP hK hSS hD hS hA [0, 1, 2, 4] [3, 5] [0, 1, 3] rfl rfl (by decide) rfl (by decide) (by decide) rfl 0 5 rfl rfl rfl hl rfl rfl (Nat.le_of_ble_eq_true rfl) (Nat.zero_le _) (Nat.zero_le _) d_Mo_list_1 (fun H locs hP hD hS => ?_)
  have hP : va_P (dC, dI) classes [(gt, .inl (ct, 2400, .inl (iN t0.1))), (gl, .inl (cl, 32, .inl (iN L0.1))), (o, .inr (5, [.ref gi, .ref ge, .ref gt, .ref go, .ref gb, .ref gm, .ref gl, .int (nI i0.2), .int (nI e0.2), .int (nI t0.2), .int (nI mk), .int (nI L0.2)])), (gi, .inl (ci, 160, .inl (iN i0.1))), (ge, .inl (ce, 16, .inl (iN e0.1))), (gm, .inl (cm1, 160, .inl (zN (mR i0 e0))))] H := hP
  have hD : va_D A [(gt, .inl (ct, 2400, .inl (iN t0.1))), (gl, .inl (cl, 32, .inl (iN L0.1))), (o, .inr (5, [.ref gi, .ref ge, .ref gt, .ref go, .ref gb, .ref gm, .ref gl, .int (nI i0.2), .int (nI e0.2), .int (nI t0.2), .int (nI mk), .int (nI L0.2)])), (gi, .inl (ci, 160, .inl (iN i0.1))), (ge, .inl (ce, 16, .inl (iN e0.1))), (gm, .inl (cm1, 160, .inl (zN (mR i0 e0))))] := hD
  refine stk (st2 := [.int (nI (cntB (mR i0 e0) i0.2))]) rfl ?_
  refine lv_istore_n (lv' := [(1, .int (nI (cntB (mR i0 e0) i0.2))), (0, .ref o)]) hx hb d_Mo_list_4 rfl hl (Nat.le_of_ble_eq_true rfl) rfl (fun ls hl => ?_)
  refine lv_aload_n hx hb d_Mo_list_5 rfl (lv_at hl 1 rfl) ?_
  refine lv_iconst (v := nI 0) hx hb d_Mo_list_6 (by decide) ?_
  refine va_put (D := (dC, dI)) (ci := 5) (v := .int (nI 0)) (ty := .int) (C := R_Mo) (T := F_Mo) (N := 12) hx hb ht in_Mo t_Mo t_Mo_ok n_Mo hown hK hP hD hS 2 rfl rfl 9 (by decide) (ht _ k_500) (fun _ h9 => h9) rfl (by decide +kernel) rfl rfl (Nat.le_of_ble_eq_true rfl) d_Mo_list_7 (fun H locs hP hD hS => ?_)
  have hP : va_P (dC, dI) classes [(gt, .inl (ct, 2400, .inl (iN t0.1))), (gl, .inl (cl, 32, .inl (iN L0.1))), (o, .inr (5, [.ref gi, .ref ge, .ref gt, .ref go, .ref gb, .ref gm, .ref gl, .int (nI i0.2), .int (nI e0.2), .int (nI 0), .int (nI mk), .int (nI L0.2)])), (gi, .inl (ci, 160, .inl (iN i0.1))), (ge, .inl (ce, 16, .inl (iN e0.1))), (gm, .inl (cm1, 160, .inl (zN (mR i0 e0))))] H := hP
  have hD : va_D A [(gt, .inl (ct, 2400, .inl (iN t0.1))), (gl, .inl (cl, 32, .inl (iN L0.1))), (o, .inr (5, [.ref gi, .ref ge, .ref gt, .ref go, .ref gb, .ref gm, .ref gl, .int (nI i0.2), .int (nI e0.2), .int (nI 0), .int (nI mk), .int (nI L0.2)])), (gi, .inl (ci, 160, .inl (iN i0.1))), (ge, .inl (ce, 16, .inl (iN e0.1))), (gm, .inl (cm1, 160, .inl (zN (mR i0 e0))))] := hD
  refine lv_iconst (v := nI 0) hx hb d_Mo_list_10 (by decide) ?_
  refine lv_istore_n (lv' := [(2, .int (nI 0)), (1, .int (nI (cntB (mR i0 e0) i0.2))), (0, .ref o)]) hx hb d_Mo_list_11 rfl hl (Nat.le_of_ble_eq_true rfl) rfl (fun ls hl => ?_)
  refine lv_iconst (v := nI 0) hx hb d_Mo_list_12 (by decide) ?_
  refine lv_istore_n (lv' := [(3, .int (nI 0)), (2, .int (nI 0)), (1, .int (nI (cntB (mR i0 e0) i0.2))), (0, .ref o)]) hx hb d_Mo_list_13 rfl hl (Nat.le_of_ble_eq_true rfl) rfl (fun ls hl => ?_)
  have loop14 : ∀ (j : Nat) (a : Nat) (sk : Nat) (T1 : txT) (L1 : txT) (ls : Array Slot) (H : Heap) (locs : List Loc), (a + j = i0.2) → ((mls i0.1 i0.2 (mR i0 e0) i0.2 0 0 (dr t0)) = mls i0.1 i0.2 (mR i0 e0) j a sk T1) → (sk ≤ 2) → (T1.2 ≤ 10 * (a + sk)) → (a + sk ≤ i0.2) → lv_has ls 8 [(3, .int (nI a)), (2, .int (nI sk)), (0, .ref o)] → va_P (dC, dI) classes [(o, .inr (5, [.ref gi, .ref ge, .ref gt, .ref go, .ref gb, .ref gm, .ref gl, .int (nI i0.2), .int (nI e0.2), .int (nI T1.2), .int (nI mk), .int (nI L1.2)])), (gi, .inl (ci, 160, .inl (iN i0.1))), (ge, .inl (ce, 16, .inl (iN e0.1))), (gt, .inl (ct, 2400, .inl (iN T1.1))), (gm, .inl (cm1, 160, .inl (zN (mR i0 e0)))), (gl, .inl (cl, 32, .inl (iN L1.1)))] H → va_D A [(o, .inr (5, [.ref gi, .ref ge, .ref gt, .ref go, .ref gb, .ref gm, .ref gl, .int (nI i0.2), .int (nI e0.2), .int (nI T1.2), .int (nI mk), .int (nI L1.2)])), (gi, .inl (ci, 160, .inl (iN i0.1))), (ge, .inl (ce, 16, .inl (iN e0.1))), (gt, .inl (ct, 2400, .inl (iN T1.1))), (gm, .inl (cm1, 160, .inl (zN (mR i0 e0)))), (gl, .inl (cl, 32, .inl (iN L1.1)))] → va_S A s.heap H locs → W p l e (rmq 5 113) s m [.ref o].toArray below meth c H locs 0 0 (MQ below (qcX (fun _ : txT => some (.int (nI ((mls i0.1 i0.2 (mR i0 e0) i0.2 0 0 (dr t0)).2)))) (dC, dI) (fun u : txT => True) (fun u : txT => [(o, .inr (5, [.ref gi, .ref ge, .ref gt, .ref go, .ref gb, .ref gm, .ref gl, .int (nI i0.2), .int (nI e0.2), .int (nI ((mls i0.1 i0.2 (mR i0 e0) i0.2 0 0 (dr t0)).2)), .int (nI mk), .int (nI u.2)])), (gi, .inl (ci, 160, .inl (iN i0.1))), (ge, .inl (ce, 16, .inl (iN e0.1))), (gt, .inl (ct, 2400, .inl (iN ((mls i0.1 i0.2 (mR i0 e0) i0.2 0 0 (dr t0)).1)))), (gm, .inl (cm1, 160, .inl (zN (mR i0 e0)))), (gl, .inl (cl, 32, .inl (iN u.1)))]) A) [.ref o].toArray s 0 0 A) (F0 m 14 ls []) := by
    intro j
    induction j with
    | zero =>
      intro a sk T1 L1 ls H locs ha hR hsk hlen hask hl hP hD hS
      have hRe0 : (mls i0.1 i0.2 (mR i0 e0) i0.2 0 0 (dr t0)) = T1 := hR
      refine lv_iload_n hx hb d_Mo_list_14 rfl (lv_at hl 0 rfl) ?_
      refine lv_aload_n hx hb d_Mo_list_15 rfl (lv_at hl 2 rfl) ?_
      refine va_get (D := (dC, dI)) (ci := 5) (v := .int (nI i0.2)) (C := R_Mo) (T := F_Mo) (N := 12) hx hb ht in_Mo hown hK hP 0 rfl rfl 7 (by decide) (ht _ k_498) (fun _ h9 => h9) rfl d_Mo_list_16 ?_
      refine z_icmp_ge (tgt := 215) hx hb d_Mo_list_19 (tI_n (by omega)) (tI_n (by omega)) (by decide) (fun g19 => ?_) (fun g19 => ?_)
      · refine lv_aload_n hx hb d_Mo_list_215 rfl (lv_at hl 2 rfl) ?_
        refine va_get (D := (dC, dI)) (ci := 5) (v := .int (nI T1.2)) (C := R_Mo) (T := F_Mo) (N := 12) hx hb ht in_Mo hown hK hP 0 rfl rfl 9 (by decide) (ht _ k_500) (fun _ h9 => h9) rfl d_Mo_list_216 ?_
        rw [hRe0]
        exact eXi L1 hx hb hr hlocks (trivial) (congrArg (fun t => some (Value.int t)) (rfl)) hP hD hS [0, 1, 2, 3, 4, 5] rfl rfl (by decide) d_Mo_list_219
      · exfalso; omega
    | succ j ih =>
      intro a sk T1 L1 ls H locs ha hR hsk hlen hask hl hP hD hS
      have hmq := mlL_len (m := (mR i0 e0)) hb8 (show a < i0.2 by omega)
      have hmi := mlk_in (b := i0.1) (m := (mR i0 e0)) (show a < i0.2 by omega)
      have hba := hb8 a
      have hb1 := hb8 (a + 1)
      have hb2 := hb8 (a + 2)
      have hms := msec_lt (a := a) (k := mlk i0.1 i0.2 (mR i0 e0) a) hb8
      have hmn := mnm_in (a := a) (k := mlk i0.1 i0.2 (mR i0 e0) a) hb8
      refine lv_iload_n hx hb d_Mo_list_14 rfl (lv_at hl 0 rfl) ?_
      refine lv_aload_n hx hb d_Mo_list_15 rfl (lv_at hl 2 rfl) ?_
      refine va_get (D := (dC, dI)) (ci := 5) (v := .int (nI i0.2)) (C := R_Mo) (T := F_Mo) (N := 12) hx hb ht in_Mo hown hK hP 0 rfl rfl 7 (by decide) (ht _ k_498) (fun _ h9 => h9) rfl d_Mo_list_16 ?_
      refine z_icmp_ge (tgt := 215) hx hb d_Mo_list_19 (tI_n (by omega)) (tI_n (by omega)) (by decide) (fun g19 => ?_) (fun g19 => ?_)
      · exfalso; omega
      · refine lv_iload_n hx hb d_Mo_list_22 rfl (lv_at hl 1 rfl) ?_
        refine z_if_le (tgt := 33) hx hb d_Mo_list_23 (tI_n (by omega)) (by decide) (fun g23 => ?_) (fun g23 => ?_)
        · have cut51 : ∀  (ls : Array Slot) (H : Heap) (locs : List Loc), lv_has ls 8 [(3, .int (nI a)), (2, .int (nI sk)), (0, .ref o)] → va_P (dC, dI) classes [(o, .inr (5, [.ref gi, .ref ge, .ref gt, .ref go, .ref gb, .ref gm, .ref gl, .int (nI i0.2), .int (nI e0.2), .int (nI T1.2), .int (nI mk), .int (nI L1.2)])), (gi, .inl (ci, 160, .inl (iN i0.1))), (ge, .inl (ce, 16, .inl (iN e0.1))), (gt, .inl (ct, 2400, .inl (iN T1.1))), (gm, .inl (cm1, 160, .inl (zN (mR i0 e0)))), (gl, .inl (cl, 32, .inl (iN L1.1)))] H → va_D A [(o, .inr (5, [.ref gi, .ref ge, .ref gt, .ref go, .ref gb, .ref gm, .ref gl, .int (nI i0.2), .int (nI e0.2), .int (nI T1.2), .int (nI mk), .int (nI L1.2)])), (gi, .inl (ci, 160, .inl (iN i0.1))), (ge, .inl (ce, 16, .inl (iN e0.1))), (gt, .inl (ct, 2400, .inl (iN T1.1))), (gm, .inl (cm1, 160, .inl (zN (mR i0 e0)))), (gl, .inl (cl, 32, .inl (iN L1.1)))] → va_S A s.heap H locs → W p l e (rmq 5 113) s m [.ref o].toArray below meth c H locs 0 0 (MQ below (qcX (fun _ : txT => some (.int (nI ((mls i0.1 i0.2 (mR i0 e0) i0.2 0 0 (dr t0)).2)))) (dC, dI) (fun u : txT => True) (fun u : txT => [(o, .inr (5, [.ref gi, .ref ge, .ref gt, .ref go, .ref gb, .ref gm, .ref gl, .int (nI i0.2), .int (nI e0.2), .int (nI ((mls i0.1 i0.2 (mR i0 e0) i0.2 0 0 (dr t0)).2)), .int (nI mk), .int (nI u.2)])), (gi, .inl (ci, 160, .inl (iN i0.1))), (ge, .inl (ce, 16, .inl (iN e0.1))), (gt, .inl (ct, 2400, .inl (iN ((mls i0.1 i0.2 (mR i0 e0) i0.2 0 0 (dr t0)).1)))), (gm, .inl (cm1, 160, .inl (zN (mR i0 e0)))), (gl, .inl (cl, 32, .inl (iN u.1)))]) A) [.ref o].toArray s 0 0 A) (F0 m 51 ls [.int (nI (mlk i0.1 i0.2 (mR i0 e0) a))]) := by
            intro  ls H locs  hl hP hD hS
            refine lv_istore (lv' := [(4, .int (nI (mlk i0.1 i0.2 (mR i0 e0) a))), (3, .int (nI a)), (2, .int (nI sk)), (0, .ref o)]) hx hb d_Mo_list_51 hl (Nat.le_of_ble_eq_true rfl) rfl (fun ls hl => ?_)
            have cut153 : ∀  (Lx : txT) (lq : List Nat) (sk2 : Nat) (ls : Array Slot) (H : Heap) (locs : List Loc), (lq ++ [10] = mlL i0.1 i0.2 (mR i0 e0) a) → (sk2 = mlk i0.1 i0.2 (mR i0 e0) a - 1) → lv_has ls 8 [(3, .int (nI a)), (2, .int (nI sk2)), (0, .ref o)] → va_P (dC, dI) classes [(o, .inr (5, [.ref gi, .ref ge, .ref gt, .ref go, .ref gb, .ref gm, .ref gl, .int (nI i0.2), .int (nI e0.2), .int (nI T1.2), .int (nI mk), .int (nI ((ap (dr Lx) lq).2))])), (gi, .inl (ci, 160, .inl (iN i0.1))), (ge, .inl (ce, 16, .inl (iN e0.1))), (gt, .inl (ct, 2400, .inl (iN T1.1))), (gm, .inl (cm1, 160, .inl (zN (mR i0 e0)))), (gl, .inl (cl, 32, .inl (iN ((ap (dr Lx) lq).1))))] H → va_D A [(o, .inr (5, [.ref gi, .ref ge, .ref gt, .ref go, .ref gb, .ref gm, .ref gl, .int (nI i0.2), .int (nI e0.2), .int (nI T1.2), .int (nI mk), .int (nI ((ap (dr Lx) lq).2))])), (gi, .inl (ci, 160, .inl (iN i0.1))), (ge, .inl (ce, 16, .inl (iN e0.1))), (gt, .inl (ct, 2400, .inl (iN T1.1))), (gm, .inl (cm1, 160, .inl (zN (mR i0 e0)))), (gl, .inl (cl, 32, .inl (iN ((ap (dr Lx) lq).1))))] → va_S A s.heap H locs → W p l e (rmq 5 113) s m [.ref o].toArray below meth c H locs 0 0 (MQ below (qcX (fun _ : txT => some (.int (nI ((mls i0.1 i0.2 (mR i0 e0) i0.2 0 0 (dr t0)).2)))) (dC, dI) (fun u : txT => True) (fun u : txT => [(o, .inr (5, [.ref gi, .ref ge, .ref gt, .ref go, .ref gb, .ref gm, .ref gl, .int (nI i0.2), .int (nI e0.2), .int (nI ((mls i0.1 i0.2 (mR i0 e0) i0.2 0 0 (dr t0)).2)), .int (nI mk), .int (nI u.2)])), (gi, .inl (ci, 160, .inl (iN i0.1))), (ge, .inl (ce, 16, .inl (iN e0.1))), (gt, .inl (ct, 2400, .inl (iN ((mls i0.1 i0.2 (mR i0 e0) i0.2 0 0 (dr t0)).1)))), (gm, .inl (cm1, 160, .inl (zN (mR i0 e0)))), (gl, .inl (cl, 32, .inl (iN u.1)))]) A) [.ref o].toArray s 0 0 A) (F0 m 153 ls []) := by
              intro Lx lq sk2 ls H locs hlq hsk2 hl hP hD hS
              have hlq2 : lq.length + 1 = (lq ++ [10]).length := by simp
              rw [hlq] at hlq2
              have hel := ap_dr_len Lx lq
              have hLL : (ap1 (ap (dr Lx) lq) 10).2 = lq.length + 1 := by show (ap (dr Lx) lq).2 + 1 = _; rw [hel]
              refine lv_aload_n hx hb d_Mo_list_153 rfl (lv_at hl 2 rfl) ?_
              refine lv_bipush (v := nI 10) hx hb d_Mo_list_154 (by decide) ?_
              refine uV (As := [.int (nI 10)]) (rest := []) (wr := [(gi, .inl (ci, 160, .inl (iN i0.1))), (ge, .inl (ce, 16, .inl (iN e0.1))), (gt, .inl (ct, 2400, .inl (iN T1.1))), (gm, .inl (cm1, 160, .inl (zN (mR i0 e0))))]) hx hb hml hown ht (c_Mo_put l dC dI z _ o gi ge gt go gb gm gl i0 e0 T1 mk (ap (dr Lx) lq) cl 10 (by rw [hel]; omega)) yv_Mo_put k_609 (Nat.le_of_ble_eq_true rfl) (Nat.le_of_ble_eq_true rfl) hP hK hSS hD hS hA [0, 5] [1, 2, 3, 4] [4] rfl rfl (by decide) rfl (by decide) (by decide) rfl 0 5 rfl rfl rfl hl rfl rfl (Nat.le_of_ble_eq_true rfl) (Nat.zero_le _) (Nat.zero_le _) d_Mo_list_156 (fun H locs hP hD hS => ?_)
              have hP : va_P (dC, dI) classes [(gi, .inl (ci, 160, .inl (iN i0.1))), (ge, .inl (ce, 16, .inl (iN e0.1))), (gt, .inl (ct, 2400, .inl (iN T1.1))), (gm, .inl (cm1, 160, .inl (zN (mR i0 e0)))), (o, .inr (5, [.ref gi, .ref ge, .ref gt, .ref go, .ref gb, .ref gm, .ref gl, .int (nI i0.2), .int (nI e0.2), .int (nI T1.2), .int (nI mk), .int (nI ((ap1 (ap (dr Lx) lq) 10).2))])), (gl, .inl (cl, 32, .inl (iN ((ap1 (ap (dr Lx) lq) 10).1))))] H := hP
              have hD : va_D A [(gi, .inl (ci, 160, .inl (iN i0.1))), (ge, .inl (ce, 16, .inl (iN e0.1))), (gt, .inl (ct, 2400, .inl (iN T1.1))), (gm, .inl (cm1, 160, .inl (zN (mR i0 e0)))), (o, .inr (5, [.ref gi, .ref ge, .ref gt, .ref go, .ref gb, .ref gm, .ref gl, .int (nI i0.2), .int (nI e0.2), .int (nI T1.2), .int (nI mk), .int (nI ((ap1 (ap (dr Lx) lq) 10).2))])), (gl, .inl (cl, 32, .inl (iN ((ap1 (ap (dr Lx) lq) 10).1))))] := hD
              refine stk (st2 := []) rfl ?_
              refine lv_iconst (v := nI 0) hx hb d_Mo_list_159 (by decide) ?_
              refine lv_istore (lv' := [(5, .int (nI 0)), (3, .int (nI a)), (2, .int (nI sk2)), (0, .ref o)]) hx hb d_Mo_list_160 hl (Nat.le_of_ble_eq_true rfl) rfl (fun ls hl => ?_)
              have loop162 : ∀ (j : Nat) (i : Nat) (T2 : txT) (ls : Array Slot) (H : Heap) (locs : List Loc), (i + j = lq.length + 1) → (ap T1 (lq ++ [10]) = ap T2 ((lq ++ [10]).drop i)) → (T2.2 = T1.2 + i) → lv_has ls 8 [(5, .int (nI i)), (3, .int (nI a)), (2, .int (nI sk2)), (0, .ref o)] → va_P (dC, dI) classes [(o, .inr (5, [.ref gi, .ref ge, .ref gt, .ref go, .ref gb, .ref gm, .ref gl, .int (nI i0.2), .int (nI e0.2), .int (nI T1.2), .int (nI mk), .int (nI ((ap1 (ap (dr Lx) lq) 10).2))])), (gi, .inl (ci, 160, .inl (iN i0.1))), (ge, .inl (ce, 16, .inl (iN e0.1))), (gt, .inl (ct, 2400, .inl (iN T2.1))), (gm, .inl (cm1, 160, .inl (zN (mR i0 e0)))), (gl, .inl (cl, 32, .inl (iN ((ap1 (ap (dr Lx) lq) 10).1))))] H → va_D A [(o, .inr (5, [.ref gi, .ref ge, .ref gt, .ref go, .ref gb, .ref gm, .ref gl, .int (nI i0.2), .int (nI e0.2), .int (nI T1.2), .int (nI mk), .int (nI ((ap1 (ap (dr Lx) lq) 10).2))])), (gi, .inl (ci, 160, .inl (iN i0.1))), (ge, .inl (ce, 16, .inl (iN e0.1))), (gt, .inl (ct, 2400, .inl (iN T2.1))), (gm, .inl (cm1, 160, .inl (zN (mR i0 e0)))), (gl, .inl (cl, 32, .inl (iN ((ap1 (ap (dr Lx) lq) 10).1))))] → va_S A s.heap H locs → W p l e (rmq 5 113) s m [.ref o].toArray below meth c H locs 0 0 (MQ below (qcX (fun _ : txT => some (.int (nI ((mls i0.1 i0.2 (mR i0 e0) i0.2 0 0 (dr t0)).2)))) (dC, dI) (fun u : txT => True) (fun u : txT => [(o, .inr (5, [.ref gi, .ref ge, .ref gt, .ref go, .ref gb, .ref gm, .ref gl, .int (nI i0.2), .int (nI e0.2), .int (nI ((mls i0.1 i0.2 (mR i0 e0) i0.2 0 0 (dr t0)).2)), .int (nI mk), .int (nI u.2)])), (gi, .inl (ci, 160, .inl (iN i0.1))), (ge, .inl (ce, 16, .inl (iN e0.1))), (gt, .inl (ct, 2400, .inl (iN ((mls i0.1 i0.2 (mR i0 e0) i0.2 0 0 (dr t0)).1)))), (gm, .inl (cm1, 160, .inl (zN (mR i0 e0)))), (gl, .inl (cl, 32, .inl (iN u.1)))]) A) [.ref o].toArray s 0 0 A) (F0 m 162 ls []) := by
                intro j
                induction j with
                | zero =>
                  intro i T2 ls H locs hi hRc hl2 hl hP hD hS
                  rw [List.drop_eq_nil_of_le (by simp; omega)] at hRc
                  have hRe : ap T1 (lq ++ [10]) = T2 := hRc
                  refine lv_iload hx hb d_Mo_list_162 (lv_at hl 0 rfl) ?_
                  refine lv_aload_n hx hb d_Mo_list_164 rfl (lv_at hl 3 rfl) ?_
                  refine va_get (D := (dC, dI)) (ci := 5) (v := .int (nI ((ap1 (ap (dr Lx) lq) 10).2))) (C := R_Mo) (T := F_Mo) (N := 12) hx hb ht in_Mo hown hK hP 0 rfl rfl 11 (by decide) (ht _ k_502) (fun _ h9 => h9) rfl d_Mo_list_165 ?_
                  refine z_icmp_ge (tgt := 196) hx hb d_Mo_list_168 (tI_n (by omega)) (tI_n (by omega)) (by decide) (fun g168 => ?_) (fun g168 => ?_)
                  · refine lv_aload_n hx hb d_Mo_list_196 rfl (lv_at hl 3 rfl) ?_
                    refine lv_aload_n hx hb d_Mo_list_197 rfl (lv_at hl 3 rfl) ?_
                    refine va_get (D := (dC, dI)) (ci := 5) (v := .int (nI T1.2)) (C := R_Mo) (T := F_Mo) (N := 12) hx hb ht in_Mo hown hK hP 0 rfl rfl 9 (by decide) (ht _ k_500) (fun _ h9 => h9) rfl d_Mo_list_198 ?_
                    refine lv_aload_n hx hb d_Mo_list_201 rfl (lv_at hl 3 rfl) ?_
                    refine va_get (D := (dC, dI)) (ci := 5) (v := .int (nI ((ap1 (ap (dr Lx) lq) 10).2))) (C := R_Mo) (T := F_Mo) (N := 12) hx hb ht in_Mo hown hK hP 0 rfl rfl 11 (by decide) (ht _ k_502) (fun _ h9 => h9) rfl d_Mo_list_202 ?_
                    refine nAdd hx hb d_Mo_list_205 ?_
                    refine eqi (y := nI T2.2) (by rw [hl2, hLL, show i = lq.length + 1 by omega]) ?_
                    refine va_put (D := (dC, dI)) (ci := 5) (v := .int (nI T2.2)) (ty := .int) (C := R_Mo) (T := F_Mo) (N := 12) hx hb ht in_Mo t_Mo t_Mo_ok n_Mo hown hK hP hD hS 0 rfl rfl 9 (by decide) (ht _ k_500) (fun _ h9 => h9) rfl (by decide +kernel) rfl rfl (Nat.le_of_ble_eq_true rfl) d_Mo_list_206 (fun H locs hP hD hS => ?_)
                    have hP : va_P (dC, dI) classes [(o, .inr (5, [.ref gi, .ref ge, .ref gt, .ref go, .ref gb, .ref gm, .ref gl, .int (nI i0.2), .int (nI e0.2), .int (nI T2.2), .int (nI mk), .int (nI ((ap1 (ap (dr Lx) lq) 10).2))])), (gi, .inl (ci, 160, .inl (iN i0.1))), (ge, .inl (ce, 16, .inl (iN e0.1))), (gt, .inl (ct, 2400, .inl (iN T2.1))), (gm, .inl (cm1, 160, .inl (zN (mR i0 e0)))), (gl, .inl (cl, 32, .inl (iN ((ap1 (ap (dr Lx) lq) 10).1))))] H := hP
                    have hD : va_D A [(o, .inr (5, [.ref gi, .ref ge, .ref gt, .ref go, .ref gb, .ref gm, .ref gl, .int (nI i0.2), .int (nI e0.2), .int (nI T2.2), .int (nI mk), .int (nI ((ap1 (ap (dr Lx) lq) 10).2))])), (gi, .inl (ci, 160, .inl (iN i0.1))), (ge, .inl (ce, 16, .inl (iN e0.1))), (gt, .inl (ct, 2400, .inl (iN T2.1))), (gm, .inl (cm1, 160, .inl (zN (mR i0 e0)))), (gl, .inl (cl, 32, .inl (iN ((ap1 (ap (dr Lx) lq) 10).1))))] := hD
                    refine lv_iinc (k := 1) (v := nI (a + 1)) (lv' := [(3, .int (nI (a + 1))), (5, .int (nI i)), (2, .int (nI sk2)), (0, .ref o)]) hx hb d_Mo_list_209 hl rfl (nI_inc1 _) (Nat.le_of_ble_eq_true rfl) rfl (fun ls hl => ?_)
                    refine lv_goto (tgt := 14) hx hb d_Mo_list_212 (by decide) ?_
                    exact ih (a + 1) sk2 T2 (ap1 (ap (dr Lx) lq) 10) _ _ _ (by omega) (by rw [hR, mls, if_neg (by omega), ← hlq, hRe, hsk2]) (by omega) (by omega) (by omega) (lv_sub hl [0, 2, 3] rfl) (hP.sub [0, 1, 2, 3, 4, 5] rfl) (hD.sub [0, 1, 2, 3, 4, 5] (by decide) rfl) hS
                  · exfalso; omega
                | succ j ih =>
                  intro i T2 ls H locs hi hRc hl2 hl hP hD hS
                  refine lv_iload hx hb d_Mo_list_162 (lv_at hl 0 rfl) ?_
                  refine lv_aload_n hx hb d_Mo_list_164 rfl (lv_at hl 3 rfl) ?_
                  refine va_get (D := (dC, dI)) (ci := 5) (v := .int (nI ((ap1 (ap (dr Lx) lq) 10).2))) (C := R_Mo) (T := F_Mo) (N := 12) hx hb ht in_Mo hown hK hP 0 rfl rfl 11 (by decide) (ht _ k_502) (fun _ h9 => h9) rfl d_Mo_list_165 ?_
                  refine z_icmp_ge (tgt := 196) hx hb d_Mo_list_168 (tI_n (by omega)) (tI_n (by omega)) (by decide) (fun g168 => ?_) (fun g168 => ?_)
                  · exfalso; omega
                  · refine lv_aload_n hx hb d_Mo_list_171 rfl (lv_at hl 3 rfl) ?_
                    refine va_get (D := (dC, dI)) (ci := 5) (v := .ref gt) (C := R_Mo) (T := F_Mo) (N := 12) hx hb ht in_Mo hown hK hP 0 rfl rfl 2 (by decide) (ht _ k_493) (fun _ h9 => h9) rfl d_Mo_list_172 ?_
                    refine lv_aload_n hx hb d_Mo_list_175 rfl (lv_at hl 3 rfl) ?_
                    refine va_get (D := (dC, dI)) (ci := 5) (v := .int (nI T1.2)) (C := R_Mo) (T := F_Mo) (N := 12) hx hb ht in_Mo hown hK hP 0 rfl rfl 9 (by decide) (ht _ k_500) (fun _ h9 => h9) rfl d_Mo_list_176 ?_
                    refine lv_iload hx hb d_Mo_list_179 (lv_at hl 0 rfl) ?_
                    refine nAdd hx hb d_Mo_list_181 ?_
                    refine eqi (y := nI T2.2) (by rw [hl2]) ?_
                    refine lv_aload_n hx hb d_Mo_list_182 rfl (lv_at hl 3 rfl) ?_
                    refine va_get (D := (dC, dI)) (ci := 5) (v := .ref gl) (C := R_Mo) (T := F_Mo) (N := 12) hx hb ht in_Mo hown hK hP 0 rfl rfl 6 (by decide) (ht _ k_497) (fun _ h9 => h9) rfl d_Mo_list_183 ?_
                    refine lv_iload hx hb d_Mo_list_186 (lv_at hl 0 rfl) ?_
                    refine ldI (q0 := 5) (t0 := 4) hx hb d_Mo_list_188 hK hP rfl rfl (by omega) (by decide) ?_
                    refine eqi (y := nI ((lq ++ [10]).getD i 0)) (by rw [ln_get (by omega)]) ?_
                    refine stI (q0 := 3) (t0 := 2) (w1 := [(o, .inr (5, [.ref gi, .ref ge, .ref gt, .ref go, .ref gb, .ref gm, .ref gl, .int (nI i0.2), .int (nI e0.2), .int (nI T1.2), .int (nI mk), .int (nI ((ap1 (ap (dr Lx) lq) 10).2))])), (gi, .inl (ci, 160, .inl (iN i0.1))), (ge, .inl (ce, 16, .inl (iN e0.1))), (gt, .inl (ct, 2400, .inl (iN (updN T2.1 T2.2 ((lq ++ [10]).getD i 0))))), (gm, .inl (cm1, 160, .inl (zN (mR i0 e0)))), (gl, .inl (cl, 32, .inl (iN ((ap1 (ap (dr Lx) lq) 10).1))))]) hx hb d_Mo_list_189 hK hP hD hS rfl rfl (by omega) (by decide) rfl (fun H locs hP hD hS => ?_)
                    refine lv_iinc (k := 0) (v := nI (i + 1)) (lv' := [(5, .int (nI (i + 1))), (3, .int (nI a)), (2, .int (nI sk2)), (0, .ref o)]) hx hb d_Mo_list_190 hl rfl (nI_inc1 _) (Nat.le_of_ble_eq_true rfl) rfl (fun ls hl => ?_)
                    refine lv_goto (tgt := 162) hx hb d_Mo_list_193 (by decide) ?_
                    exact ih (i + 1) (ap1 T2 ((lq ++ [10]).getD i 0)) _ _ _ (by omega) (by rw [hRc, drop_c (by simp; omega)]; rfl) (by show T2.2 + 1 = _; omega) (lv_sub hl [0, 1, 2, 3] rfl) (hP.sub [0, 1, 2, 3, 4, 5] rfl) (hD.sub [0, 1, 2, 3, 4, 5] (by decide) rfl) hS
              exact loop162 (lq.length + 1) 0 T1 _ _ _ (Nat.zero_add _) (rfl) (rfl) (lv_sub hl [0, 1, 2, 3] rfl) (hP.sub [4, 0, 1, 2, 3, 5] rfl) (hD.sub [4, 0, 1, 2, 3, 5] (by decide) rfl) hS
            refine lv_iload hx hb d_Mo_list_53 (lv_at hl 0 rfl) ?_
            refine z_if_ne (tgt := 71) hx hb d_Mo_list_55 (tI_n (by omega)) (by decide) (fun g55 => ?_) (fun g55 => ?_)
            · refine lv_aload_n hx hb d_Mo_list_71 rfl (lv_at hl 3 rfl) ?_
              refine va_get (D := (dC, dI)) (ci := 5) (v := .ref gi) (C := R_Mo) (T := F_Mo) (N := 12) hx hb ht in_Mo hown hK hP 0 rfl rfl 0 (by decide) (ht _ k_491) (fun _ h9 => h9) rfl d_Mo_list_72 ?_
              refine lv_iload_n hx hb d_Mo_list_75 rfl (lv_at hl 1 rfl) ?_
              refine ldI (q0 := 1) (t0 := 0) hx hb d_Mo_list_76 hK hP rfl rfl (by omega) (by decide) ?_
              refine lv_istore (lv' := [(5, .int (nI (i0.1 a))), (4, .int (nI (mlk i0.1 i0.2 (mR i0 e0) a))), (3, .int (nI a)), (2, .int (nI sk)), (0, .ref o)]) hx hb d_Mo_list_77 hl (Nat.le_of_ble_eq_true rfl) rfl (fun ls hl => ?_)
              have cut97 : ∀  (ls : Array Slot) (H : Heap) (locs : List Loc), lv_has ls 8 [(5, .int (nI (i0.1 a))), (4, .int (nI (mlk i0.1 i0.2 (mR i0 e0) a))), (3, .int (nI a)), (2, .int (nI sk)), (0, .ref o)] → va_P (dC, dI) classes [(o, .inr (5, [.ref gi, .ref ge, .ref gt, .ref go, .ref gb, .ref gm, .ref gl, .int (nI i0.2), .int (nI e0.2), .int (nI T1.2), .int (nI mk), .int (nI L1.2)])), (gi, .inl (ci, 160, .inl (iN i0.1))), (ge, .inl (ce, 16, .inl (iN e0.1))), (gt, .inl (ct, 2400, .inl (iN T1.1))), (gm, .inl (cm1, 160, .inl (zN (mR i0 e0)))), (gl, .inl (cl, 32, .inl (iN L1.1)))] H → va_D A [(o, .inr (5, [.ref gi, .ref ge, .ref gt, .ref go, .ref gb, .ref gm, .ref gl, .int (nI i0.2), .int (nI e0.2), .int (nI T1.2), .int (nI mk), .int (nI L1.2)])), (gi, .inl (ci, 160, .inl (iN i0.1))), (ge, .inl (ce, 16, .inl (iN e0.1))), (gt, .inl (ct, 2400, .inl (iN T1.1))), (gm, .inl (cm1, 160, .inl (zN (mR i0 e0)))), (gl, .inl (cl, 32, .inl (iN L1.1)))] → va_S A s.heap H locs → W p l e (rmq 5 113) s m [.ref o].toArray below meth c H locs 0 0 (MQ below (qcX (fun _ : txT => some (.int (nI ((mls i0.1 i0.2 (mR i0 e0) i0.2 0 0 (dr t0)).2)))) (dC, dI) (fun u : txT => True) (fun u : txT => [(o, .inr (5, [.ref gi, .ref ge, .ref gt, .ref go, .ref gb, .ref gm, .ref gl, .int (nI i0.2), .int (nI e0.2), .int (nI ((mls i0.1 i0.2 (mR i0 e0) i0.2 0 0 (dr t0)).2)), .int (nI mk), .int (nI u.2)])), (gi, .inl (ci, 160, .inl (iN i0.1))), (ge, .inl (ce, 16, .inl (iN e0.1))), (gt, .inl (ct, 2400, .inl (iN ((mls i0.1 i0.2 (mR i0 e0) i0.2 0 0 (dr t0)).1)))), (gm, .inl (cm1, 160, .inl (zN (mR i0 e0)))), (gl, .inl (cl, 32, .inl (iN u.1)))]) A) [.ref o].toArray s 0 0 A) (F0 m 97 ls [.int (nI (msec i0.1 a (mlk i0.1 i0.2 (mR i0 e0) a)))]) := by
                intro  ls H locs  hl hP hD hS
                refine lv_istore (lv' := [(6, .int (nI (msec i0.1 a (mlk i0.1 i0.2 (mR i0 e0) a)))), (5, .int (nI (i0.1 a))), (4, .int (nI (mlk i0.1 i0.2 (mR i0 e0) a))), (3, .int (nI a)), (2, .int (nI sk)), (0, .ref o)]) hx hb d_Mo_list_97 hl (Nat.le_of_ble_eq_true rfl) rfl (fun ls hl => ?_)
                have cut138 : ∀  (ls : Array Slot) (H : Heap) (locs : List Loc), lv_has ls 8 [(6, .int (nI (msec i0.1 a (mlk i0.1 i0.2 (mR i0 e0) a)))), (5, .int (nI (i0.1 a))), (4, .int (nI (mlk i0.1 i0.2 (mR i0 e0) a))), (3, .int (nI a)), (2, .int (nI sk)), (0, .ref o)] → va_P (dC, dI) classes [(o, .inr (5, [.ref gi, .ref ge, .ref gt, .ref go, .ref gb, .ref gm, .ref gl, .int (nI i0.2), .int (nI e0.2), .int (nI T1.2), .int (nI mk), .int (nI L1.2)])), (gi, .inl (ci, 160, .inl (iN i0.1))), (ge, .inl (ce, 16, .inl (iN e0.1))), (gt, .inl (ct, 2400, .inl (iN T1.1))), (gm, .inl (cm1, 160, .inl (zN (mR i0 e0)))), (gl, .inl (cl, 32, .inl (iN L1.1)))] H → va_D A [(o, .inr (5, [.ref gi, .ref ge, .ref gt, .ref go, .ref gb, .ref gm, .ref gl, .int (nI i0.2), .int (nI e0.2), .int (nI T1.2), .int (nI mk), .int (nI L1.2)])), (gi, .inl (ci, 160, .inl (iN i0.1))), (ge, .inl (ce, 16, .inl (iN e0.1))), (gt, .inl (ct, 2400, .inl (iN T1.1))), (gm, .inl (cm1, 160, .inl (zN (mR i0 e0)))), (gl, .inl (cl, 32, .inl (iN L1.1)))] → va_S A s.heap H locs → W p l e (rmq 5 113) s m [.ref o].toArray below meth c H locs 0 0 (MQ below (qcX (fun _ : txT => some (.int (nI ((mls i0.1 i0.2 (mR i0 e0) i0.2 0 0 (dr t0)).2)))) (dC, dI) (fun u : txT => True) (fun u : txT => [(o, .inr (5, [.ref gi, .ref ge, .ref gt, .ref go, .ref gb, .ref gm, .ref gl, .int (nI i0.2), .int (nI e0.2), .int (nI ((mls i0.1 i0.2 (mR i0 e0) i0.2 0 0 (dr t0)).2)), .int (nI mk), .int (nI u.2)])), (gi, .inl (ci, 160, .inl (iN i0.1))), (ge, .inl (ce, 16, .inl (iN e0.1))), (gt, .inl (ct, 2400, .inl (iN ((mls i0.1 i0.2 (mR i0 e0) i0.2 0 0 (dr t0)).1)))), (gm, .inl (cm1, 160, .inl (zN (mR i0 e0)))), (gl, .inl (cl, 32, .inl (iN u.1)))]) A) [.ref o].toArray s 0 0 A) (F0 m 138 ls [.int (iI (mnm i0.1 a (mlk i0.1 i0.2 (mR i0 e0) a)))]) := by
                  intro  ls H locs  hl hP hD hS
                  refine lv_istore (lv' := [(7, .int (iI (mnm i0.1 a (mlk i0.1 i0.2 (mR i0 e0) a)))), (6, .int (nI (msec i0.1 a (mlk i0.1 i0.2 (mR i0 e0) a)))), (5, .int (nI (i0.1 a))), (4, .int (nI (mlk i0.1 i0.2 (mR i0 e0) a))), (3, .int (nI a)), (2, .int (nI sk)), (0, .ref o)]) hx hb d_Mo_list_138 hl (Nat.le_of_ble_eq_true rfl) rfl (fun ls hl => ?_)
                  refine lv_aload_n hx hb d_Mo_list_140 rfl (lv_at hl 6 rfl) ?_
                  refine lv_iload hx hb d_Mo_list_141 (lv_at hl 2 rfl) ?_
                  refine lv_iload hx hb d_Mo_list_143 (lv_at hl 0 rfl) ?_
                  refine uV (As := [.int (nI (i0.1 a)), .int (iI (mnm i0.1 a (mlk i0.1 i0.2 (mR i0 e0) a)))]) (rest := []) (wr := [(gi, .inl (ci, 160, .inl (iN i0.1))), (ge, .inl (ce, 16, .inl (iN e0.1))), (gt, .inl (ct, 2400, .inl (iN T1.1))), (gm, .inl (cm1, 160, .inl (zN (mR i0 e0))))]) hx hb hml hown ht (c_Mo_print l dC dI z _ o gi ge gt go gb gm gl i0 e0 T1 mk L1 cl (i0.1 a) (mnm i0.1 a (mlk i0.1 i0.2 (mR i0 e0) a)) (mlk_f (b := i0.1) (n := i0.2) (m := mR i0 e0) (show a < i0.2 by omega) (by omega)) (by first | assumption | omega) (by first | assumption | omega)) yv_Mo_print k_617 (Nat.le_of_ble_eq_true rfl) (Nat.le_of_ble_eq_true rfl) hP hK hSS hD hS hA [0, 5] [1, 2, 3, 4] [4] rfl rfl (by decide) rfl (by decide) (by decide) rfl 0 5 rfl rfl rfl hl rfl rfl (Nat.le_of_ble_eq_true rfl) (Nat.zero_le _) (Nat.zero_le _) d_Mo_list_145 (fun H locs hP hD hS => ?_)
                  have hP : va_P (dC, dI) classes [(gi, .inl (ci, 160, .inl (iN i0.1))), (ge, .inl (ce, 16, .inl (iN e0.1))), (gt, .inl (ct, 2400, .inl (iN T1.1))), (gm, .inl (cm1, 160, .inl (zN (mR i0 e0)))), (o, .inr (5, [.ref gi, .ref ge, .ref gt, .ref go, .ref gb, .ref gm, .ref gl, .int (nI i0.2), .int (nI e0.2), .int (nI T1.2), .int (nI mk), .int (nI ((ap (dr L1) (prL (i0.1 a) (mnm i0.1 a (mlk i0.1 i0.2 (mR i0 e0) a)))).2))])), (gl, .inl (cl, 32, .inl (iN ((ap (dr L1) (prL (i0.1 a) (mnm i0.1 a (mlk i0.1 i0.2 (mR i0 e0) a)))).1))))] H := hP
                  have hD : va_D A [(gi, .inl (ci, 160, .inl (iN i0.1))), (ge, .inl (ce, 16, .inl (iN e0.1))), (gt, .inl (ct, 2400, .inl (iN T1.1))), (gm, .inl (cm1, 160, .inl (zN (mR i0 e0)))), (o, .inr (5, [.ref gi, .ref ge, .ref gt, .ref go, .ref gb, .ref gm, .ref gl, .int (nI i0.2), .int (nI e0.2), .int (nI T1.2), .int (nI mk), .int (nI ((ap (dr L1) (prL (i0.1 a) (mnm i0.1 a (mlk i0.1 i0.2 (mR i0 e0) a)))).2))])), (gl, .inl (cl, 32, .inl (iN ((ap (dr L1) (prL (i0.1 a) (mnm i0.1 a (mlk i0.1 i0.2 (mR i0 e0) a)))).1))))] := hD
                  refine stk (st2 := []) rfl ?_
                  refine lv_iload hx hb d_Mo_list_148 (lv_at hl 3 rfl) ?_
                  refine lv_iconst (v := nI 1) hx hb d_Mo_list_150 (by decide) ?_
                  refine nSub hx hb d_Mo_list_151 (by omega) ?_
                  refine lv_istore_n (lv' := [(2, .int (nI ((mlk i0.1 i0.2 (mR i0 e0) a) - 1))), (7, .int (iI (mnm i0.1 a (mlk i0.1 i0.2 (mR i0 e0) a)))), (6, .int (nI (msec i0.1 a (mlk i0.1 i0.2 (mR i0 e0) a)))), (5, .int (nI (i0.1 a))), (4, .int (nI (mlk i0.1 i0.2 (mR i0 e0) a))), (3, .int (nI a)), (0, .ref o)]) hx hb d_Mo_list_152 rfl hl (Nat.le_of_ble_eq_true rfl) rfl (fun ls hl => ?_)
                  exact cut153 L1 (prL (i0.1 a) (mnm i0.1 a (mlk i0.1 i0.2 (mR i0 e0) a))) (mlk i0.1 i0.2 (mR i0 e0) a - 1) _ _ _ (by rw [mlL, if_neg (by omega)]) (rfl) (lv_sub hl [5, 0, 6] rfl) (hP.sub [4, 0, 1, 2, 3, 5] rfl) (hD.sub [4, 0, 1, 2, 3, 5] (by decide) rfl) hS
                refine lv_iload hx hb d_Mo_list_99 (lv_at hl 2 rfl) ?_
                refine lv_iconst (v := nI 3) hx hb d_Mo_list_101 (by decide) ?_
                refine z_icmp_ne (tgt := 123) hx hb d_Mo_list_102 (tI_n (by omega)) (tI_n (by omega)) (by decide) (fun g102 => ?_) (fun g102 => ?_)
                · refine lv_iload hx hb d_Mo_list_123 (lv_at hl 1 rfl) ?_
                  refine lv_bipush (v := nI 96) hx hb d_Mo_list_125 (by decide) ?_
                  refine z_icmp_lt (tgt := 136) hx hb d_Mo_list_127 (tI_n (by omega)) (tI_n (by omega)) (by decide) (fun g127 => ?_) (fun g127 => ?_)
                  · refine lv_iload hx hb d_Mo_list_136 (lv_at hl 0 rfl) ?_
                    refine eqi (y := iI (mnm i0.1 a (mlk i0.1 i0.2 (mR i0 e0) a))) (by rw [nI_iI, mnm, if_neg (by omega), if_neg (by omega)]) ?_
                    exact cut138  _ _ _  (lv_sub hl [0, 1, 2, 3, 4, 5] rfl) (hP.sub [0, 1, 2, 3, 4, 5] rfl) (hD.sub [0, 1, 2, 3, 4, 5] (by decide) rfl) hS
                  · refine lv_iload hx hb d_Mo_list_130 (lv_at hl 0 rfl) ?_
                    refine lv_i2b (v := iI (sx8 (msec i0.1 a (mlk i0.1 i0.2 (mR i0 e0) a)))) hx hb d_Mo_list_132 (i2b_n hms) ?_
                    refine eqi (y := iI (mnm i0.1 a (mlk i0.1 i0.2 (mR i0 e0) a))) (by rw [mnm, if_neg (by omega), if_pos (by omega)]) ?_
                    refine lv_goto (tgt := 138) hx hb d_Mo_list_133 (by decide) ?_
                    exact cut138  _ _ _  (lv_sub hl [0, 1, 2, 3, 4, 5] rfl) (hP.sub [0, 1, 2, 3, 4, 5] rfl) (hD.sub [0, 1, 2, 3, 4, 5] (by decide) rfl) hS
                · refine lv_sipush (v := nI 256) hx hb d_Mo_list_105 (by decide) ?_
                  refine lv_iload hx hb d_Mo_list_108 (lv_at hl 0 rfl) ?_
                  refine nMul hx hb d_Mo_list_110 ?_
                  refine lv_aload_n hx hb d_Mo_list_111 rfl (lv_at hl 5 rfl) ?_
                  refine va_get (D := (dC, dI)) (ci := 5) (v := .ref gi) (C := R_Mo) (T := F_Mo) (N := 12) hx hb ht in_Mo hown hK hP 0 rfl rfl 0 (by decide) (ht _ k_491) (fun _ h9 => h9) rfl d_Mo_list_112 ?_
                  refine lv_iload_n hx hb d_Mo_list_115 rfl (lv_at hl 3 rfl) ?_
                  refine lv_iconst (v := nI 2) hx hb d_Mo_list_116 (by decide) ?_
                  refine nAdd hx hb d_Mo_list_117 ?_
                  refine ldI (q0 := 1) (t0 := 0) hx hb d_Mo_list_118 hK hP rfl rfl (by omega) (by decide) ?_
                  refine nAdd hx hb d_Mo_list_119 ?_
                  refine eqi (y := iI (mnm i0.1 a (mlk i0.1 i0.2 (mR i0 e0) a))) (by rw [nI_iI, mnm, if_pos (by omega)]) ?_
                  refine lv_goto (tgt := 138) hx hb d_Mo_list_120 (by decide) ?_
                  exact cut138  _ _ _  (lv_sub hl [0, 1, 2, 3, 4, 5] rfl) (hP.sub [0, 1, 2, 3, 4, 5] rfl) (hD.sub [0, 1, 2, 3, 4, 5] (by decide) rfl) hS
              refine lv_iload hx hb d_Mo_list_79 (lv_at hl 1 rfl) ?_
              refine lv_iconst (v := nI 1) hx hb d_Mo_list_81 (by decide) ?_
              refine z_icmp_le (tgt := 96) hx hb d_Mo_list_82 (tI_n (by omega)) (tI_n (by omega)) (by decide) (fun g82 => ?_) (fun g82 => ?_)
              · refine lv_iconst (v := nI 0) hx hb d_Mo_list_96 (by decide) ?_
                refine eqi (y := nI (msec i0.1 a (mlk i0.1 i0.2 (mR i0 e0) a))) (by rw [msec, if_neg (by omega)]) ?_
                exact cut97  _ _ _  (lv_sub hl [0, 1, 2, 3, 4] rfl) (hP.sub [0, 1, 2, 3, 4, 5] rfl) (hD.sub [0, 1, 2, 3, 4, 5] (by decide) rfl) hS
              · refine lv_aload_n hx hb d_Mo_list_85 rfl (lv_at hl 4 rfl) ?_
                refine va_get (D := (dC, dI)) (ci := 5) (v := .ref gi) (C := R_Mo) (T := F_Mo) (N := 12) hx hb ht in_Mo hown hK hP 0 rfl rfl 0 (by decide) (ht _ k_491) (fun _ h9 => h9) rfl d_Mo_list_86 ?_
                refine lv_iload_n hx hb d_Mo_list_89 rfl (lv_at hl 2 rfl) ?_
                refine lv_iconst (v := nI 1) hx hb d_Mo_list_90 (by decide) ?_
                refine nAdd hx hb d_Mo_list_91 ?_
                refine ldI (q0 := 1) (t0 := 0) hx hb d_Mo_list_92 hK hP rfl rfl (by omega) (by decide) ?_
                refine eqi (y := nI (msec i0.1 a (mlk i0.1 i0.2 (mR i0 e0) a))) (by rw [msec, if_pos (by omega)]) ?_
                refine lv_goto (tgt := 97) hx hb d_Mo_list_93 (by decide) ?_
                exact cut97  _ _ _  (lv_sub hl [0, 1, 2, 3, 4] rfl) (hP.sub [0, 1, 2, 3, 4, 5] rfl) (hD.sub [0, 1, 2, 3, 4, 5] (by decide) rfl) hS
            · refine lv_aload_n hx hb d_Mo_list_58 rfl (lv_at hl 3 rfl) ?_
              refine lv_aload_n hx hb d_Mo_list_59 rfl (lv_at hl 3 rfl) ?_
              refine va_get (D := (dC, dI)) (ci := 5) (v := .ref gi) (C := R_Mo) (T := F_Mo) (N := 12) hx hb ht in_Mo hown hK hP 0 rfl rfl 0 (by decide) (ht _ k_491) (fun _ h9 => h9) rfl d_Mo_list_60 ?_
              refine lv_iload_n hx hb d_Mo_list_63 rfl (lv_at hl 1 rfl) ?_
              refine ldI (q0 := 1) (t0 := 0) hx hb d_Mo_list_64 hK hP rfl rfl (by omega) (by decide) ?_
              refine uV (As := [.int (nI (i0.1 a))]) (rest := []) (wr := [(gi, .inl (ci, 160, .inl (iN i0.1))), (ge, .inl (ce, 16, .inl (iN e0.1))), (gt, .inl (ct, 2400, .inl (iN T1.1))), (gm, .inl (cm1, 160, .inl (zN (mR i0 e0))))]) hx hb hml hown ht (c_Mo_data l dC dI z _ o gi ge gt go gb gm gl i0 e0 T1 mk L1 cl (i0.1 a) (by first | assumption | omega)) yv_Mo_data k_601 (Nat.le_of_ble_eq_true rfl) (Nat.le_of_ble_eq_true rfl) hP hK hSS hD hS hA [0, 5] [1, 2, 3, 4] [4] rfl rfl (by decide) rfl (by decide) (by decide) rfl 0 5 rfl rfl rfl hl rfl rfl (Nat.le_of_ble_eq_true rfl) (Nat.zero_le _) (Nat.zero_le _) d_Mo_list_65 (fun H locs hP hD hS => ?_)
              have hP : va_P (dC, dI) classes [(gi, .inl (ci, 160, .inl (iN i0.1))), (ge, .inl (ce, 16, .inl (iN e0.1))), (gt, .inl (ct, 2400, .inl (iN T1.1))), (gm, .inl (cm1, 160, .inl (zN (mR i0 e0)))), (o, .inr (5, [.ref gi, .ref ge, .ref gt, .ref go, .ref gb, .ref gm, .ref gl, .int (nI i0.2), .int (nI e0.2), .int (nI T1.2), .int (nI mk), .int (nI ((ap (dr L1) (daL (i0.1 a))).2))])), (gl, .inl (cl, 32, .inl (iN ((ap (dr L1) (daL (i0.1 a))).1))))] H := hP
              have hD : va_D A [(gi, .inl (ci, 160, .inl (iN i0.1))), (ge, .inl (ce, 16, .inl (iN e0.1))), (gt, .inl (ct, 2400, .inl (iN T1.1))), (gm, .inl (cm1, 160, .inl (zN (mR i0 e0)))), (o, .inr (5, [.ref gi, .ref ge, .ref gt, .ref go, .ref gb, .ref gm, .ref gl, .int (nI i0.2), .int (nI e0.2), .int (nI T1.2), .int (nI mk), .int (nI ((ap (dr L1) (daL (i0.1 a))).2))])), (gl, .inl (cl, 32, .inl (iN ((ap (dr L1) (daL (i0.1 a))).1))))] := hD
              refine stk (st2 := []) rfl ?_
              refine lv_goto (tgt := 153) hx hb d_Mo_list_68 (by decide) ?_
              exact cut153 L1 (daL (i0.1 a)) sk _ _ _ (by rw [mlL, if_pos (by omega)]) (by omega) (lv_sub hl [1, 2, 3] rfl) (hP.sub [4, 0, 1, 2, 3, 5] rfl) (hD.sub [4, 0, 1, 2, 3, 5] (by decide) rfl) hS
          refine lv_aload_n hx hb d_Mo_list_33 rfl (lv_at hl 2 rfl) ?_
          refine va_get (D := (dC, dI)) (ci := 5) (v := .ref gm) (C := R_Mo) (T := F_Mo) (N := 12) hx hb ht in_Mo hown hK hP 0 rfl rfl 5 (by decide) (ht _ k_496) (fun _ h9 => h9) rfl d_Mo_list_34 ?_
          refine lv_iload_n hx hb d_Mo_list_37 rfl (lv_at hl 0 rfl) ?_
          refine ldZ (q0 := 4) (t0 := 3) hx hb d_Mo_list_38 hK hP rfl rfl (by omega) (by decide) ?_
          refine b_if_eq (tgt := 50) hx hb d_Mo_list_39 (by decide) (fun g39 => ?_) (fun g39 => ?_)
          · refine lv_iconst (v := nI 0) hx hb d_Mo_list_50 (by decide) ?_
            refine eqi (y := nI (mlk i0.1 i0.2 (mR i0 e0) a)) (by rw [mlk, if_neg (by rw [g39]; decide)]) ?_
            exact cut51  _ _ _  (lv_sub hl [0, 1, 2] rfl) (hP.sub [0, 1, 2, 3, 4, 5] rfl) (hD.sub [0, 1, 2, 3, 4, 5] (by decide) rfl) hS
          · refine lv_aload_n hx hb d_Mo_list_42 rfl (lv_at hl 2 rfl) ?_
            refine lv_iload_n hx hb d_Mo_list_43 rfl (lv_at hl 0 rfl) ?_
            refine rV (As := [.int (nI a)]) (rest := []) hx hb hml hown ht (c_Mo_length l dC dI z o gi ge gt go gb gm gl i0 e0 T1 mk L1 ci (nI a) ((a : Nat) : Int) (by first | assumption | omega) (by first | assumption | omega) (tI_n (by omega))) yv_Mo_length k_579 (Nat.le_of_ble_eq_true rfl) (Nat.le_of_ble_eq_true rfl) hP hK hSS hS [0, 1] [0] rfl rfl 0 5 rfl rfl rfl hl rfl rfl (Nat.le_of_ble_eq_true rfl) (Nat.zero_le _) (Nat.zero_le _) d_Mo_list_44 ?_
            refine eqi (y := nI (mlk i0.1 i0.2 (mR i0 e0) a)) (by rw [mlk, if_pos g39]) ?_
            refine lv_goto (tgt := 51) hx hb d_Mo_list_47 (by decide) ?_
            exact cut51  _ _ _  (lv_sub hl [0, 1, 2] rfl) (hP.sub [0, 1, 2, 3, 4, 5] rfl) (hD.sub [0, 1, 2, 3, 4, 5] (by decide) rfl) hS
        · refine lv_iload_n hx hb d_Mo_list_26 rfl (lv_at hl 1 rfl) ?_
          refine lv_iconst (v := nI 1) hx hb d_Mo_list_27 (by decide) ?_
          refine nSub hx hb d_Mo_list_28 (by omega) ?_
          refine lv_istore_n (lv' := [(2, .int (nI (sk - 1))), (3, .int (nI a)), (0, .ref o)]) hx hb d_Mo_list_29 rfl hl (Nat.le_of_ble_eq_true rfl) rfl (fun ls hl => ?_)
          refine lv_goto (tgt := 209) hx hb d_Mo_list_30 (by decide) ?_
          refine lv_iinc (k := 1) (v := nI (a + 1)) (lv' := [(3, .int (nI (a + 1))), (2, .int (nI (sk - 1))), (0, .ref o)]) hx hb d_Mo_list_209 hl rfl (nI_inc1 _) (Nat.le_of_ble_eq_true rfl) rfl (fun ls hl => ?_)
          refine lv_goto (tgt := 14) hx hb d_Mo_list_212 (by decide) ?_
          exact ih (a + 1) (sk - 1) T1 L1 _ _ _ (by omega) (by rw [hR, mls, if_pos (by omega)]) (by omega) (by omega) (by omega) (lv_sub hl [0, 1, 2] rfl) (hP.sub [0, 1, 2, 3, 4, 5] rfl) (hD.sub [0, 1, 2, 3, 4, 5] (by decide) rfl) hS
  exact loop14 i0.2 0 0 (dr t0) L0 _ _ _ (Nat.zero_add _) (rfl) (Nat.zero_le _) (Nat.le_refl _) (Nat.zero_le _) (lv_sub hl [0, 1, 3] rfl) (hP.sub [2, 3, 4, 0, 5, 1] rfl) (hD.sub [2, 3, 4, 0, 5, 1] (by decide) rfl) hS
