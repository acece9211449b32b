set_option maxHeartbeats 4000000 in
set_option maxRecDepth 100000 in
theorem c_Mo_follow (l : Launch) (dC : Nat → ClassId) (dI : Nat → Nat → Nat) (z : zT) (sz : Nat) (o : Nat) (gi : Nat) (ge : Nat) (gt : Nat) (go : Nat) (gb : Nat) (gm : Nat) (gl : Nat) (i0 : txT) (e0 : txT) (t0 : txT) (mk : Nat) (L0 : txT) (ci : ClassId) (cm1 : ClassId) (m0 : Nat → Bool) (a : Nat) (cs : Bool) (hn : i0.2 ≤ 160) (hb8 : ∀ i, i0.1 i < 256) (ha : a < i0.2) : MU l y_Mo_follow b_Mo_follow 6 (some .boolean) 2 43 (dC, dI) z [.ref o, .int (nI a), .int (bI cs)] [(o, .inr (5, [.ref gi, .ref ge, .ref gt, .ref go, .ref gb, .ref gm, .ref gl, .int (nI i0.2), .int (nI e0.2), .int (nI t0.2), .int (nI mk), .int (nI L0.2)])), (gi, .inl (ci, 160, .inl (iN i0.1))), (gm, .inl (cm1, 160, .inl (zN m0)))] [(ci, .int), (cm1, .boolean)] sz (some (.int (bI ((mfl i0.1 i0.2 cs a m0).2)))) [(o, .inr (5, [.ref gi, .ref ge, .ref gt, .ref go, .ref gb, .ref gm, .ref gl, .int (nI i0.2), .int (nI e0.2), .int (nI t0.2), .int (nI mk), .int (nI L0.2)])), (gi, .inl (ci, 160, .inl (iN i0.1))), (gm, .inl (cm1, 160, .inl (zN ((mfl i0.1 i0.2 cs a m0).1))))] := by
  have hln := mLen_in (b := i0.1) ha
  have hba := hb8 a
  have hb1 := hb8 (a + 1)
  have hb2 := hb8 (a + 2)
  have hsx := sx8_in hb1
  refine metU (by decide) (Nat.le_of_ble_eq_true rfl) ?_
  intro p e s m below meth c ls A hx hb hr hlocks hml hown ht hl hP hK hSS hD hS hA
  have hl : lv_has ls 6 [(0, .ref o), (1, .int (nI a)), (2, .int (bI cs))] := hl
  refine lv_aload_n hx hb d_Mo_follow_0 rfl (lv_at hl 0 rfl) ?_
  refine lv_iload_n hx hb d_Mo_follow_1 rfl (lv_at hl 1 rfl) ?_
  refine rV (As := [.int (nI a)]) (rest := []) hx hb hml hown ht (c_Mo_length l dC dI z o gi ge gt go gb gm gl i0 e0 t0 mk L0 ci (nI a) ((a : Nat) : Int) (by first | assumption | omega) (by first | assumption | omega) (tI_n (by omega))) yv_Mo_length k_579 (Nat.le_of_ble_eq_true rfl) (Nat.le_of_ble_eq_true rfl) hP hK hSS hS [0, 1] [0] rfl rfl 0 5 rfl rfl rfl hl rfl rfl (Nat.le_of_ble_eq_true rfl) (Nat.zero_le _) (Nat.zero_le _) d_Mo_follow_2 ?_
  refine lv_istore_n (lv' := [(3, .int (nI (mLen i0.1 i0.2 ((a : Nat) : Int)))), (0, .ref o), (1, .int (nI a)), (2, .int (bI cs))]) hx hb d_Mo_follow_5 rfl hl (Nat.le_of_ble_eq_true rfl) rfl (fun ls hl => ?_)
  refine lv_aload_n hx hb d_Mo_follow_6 rfl (lv_at hl 1 rfl) ?_
  refine va_get (D := (dC, dI)) (ci := 5) (v := .ref gi) (C := R_Mo) (T := F_Mo) (N := 12) hx hb ht in_Mo hown hK hP 0 rfl rfl 0 (by decide) (ht _ k_491) (fun _ h9 => h9) rfl d_Mo_follow_7 ?_
  refine lv_iload_n hx hb d_Mo_follow_10 rfl (lv_at hl 2 rfl) ?_
  refine ldI (q0 := 1) (t0 := 0) hx hb d_Mo_follow_11 hK hP rfl rfl (by omega) (by decide) ?_
  refine lv_istore (lv' := [(4, .int (nI (i0.1 a))), (3, .int (nI (mLen i0.1 i0.2 ((a : Nat) : Int)))), (0, .ref o), (1, .int (nI a)), (2, .int (bI cs))]) hx hb d_Mo_follow_12 hl (Nat.le_of_ble_eq_true rfl) rfl (fun ls hl => ?_)
  refine lv_iload_n hx hb d_Mo_follow_14 rfl (lv_at hl 1 rfl) ?_
  refine z_if_ne (tgt := 20) hx hb d_Mo_follow_15 (tI_n (by omega)) (by decide) (fun g15 => ?_) (fun g15 => ?_)
  · have hll := mLen_l (b := i0.1) (n := i0.2) ha (by omega)
    have hmf := mfl_e (cs := cs) (m := m0) (show ¬ mLen i0.1 i0.2 (a : Int) = 0 by omega)
    refine lv_iconst (v := nI 0) hx hb d_Mo_follow_20 (by decide) ?_
    refine eqi (y := bI false) (by decide) ?_
    refine lv_istore (lv' := [(5, .int (bI false)), (4, .int (nI (i0.1 a))), (3, .int (nI (mLen i0.1 i0.2 ((a : Nat) : Int)))), (0, .ref o), (1, .int (nI a)), (2, .int (bI cs))]) hx hb d_Mo_follow_21 hl (Nat.le_of_ble_eq_true rfl) rfl (fun ls hl => ?_)
    have cut51 : ∀  (q1 : mkT) (ls : Array Slot) (H : Heap) (locs : List Loc), (q1 = fw1 i0.1 i0.2 a (m0, false)) → lv_has ls 6 [(5, .int (bI q1.2)), (4, .int (nI (i0.1 a))), (3, .int (nI (mLen i0.1 i0.2 ((a : Nat) : Int)))), (0, .ref o), (1, .int (nI a)), (2, .int (bI cs))] → va_P (dC, dI) classes [(o, .inr (5, [.ref gi, .ref ge, .ref gt, .ref go, .ref gb, .ref gm, .ref gl, .int (nI i0.2), .int (nI e0.2), .int (nI t0.2), .int (nI mk), .int (nI L0.2)])), (gi, .inl (ci, 160, .inl (iN i0.1))), (gm, .inl (cm1, 160, .inl (zN q1.1)))] H → va_D A [(o, .inr (5, [.ref gi, .ref ge, .ref gt, .ref go, .ref gb, .ref gm, .ref gl, .int (nI i0.2), .int (nI e0.2), .int (nI t0.2), .int (nI mk), .int (nI L0.2)])), (gi, .inl (ci, 160, .inl (iN i0.1))), (gm, .inl (cm1, 160, .inl (zN q1.1)))] → va_S A s.heap H locs → W p l e (rmq 2 43) s m [.ref o, .int (nI a), .int (bI cs)].toArray below meth c H locs 0 0 (MQ below (qcU (some (.int (bI ((mfl i0.1 i0.2 cs a m0).2)))) (dC, dI) [(o, .inr (5, [.ref gi, .ref ge, .ref gt, .ref go, .ref gb, .ref gm, .ref gl, .int (nI i0.2), .int (nI e0.2), .int (nI t0.2), .int (nI mk), .int (nI L0.2)])), (gi, .inl (ci, 160, .inl (iN i0.1))), (gm, .inl (cm1, 160, .inl (zN ((mfl i0.1 i0.2 cs a m0).1))))] A) [.ref o, .int (nI a), .int (bI cs)].toArray s 0 0 A) (F0 m 51 ls []) := by
      intro q1 ls H locs hq1 hl hP hD hS
      have cut107 : ∀  (q2 : mkT) (ls : Array Slot) (H : Heap) (locs : List Loc), (q2 = fw2 i0.1 i0.2 cs a q1) → lv_has ls 6 [(5, .int (bI q2.2)), (4, .int (nI (i0.1 a))), (3, .int (nI (mLen i0.1 i0.2 ((a : Nat) : Int)))), (0, .ref o), (1, .int (nI a)), (2, .int (bI cs))] → va_P (dC, dI) classes [(o, .inr (5, [.ref gi, .ref ge, .ref gt, .ref go, .ref gb, .ref gm, .ref gl, .int (nI i0.2), .int (nI e0.2), .int (nI t0.2), .int (nI mk), .int (nI L0.2)])), (gi, .inl (ci, 160, .inl (iN i0.1))), (gm, .inl (cm1, 160, .inl (zN q2.1)))] H → va_D A [(o, .inr (5, [.ref gi, .ref ge, .ref gt, .ref go, .ref gb, .ref gm, .ref gl, .int (nI i0.2), .int (nI e0.2), .int (nI t0.2), .int (nI mk), .int (nI L0.2)])), (gi, .inl (ci, 160, .inl (iN i0.1))), (gm, .inl (cm1, 160, .inl (zN q2.1)))] → va_S A s.heap H locs → W p l e (rmq 2 43) s m [.ref o, .int (nI a), .int (bI cs)].toArray below meth c H locs 0 0 (MQ below (qcU (some (.int (bI ((mfl i0.1 i0.2 cs a m0).2)))) (dC, dI) [(o, .inr (5, [.ref gi, .ref ge, .ref gt, .ref go, .ref gb, .ref gm, .ref gl, .int (nI i0.2), .int (nI e0.2), .int (nI t0.2), .int (nI mk), .int (nI L0.2)])), (gi, .inl (ci, 160, .inl (iN i0.1))), (gm, .inl (cm1, 160, .inl (zN ((mfl i0.1 i0.2 cs a m0).1))))] A) [.ref o, .int (nI a), .int (bI cs)].toArray s 0 0 A) (F0 m 107 ls []) := by
        intro q2 ls H locs hq2 hl hP hD hS
        have cut144 : ∀  (q3 : mkT) (ls : Array Slot) (H : Heap) (locs : List Loc), (q3 = fw3 i0.1 i0.2 a q2) → lv_has ls 6 [(5, .int (bI q3.2)), (4, .int (nI (i0.1 a))), (3, .int (nI (mLen i0.1 i0.2 ((a : Nat) : Int)))), (0, .ref o), (1, .int (nI a)), (2, .int (bI cs))] → va_P (dC, dI) classes [(o, .inr (5, [.ref gi, .ref ge, .ref gt, .ref go, .ref gb, .ref gm, .ref gl, .int (nI i0.2), .int (nI e0.2), .int (nI t0.2), .int (nI mk), .int (nI L0.2)])), (gi, .inl (ci, 160, .inl (iN i0.1))), (gm, .inl (cm1, 160, .inl (zN q3.1)))] H → va_D A [(o, .inr (5, [.ref gi, .ref ge, .ref gt, .ref go, .ref gb, .ref gm, .ref gl, .int (nI i0.2), .int (nI e0.2), .int (nI t0.2), .int (nI mk), .int (nI L0.2)])), (gi, .inl (ci, 160, .inl (iN i0.1))), (gm, .inl (cm1, 160, .inl (zN q3.1)))] → va_S A s.heap H locs → W p l e (rmq 2 43) s m [.ref o, .int (nI a), .int (bI cs)].toArray below meth c H locs 0 0 (MQ below (qcU (some (.int (bI ((mfl i0.1 i0.2 cs a m0).2)))) (dC, dI) [(o, .inr (5, [.ref gi, .ref ge, .ref gt, .ref go, .ref gb, .ref gm, .ref gl, .int (nI i0.2), .int (nI e0.2), .int (nI t0.2), .int (nI mk), .int (nI L0.2)])), (gi, .inl (ci, 160, .inl (iN i0.1))), (gm, .inl (cm1, 160, .inl (zN ((mfl i0.1 i0.2 cs a m0).1))))] A) [.ref o, .int (nI a), .int (bI cs)].toArray s 0 0 A) (F0 m 144 ls []) := by
          intro q3 ls H locs hq3 hl hP hD hS
          refine lv_iload hx hb d_Mo_follow_144 (lv_at hl 0 rfl) ?_
          rw [hmf, ← hq1, ← hq2, ← hq3]
          exact eUz hx hb hr hlocks (bI_narrow _) hP hD hS [0, 1, 2] rfl rfl (by decide) d_Mo_follow_146 (rfl)
        refine lv_iload hx hb d_Mo_follow_107 (lv_at hl 1 rfl) ?_
        refine lv_bipush (v := nI 96) hx hb d_Mo_follow_109 (by decide) ?_
        refine z_icmp_lt (tgt := 144) hx hb d_Mo_follow_111 (tI_n (by omega)) (tI_n (by omega)) (by decide) (fun g111 => ?_) (fun g111 => ?_)
        · exact cut144 (q2.1, q2.2) _ _ _ (by rw [fw3, if_neg (by omega)]) (lv_sub hl [0, 1, 2, 3, 4, 5] rfl) (hP.sub [0, 1, 2] rfl) (hD.sub [0, 1, 2] (by decide) rfl) hS
        · refine lv_iload hx hb d_Mo_follow_114 (lv_at hl 1 rfl) ?_
          refine lv_bipush (v := nI 99) hx hb d_Mo_follow_116 (by decide) ?_
          refine z_icmp_gt (tgt := 144) hx hb d_Mo_follow_118 (tI_n (by omega)) (tI_n (by omega)) (by decide) (fun g118 => ?_) (fun g118 => ?_)
          · exact cut144 (q2.1, q2.2) _ _ _ (by rw [fw3, if_neg (by omega)]) (lv_sub hl [0, 1, 2, 3, 4, 5] rfl) (hP.sub [0, 1, 2] rfl) (hD.sub [0, 1, 2] (by decide) rfl) hS
          · have hl2 := lgO_2 (f := i0.1 a) (by omega) (by omega)
            refine lv_aload_n hx hb d_Mo_follow_121 rfl (lv_at hl 3 rfl) ?_
            refine lv_iload_n hx hb d_Mo_follow_122 rfl (lv_at hl 4 rfl) ?_
            refine lv_iload_n hx hb d_Mo_follow_123 rfl (lv_at hl 2 rfl) ?_
            refine nAdd hx hb d_Mo_follow_124 ?_
            refine lv_aload_n hx hb d_Mo_follow_125 rfl (lv_at hl 3 rfl) ?_
            refine va_get (D := (dC, dI)) (ci := 5) (v := .ref gi) (C := R_Mo) (T := F_Mo) (N := 12) hx hb ht in_Mo hown hK hP 0 rfl rfl 0 (by decide) (ht _ k_491) (fun _ h9 => h9) rfl d_Mo_follow_126 ?_
            refine lv_iload_n hx hb d_Mo_follow_129 rfl (lv_at hl 4 rfl) ?_
            refine lv_iconst (v := nI 1) hx hb d_Mo_follow_130 (by decide) ?_
            refine nAdd hx hb d_Mo_follow_131 ?_
            refine ldI (q0 := 1) (t0 := 0) hx hb d_Mo_follow_132 hK hP rfl rfl (by omega) (by decide) ?_
            refine lv_i2b (v := iI (sx8 (i0.1 (a + 1)))) hx hb d_Mo_follow_133 (i2b_n hb1) ?_
            refine zAdd hx hb d_Mo_follow_134 (nI_iI _) rfl ?_
            refine uV (As := [.int (iI (((a + (mLen i0.1 i0.2 ((a : Nat) : Int)) : Nat) : Int) + (sx8 (i0.1 (a + 1)))))]) (rest := []) (wr := [(gi, .inl (ci, 160, .inl (iN i0.1)))]) hx hb hml hown ht (c_Mo_set l dC dI z _ o gi ge gt go gb gm gl i0 e0 t0 mk L0 cm1 q2.1 (iI (((a + (mLen i0.1 i0.2 ((a : Nat) : Int)) : Nat) : Int) + (sx8 (i0.1 (a + 1))))) (((a + (mLen i0.1 i0.2 ((a : Nat) : Int)) : Nat) : Int) + (sx8 (i0.1 (a + 1)))) (by first | assumption | omega) (iI_toInt (by omega) (by omega))) yv_Mo_set k_580 (Nat.le_of_ble_eq_true rfl) (Nat.le_of_ble_eq_true rfl) hP hK hSS hD hS hA [0, 2] [1] [1] rfl rfl (by decide) rfl (by decide) (by decide) rfl 0 5 rfl rfl rfl hl rfl rfl (Nat.le_of_ble_eq_true rfl) (Nat.zero_le _) (Nat.zero_le _) d_Mo_follow_135 (fun H locs hP hD hS => ?_)
            have hP : va_P (dC, dI) classes [(gi, .inl (ci, 160, .inl (iN i0.1))), (o, .inr (5, [.ref gi, .ref ge, .ref gt, .ref go, .ref gb, .ref gm, .ref gl, .int (nI i0.2), .int (nI e0.2), .int (nI t0.2), .int (nI mk), .int (nI L0.2)])), (gm, .inl (cm1, 160, .inl (zN (msM i0.2 q2.1 (((a + (mLen i0.1 i0.2 ((a : Nat) : Int)) : Nat) : Int) + (sx8 (i0.1 (a + 1))))))))] H := hP
            have hD : va_D A [(gi, .inl (ci, 160, .inl (iN i0.1))), (o, .inr (5, [.ref gi, .ref ge, .ref gt, .ref go, .ref gb, .ref gm, .ref gl, .int (nI i0.2), .int (nI e0.2), .int (nI t0.2), .int (nI mk), .int (nI L0.2)])), (gm, .inl (cm1, 160, .inl (zN (msM i0.2 q2.1 (((a + (mLen i0.1 i0.2 ((a : Nat) : Int)) : Nat) : Int) + (sx8 (i0.1 (a + 1))))))))] := hD
            refine stk (st2 := [.int (bI (msN i0.2 q2.1 (((a + (mLen i0.1 i0.2 ((a : Nat) : Int)) : Nat) : Int) + (sx8 (i0.1 (a + 1))))))]) rfl ?_
            refine b_if_eq (tgt := 144) hx hb d_Mo_follow_138 (by decide) (fun g138 => ?_) (fun g138 => ?_)
            · exact cut144 (msM i0.2 q2.1 (((a + (mLen i0.1 i0.2 ((a : Nat) : Int)) : Nat) : Int) + (sx8 (i0.1 (a + 1)))), q2.2) _ _ _ (by rw [fw3, if_pos ⟨by omega, by omega⟩, ms1_f g138]) (lv_sub hl [0, 1, 2, 3, 4, 5] rfl) (hP.sub [1, 0, 2] rfl) (hD.sub [1, 0, 2] (by decide) rfl) hS
            · refine lv_iconst (v := nI 1) hx hb d_Mo_follow_141 (by decide) ?_
              refine eqi (y := bI true) (by decide) ?_
              refine lv_istore (lv' := [(5, .int (bI true)), (4, .int (nI (i0.1 a))), (3, .int (nI (mLen i0.1 i0.2 ((a : Nat) : Int)))), (0, .ref o), (1, .int (nI a)), (2, .int (bI cs))]) hx hb d_Mo_follow_142 hl (Nat.le_of_ble_eq_true rfl) rfl (fun ls hl => ?_)
              exact cut144 (msM i0.2 q2.1 (((a + (mLen i0.1 i0.2 ((a : Nat) : Int)) : Nat) : Int) + (sx8 (i0.1 (a + 1)))), true) _ _ _ (by rw [fw3, if_pos ⟨by omega, by omega⟩, ms1_t g138]) (lv_sub hl [0, 1, 2, 3, 4, 5] rfl) (hP.sub [1, 0, 2] rfl) (hD.sub [1, 0, 2] (by decide) rfl) hS
      refine lv_iload hx hb d_Mo_follow_51 (lv_at hl 1 rfl) ?_
      refine lv_bipush (v := nI 80) hx hb d_Mo_follow_53 (by decide) ?_
      refine z_icmp_lt (tgt := 107) hx hb d_Mo_follow_55 (tI_n (by omega)) (tI_n (by omega)) (by decide) (fun g55 => ?_) (fun g55 => ?_)
      · exact cut107 (q1.1, q1.2) _ _ _ (by rw [fw2, if_neg (by first | omega | (intro q; exact q.2.2.elim (fun w => by omega) (fun w => by rw [g73] at w; cases w)))]) (lv_sub hl [0, 1, 2, 3, 4, 5] rfl) (hP.sub [0, 1, 2] rfl) (hD.sub [0, 1, 2] (by decide) rfl) hS
      · refine lv_iload hx hb d_Mo_follow_58 (lv_at hl 1 rfl) ?_
        refine lv_bipush (v := nI 85) hx hb d_Mo_follow_60 (by decide) ?_
        refine z_icmp_gt (tgt := 107) hx hb d_Mo_follow_62 (tI_n (by omega)) (tI_n (by omega)) (by decide) (fun g62 => ?_) (fun g62 => ?_)
        · exact cut107 (q1.1, q1.2) _ _ _ (by rw [fw2, if_neg (by first | omega | (intro q; exact q.2.2.elim (fun w => by omega) (fun w => by rw [g73] at w; cases w)))]) (lv_sub hl [0, 1, 2, 3, 4, 5] rfl) (hP.sub [0, 1, 2] rfl) (hD.sub [0, 1, 2] (by decide) rfl) hS
        · have hl3 := lgO_3 (f := i0.1 a) (by omega) (by omega)
          refine lv_iload hx hb d_Mo_follow_65 (lv_at hl 1 rfl) ?_
          refine lv_bipush (v := nI 81) hx hb d_Mo_follow_67 (by decide) ?_
          refine z_icmp_ne (tgt := 76) hx hb d_Mo_follow_69 (tI_n (by omega)) (tI_n (by omega)) (by decide) (fun g69 => ?_) (fun g69 => ?_)
          · refine lv_aload_n hx hb d_Mo_follow_76 rfl (lv_at hl 3 rfl) ?_
            refine lv_sipush (v := nI 256) hx hb d_Mo_follow_77 (by decide) ?_
            refine lv_aload_n hx hb d_Mo_follow_80 rfl (lv_at hl 3 rfl) ?_
            refine va_get (D := (dC, dI)) (ci := 5) (v := .ref gi) (C := R_Mo) (T := F_Mo) (N := 12) hx hb ht in_Mo hown hK hP 0 rfl rfl 0 (by decide) (ht _ k_491) (fun _ h9 => h9) rfl d_Mo_follow_81 ?_
            refine lv_iload_n hx hb d_Mo_follow_84 rfl (lv_at hl 4 rfl) ?_
            refine lv_iconst (v := nI 1) hx hb d_Mo_follow_85 (by decide) ?_
            refine nAdd hx hb d_Mo_follow_86 ?_
            refine ldI (q0 := 1) (t0 := 0) hx hb d_Mo_follow_87 hK hP rfl rfl (by omega) (by decide) ?_
            refine nMul hx hb d_Mo_follow_88 ?_
            refine lv_aload_n hx hb d_Mo_follow_89 rfl (lv_at hl 3 rfl) ?_
            refine va_get (D := (dC, dI)) (ci := 5) (v := .ref gi) (C := R_Mo) (T := F_Mo) (N := 12) hx hb ht in_Mo hown hK hP 0 rfl rfl 0 (by decide) (ht _ k_491) (fun _ h9 => h9) rfl d_Mo_follow_90 ?_
            refine lv_iload_n hx hb d_Mo_follow_93 rfl (lv_at hl 4 rfl) ?_
            refine lv_iconst (v := nI 2) hx hb d_Mo_follow_94 (by decide) ?_
            refine nAdd hx hb d_Mo_follow_95 ?_
            refine ldI (q0 := 1) (t0 := 0) hx hb d_Mo_follow_96 hK hP rfl rfl (by omega) (by decide) ?_
            refine nAdd hx hb d_Mo_follow_97 ?_
            refine uV (As := [.int (nI ((256 * (i0.1 (a + 1))) + (i0.1 (a + 2))))]) (rest := []) (wr := [(gi, .inl (ci, 160, .inl (iN i0.1)))]) hx hb hml hown ht (c_Mo_set l dC dI z _ o gi ge gt go gb gm gl i0 e0 t0 mk L0 cm1 q1.1 (nI ((256 * (i0.1 (a + 1))) + (i0.1 (a + 2)))) (((256 * (i0.1 (a + 1))) + (i0.1 (a + 2)) : Nat) : Int) (by first | assumption | omega) (tI_n (by omega))) yv_Mo_set k_580 (Nat.le_of_ble_eq_true rfl) (Nat.le_of_ble_eq_true rfl) hP hK hSS hD hS hA [0, 2] [1] [1] rfl rfl (by decide) rfl (by decide) (by decide) rfl 0 5 rfl rfl rfl hl rfl rfl (Nat.le_of_ble_eq_true rfl) (Nat.zero_le _) (Nat.zero_le _) d_Mo_follow_98 (fun H locs hP hD hS => ?_)
            have hP : va_P (dC, dI) classes [(gi, .inl (ci, 160, .inl (iN i0.1))), (o, .inr (5, [.ref gi, .ref ge, .ref gt, .ref go, .ref gb, .ref gm, .ref gl, .int (nI i0.2), .int (nI e0.2), .int (nI t0.2), .int (nI mk), .int (nI L0.2)])), (gm, .inl (cm1, 160, .inl (zN (msM i0.2 q1.1 (((256 * (i0.1 (a + 1))) + (i0.1 (a + 2)) : Nat) : Int)))))] H := hP
            have hD : va_D A [(gi, .inl (ci, 160, .inl (iN i0.1))), (o, .inr (5, [.ref gi, .ref ge, .ref gt, .ref go, .ref gb, .ref gm, .ref gl, .int (nI i0.2), .int (nI e0.2), .int (nI t0.2), .int (nI mk), .int (nI L0.2)])), (gm, .inl (cm1, 160, .inl (zN (msM i0.2 q1.1 (((256 * (i0.1 (a + 1))) + (i0.1 (a + 2)) : Nat) : Int)))))] := hD
            refine stk (st2 := [.int (bI (msN i0.2 q1.1 (((256 * (i0.1 (a + 1))) + (i0.1 (a + 2)) : Nat) : Int)))]) rfl ?_
            refine b_if_eq (tgt := 107) hx hb d_Mo_follow_101 (by decide) (fun g101 => ?_) (fun g101 => ?_)
            · exact cut107 (msM i0.2 q1.1 (((256 * (i0.1 (a + 1))) + (i0.1 (a + 2)) : Nat) : Int), q1.2) _ _ _ (by rw [fw2, if_pos ⟨by omega, by omega, by first | (left; omega) | exact Or.inr g73⟩, mfw, ms1_f g101]) (lv_sub hl [0, 1, 2, 3, 4, 5] rfl) (hP.sub [1, 0, 2] rfl) (hD.sub [1, 0, 2] (by decide) rfl) hS
            · refine lv_iconst (v := nI 1) hx hb d_Mo_follow_104 (by decide) ?_
              refine eqi (y := bI true) (by decide) ?_
              refine lv_istore (lv' := [(5, .int (bI true)), (4, .int (nI (i0.1 a))), (3, .int (nI (mLen i0.1 i0.2 ((a : Nat) : Int)))), (0, .ref o), (1, .int (nI a)), (2, .int (bI cs))]) hx hb d_Mo_follow_105 hl (Nat.le_of_ble_eq_true rfl) rfl (fun ls hl => ?_)
              exact cut107 (msM i0.2 q1.1 (((256 * (i0.1 (a + 1))) + (i0.1 (a + 2)) : Nat) : Int), true) _ _ _ (by rw [fw2, if_pos ⟨by omega, by omega, by first | (left; omega) | exact Or.inr g73⟩, mfw, ms1_t g101]) (lv_sub hl [0, 1, 2, 3, 4, 5] rfl) (hP.sub [1, 0, 2] rfl) (hD.sub [1, 0, 2] (by decide) rfl) hS
          · refine lv_iload_n hx hb d_Mo_follow_72 rfl (lv_at hl 5 rfl) ?_
            refine b_if_eq (tgt := 107) hx hb d_Mo_follow_73 (by decide) (fun g73 => ?_) (fun g73 => ?_)
            · exact cut107 (q1.1, q1.2) _ _ _ (by rw [fw2, if_neg (by first | omega | (intro q; exact q.2.2.elim (fun w => by omega) (fun w => by rw [g73] at w; cases w)))]) (lv_sub hl [0, 1, 2, 3, 4, 5] rfl) (hP.sub [0, 1, 2] rfl) (hD.sub [0, 1, 2] (by decide) rfl) hS
            · refine lv_aload_n hx hb d_Mo_follow_76 rfl (lv_at hl 3 rfl) ?_
              refine lv_sipush (v := nI 256) hx hb d_Mo_follow_77 (by decide) ?_
              refine lv_aload_n hx hb d_Mo_follow_80 rfl (lv_at hl 3 rfl) ?_
              refine va_get (D := (dC, dI)) (ci := 5) (v := .ref gi) (C := R_Mo) (T := F_Mo) (N := 12) hx hb ht in_Mo hown hK hP 0 rfl rfl 0 (by decide) (ht _ k_491) (fun _ h9 => h9) rfl d_Mo_follow_81 ?_
              refine lv_iload_n hx hb d_Mo_follow_84 rfl (lv_at hl 4 rfl) ?_
              refine lv_iconst (v := nI 1) hx hb d_Mo_follow_85 (by decide) ?_
              refine nAdd hx hb d_Mo_follow_86 ?_
              refine ldI (q0 := 1) (t0 := 0) hx hb d_Mo_follow_87 hK hP rfl rfl (by omega) (by decide) ?_
              refine nMul hx hb d_Mo_follow_88 ?_
              refine lv_aload_n hx hb d_Mo_follow_89 rfl (lv_at hl 3 rfl) ?_
              refine va_get (D := (dC, dI)) (ci := 5) (v := .ref gi) (C := R_Mo) (T := F_Mo) (N := 12) hx hb ht in_Mo hown hK hP 0 rfl rfl 0 (by decide) (ht _ k_491) (fun _ h9 => h9) rfl d_Mo_follow_90 ?_
              refine lv_iload_n hx hb d_Mo_follow_93 rfl (lv_at hl 4 rfl) ?_
              refine lv_iconst (v := nI 2) hx hb d_Mo_follow_94 (by decide) ?_
              refine nAdd hx hb d_Mo_follow_95 ?_
              refine ldI (q0 := 1) (t0 := 0) hx hb d_Mo_follow_96 hK hP rfl rfl (by omega) (by decide) ?_
              refine nAdd hx hb d_Mo_follow_97 ?_
              refine uV (As := [.int (nI ((256 * (i0.1 (a + 1))) + (i0.1 (a + 2))))]) (rest := []) (wr := [(gi, .inl (ci, 160, .inl (iN i0.1)))]) hx hb hml hown ht (c_Mo_set l dC dI z _ o gi ge gt go gb gm gl i0 e0 t0 mk L0 cm1 q1.1 (nI ((256 * (i0.1 (a + 1))) + (i0.1 (a + 2)))) (((256 * (i0.1 (a + 1))) + (i0.1 (a + 2)) : Nat) : Int) (by first | assumption | omega) (tI_n (by omega))) yv_Mo_set k_580 (Nat.le_of_ble_eq_true rfl) (Nat.le_of_ble_eq_true rfl) hP hK hSS hD hS hA [0, 2] [1] [1] rfl rfl (by decide) rfl (by decide) (by decide) rfl 0 5 rfl rfl rfl hl rfl rfl (Nat.le_of_ble_eq_true rfl) (Nat.zero_le _) (Nat.zero_le _) d_Mo_follow_98 (fun H locs hP hD hS => ?_)
              have hP : va_P (dC, dI) classes [(gi, .inl (ci, 160, .inl (iN i0.1))), (o, .inr (5, [.ref gi, .ref ge, .ref gt, .ref go, .ref gb, .ref gm, .ref gl, .int (nI i0.2), .int (nI e0.2), .int (nI t0.2), .int (nI mk), .int (nI L0.2)])), (gm, .inl (cm1, 160, .inl (zN (msM i0.2 q1.1 (((256 * (i0.1 (a + 1))) + (i0.1 (a + 2)) : Nat) : Int)))))] H := hP
              have hD : va_D A [(gi, .inl (ci, 160, .inl (iN i0.1))), (o, .inr (5, [.ref gi, .ref ge, .ref gt, .ref go, .ref gb, .ref gm, .ref gl, .int (nI i0.2), .int (nI e0.2), .int (nI t0.2), .int (nI mk), .int (nI L0.2)])), (gm, .inl (cm1, 160, .inl (zN (msM i0.2 q1.1 (((256 * (i0.1 (a + 1))) + (i0.1 (a + 2)) : Nat) : Int)))))] := hD
              refine stk (st2 := [.int (bI (msN i0.2 q1.1 (((256 * (i0.1 (a + 1))) + (i0.1 (a + 2)) : Nat) : Int)))]) rfl ?_
              refine b_if_eq (tgt := 107) hx hb d_Mo_follow_101 (by decide) (fun g101 => ?_) (fun g101 => ?_)
              · exact cut107 (msM i0.2 q1.1 (((256 * (i0.1 (a + 1))) + (i0.1 (a + 2)) : Nat) : Int), q1.2) _ _ _ (by rw [fw2, if_pos ⟨by omega, by omega, by first | (left; omega) | exact Or.inr g73⟩, mfw, ms1_f g101]) (lv_sub hl [0, 1, 2, 3, 4, 5] rfl) (hP.sub [1, 0, 2] rfl) (hD.sub [1, 0, 2] (by decide) rfl) hS
              · refine lv_iconst (v := nI 1) hx hb d_Mo_follow_104 (by decide) ?_
                refine eqi (y := bI true) (by decide) ?_
                refine lv_istore (lv' := [(5, .int (bI true)), (4, .int (nI (i0.1 a))), (3, .int (nI (mLen i0.1 i0.2 ((a : Nat) : Int)))), (0, .ref o), (1, .int (nI a)), (2, .int (bI cs))]) hx hb d_Mo_follow_105 hl (Nat.le_of_ble_eq_true rfl) rfl (fun ls hl => ?_)
                exact cut107 (msM i0.2 q1.1 (((256 * (i0.1 (a + 1))) + (i0.1 (a + 2)) : Nat) : Int), true) _ _ _ (by rw [fw2, if_pos ⟨by omega, by omega, by first | (left; omega) | exact Or.inr g73⟩, mfw, ms1_t g101]) (lv_sub hl [0, 1, 2, 3, 4, 5] rfl) (hP.sub [1, 0, 2] rfl) (hD.sub [1, 0, 2] (by decide) rfl) hS
    refine lv_iload hx hb d_Mo_follow_23 (lv_at hl 1 rfl) ?_
    refine lv_iconst (v := nI 1) hx hb d_Mo_follow_25 (by decide) ?_
    refine z_icmp_eq (tgt := 51) hx hb d_Mo_follow_26 (tI_n (by omega)) (tI_n (by omega)) (by decide) (fun g26 => ?_) (fun g26 => ?_)
    · exact cut51 (m0, false) _ _ _ (by rw [fw1, if_neg (by omega)]) (lv_sub hl [0, 1, 2, 3, 4, 5] rfl) (hP.sub [0, 1, 2] rfl) (hD.sub [0, 1, 2] (by decide) rfl) hS
    · refine lv_iload hx hb d_Mo_follow_29 (lv_at hl 1 rfl) ?_
      refine lv_iconst (v := nI 2) hx hb d_Mo_follow_31 (by decide) ?_
      refine z_icmp_eq (tgt := 51) hx hb d_Mo_follow_32 (tI_n (by omega)) (tI_n (by omega)) (by decide) (fun g32 => ?_) (fun g32 => ?_)
      · exact cut51 (m0, false) _ _ _ (by rw [fw1, if_neg (by omega)]) (lv_sub hl [0, 1, 2, 3, 4, 5] rfl) (hP.sub [0, 1, 2] rfl) (hD.sub [0, 1, 2] (by decide) rfl) hS
      · refine lv_iload hx hb d_Mo_follow_35 (lv_at hl 1 rfl) ?_
        refine lv_bipush (v := nI 80) hx hb d_Mo_follow_37 (by decide) ?_
        refine z_icmp_eq (tgt := 51) hx hb d_Mo_follow_39 (tI_n (by omega)) (tI_n (by omega)) (by decide) (fun g39 => ?_) (fun g39 => ?_)
        · exact cut51 (m0, false) _ _ _ (by rw [fw1, if_neg (by omega)]) (lv_sub hl [0, 1, 2, 3, 4, 5] rfl) (hP.sub [0, 1, 2] rfl) (hD.sub [0, 1, 2] (by decide) rfl) hS
        · refine lv_aload_n hx hb d_Mo_follow_42 rfl (lv_at hl 3 rfl) ?_
          refine lv_iload_n hx hb d_Mo_follow_43 rfl (lv_at hl 4 rfl) ?_
          refine lv_iload_n hx hb d_Mo_follow_44 rfl (lv_at hl 2 rfl) ?_
          refine nAdd hx hb d_Mo_follow_45 ?_
          refine uV (As := [.int (nI (a + (mLen i0.1 i0.2 ((a : Nat) : Int))))]) (rest := []) (wr := [(gi, .inl (ci, 160, .inl (iN i0.1)))]) hx hb hml hown ht (c_Mo_set l dC dI z _ o gi ge gt go gb gm gl i0 e0 t0 mk L0 cm1 m0 (nI (a + (mLen i0.1 i0.2 ((a : Nat) : Int)))) ((a + (mLen i0.1 i0.2 ((a : Nat) : Int)) : Nat) : Int) (by first | assumption | omega) (tI_n (by omega))) yv_Mo_set k_580 (Nat.le_of_ble_eq_true rfl) (Nat.le_of_ble_eq_true rfl) hP hK hSS hD hS hA [0, 2] [1] [1] rfl rfl (by decide) rfl (by decide) (by decide) rfl 0 5 rfl rfl rfl hl rfl rfl (Nat.le_of_ble_eq_true rfl) (Nat.zero_le _) (Nat.zero_le _) d_Mo_follow_46 (fun H locs hP hD hS => ?_)
          have hP : va_P (dC, dI) classes [(gi, .inl (ci, 160, .inl (iN i0.1))), (o, .inr (5, [.ref gi, .ref ge, .ref gt, .ref go, .ref gb, .ref gm, .ref gl, .int (nI i0.2), .int (nI e0.2), .int (nI t0.2), .int (nI mk), .int (nI L0.2)])), (gm, .inl (cm1, 160, .inl (zN (msM i0.2 m0 ((a + (mLen i0.1 i0.2 ((a : Nat) : Int)) : Nat) : Int)))))] H := hP
          have hD : va_D A [(gi, .inl (ci, 160, .inl (iN i0.1))), (o, .inr (5, [.ref gi, .ref ge, .ref gt, .ref go, .ref gb, .ref gm, .ref gl, .int (nI i0.2), .int (nI e0.2), .int (nI t0.2), .int (nI mk), .int (nI L0.2)])), (gm, .inl (cm1, 160, .inl (zN (msM i0.2 m0 ((a + (mLen i0.1 i0.2 ((a : Nat) : Int)) : Nat) : Int)))))] := hD
          refine stk (st2 := [.int (bI (msN i0.2 m0 ((a + (mLen i0.1 i0.2 ((a : Nat) : Int)) : Nat) : Int)))]) rfl ?_
          refine lv_istore (lv' := [(5, .int (bI (msN i0.2 m0 ((a + (mLen i0.1 i0.2 ((a : Nat) : Int)) : Nat) : Int)))), (4, .int (nI (i0.1 a))), (3, .int (nI (mLen i0.1 i0.2 ((a : Nat) : Int)))), (0, .ref o), (1, .int (nI a)), (2, .int (bI cs))]) hx hb d_Mo_follow_49 hl (Nat.le_of_ble_eq_true rfl) rfl (fun ls hl => ?_)
          exact cut51 (msM i0.2 m0 ((a + (mLen i0.1 i0.2 ((a : Nat) : Int)) : Nat) : Int), msN i0.2 m0 ((a + (mLen i0.1 i0.2 ((a : Nat) : Int)) : Nat) : Int)) _ _ _ (by rw [fw1, if_pos (by omega)]; rfl) (lv_sub hl [0, 1, 2, 3, 4, 5] rfl) (hP.sub [1, 0, 2] rfl) (hD.sub [1, 0, 2] (by decide) rfl) hS
  · have hmf := mfl_0 (cs := cs) (m := m0) (show mLen i0.1 i0.2 (a : Int) = 0 by omega)
    refine lv_iconst (v := nI 0) hx hb d_Mo_follow_18 (by decide) ?_
    refine eqi (y := bI false) (by decide) ?_
    rw [hmf]
    exact eUz hx hb hr hlocks (bI_narrow _) hP hD hS [0, 1, 2] rfl rfl (by decide) d_Mo_follow_19 (rfl)

set_option maxHeartbeats 4000000 in
set_option maxRecDepth 100000 in
theorem c_Mo_wipe (l : Launch) (dC : Nat → ClassId) (dI : Nat → Nat → Nat) (z : zT) (sz : Nat) (o : Nat) (gi : Nat) (ge : Nat) (gt : Nat) (go : Nat) (gb : Nat) (gm : Nat) (gl : Nat) (i0 : txT) (e0 : txT) (t0 : txT) (mk : Nat) (L0 : txT) (cm1 : ClassId) (m0 : Nat → Bool) : MU l y_Mo_wipe b_Mo_wipe 2 none 0 0 (dC, dI) z [.ref o] [(o, .inr (5, [.ref gi, .ref ge, .ref gt, .ref go, .ref gb, .ref gm, .ref gl, .int (nI i0.2), .int (nI e0.2), .int (nI t0.2), .int (nI mk), .int (nI L0.2)])), (gm, .inl (cm1, 160, .inl (zN m0)))] [(cm1, .boolean)] sz none [(o, .inr (5, [.ref gi, .ref ge, .ref gt, .ref go, .ref gb, .ref gm, .ref gl, .int (nI i0.2), .int (nI e0.2), .int (nI t0.2), .int (nI mk), .int (nI L0.2)])), (gm, .inl (cm1, 160, .inl (zN (fun _ => false))))] := by
  refine metU (by decide) (Nat.le_of_ble_eq_true rfl) ?_
  intro p e s m below meth c ls A hx hb hr hlocks hml hown ht hl hP hK hSS hD hS hA
  have hl : lv_has ls 2 [(0, .ref o)] := hl
  refine lv_iconst (v := nI 0) hx hb d_Mo_wipe_0 (by decide) ?_
  refine lv_istore_n (lv' := [(1, .int (nI 0)), (0, .ref o)]) hx hb d_Mo_wipe_1 rfl hl (Nat.le_of_ble_eq_true rfl) rfl (fun ls hl => ?_)
  have loop2 : ∀ (j : Nat) (k : Nat) (g : Nat → Bool) (ls : Array Slot) (H : Heap) (locs : List Loc), (k + j = 160) → (∀ i, i < k → g i = false) → lv_has ls 2 [(1, .int (nI k)), (0, .ref o)] → va_P (dC, dI) classes [(o, .inr (5, [.ref gi, .ref ge, .ref gt, .ref go, .ref gb, .ref gm, .ref gl, .int (nI i0.2), .int (nI e0.2), .int (nI t0.2), .int (nI mk), .int (nI L0.2)])), (gm, .inl (cm1, 160, .inl (zN g)))] H → va_D A [(o, .inr (5, [.ref gi, .ref ge, .ref gt, .ref go, .ref gb, .ref gm, .ref gl, .int (nI i0.2), .int (nI e0.2), .int (nI t0.2), .int (nI mk), .int (nI L0.2)])), (gm, .inl (cm1, 160, .inl (zN g)))] → va_S A s.heap H locs → W p l e (rmq 0 0) s m [.ref o].toArray below meth c H locs 0 0 (MQ below (qcU none (dC, dI) [(o, .inr (5, [.ref gi, .ref ge, .ref gt, .ref go, .ref gb, .ref gm, .ref gl, .int (nI i0.2), .int (nI e0.2), .int (nI t0.2), .int (nI mk), .int (nI L0.2)])), (gm, .inl (cm1, 160, .inl (zN (fun _ => false))))] A) [.ref o].toArray s 0 0 A) (F0 m 2 ls []) := by
    intro j
    induction j with
    | zero =>
      intro k g ls H locs hk hg hl hP hD hS
      refine lv_iload_n hx hb d_Mo_wipe_2 rfl (lv_at hl 0 rfl) ?_
      refine lv_sipush (v := nI 160) hx hb d_Mo_wipe_3 (by decide) ?_
      refine z_icmp_ge (tgt := 22) hx hb d_Mo_wipe_6 (tI_n (by omega)) (tI_n (by omega)) (by decide) (fun g6 => ?_) (fun g6 => ?_)
      · have hP : va_P (dC, dI) classes [(o, .inr (5, [.ref gi, .ref ge, .ref gt, .ref go, .ref gb, .ref gm, .ref gl, .int (nI i0.2), .int (nI e0.2), .int (nI t0.2), .int (nI mk), .int (nI L0.2)])), (gm, .inl (cm1, 160, .inl (zN (fun _ => false))))] H := hP.chg 1 rfl (fun i hi => by show bI (g i) = bI false; rw [hg i (by omega)]) rfl
        have hD : va_D A [(o, .inr (5, [.ref gi, .ref ge, .ref gt, .ref go, .ref gb, .ref gm, .ref gl, .int (nI i0.2), .int (nI e0.2), .int (nI t0.2), .int (nI mk), .int (nI L0.2)])), (gm, .inl (cm1, 160, .inl (zN (fun _ => false))))] := hD.chg 1 rfl rfl
        exact eUv hx hb hr hlocks hP hD hS [0, 1] rfl rfl (by decide) d_Mo_wipe_22
      · exfalso; omega
    | succ j ih =>
      intro k g ls H locs hk hg hl hP hD hS
      refine lv_iload_n hx hb d_Mo_wipe_2 rfl (lv_at hl 0 rfl) ?_
      refine lv_sipush (v := nI 160) hx hb d_Mo_wipe_3 (by decide) ?_
      refine z_icmp_ge (tgt := 22) hx hb d_Mo_wipe_6 (tI_n (by omega)) (tI_n (by omega)) (by decide) (fun g6 => ?_) (fun g6 => ?_)
      · exfalso; omega
      · refine lv_aload_n hx hb d_Mo_wipe_9 rfl (lv_at hl 1 rfl) ?_
        refine va_get (D := (dC, dI)) (ci := 5) (v := .ref gm) (C := R_Mo) (T := F_Mo) (N := 12) hx hb ht in_Mo hown hK hP 0 rfl rfl 5 (by decide) (ht _ k_496) (fun _ h9 => h9) rfl d_Mo_wipe_10 ?_
        refine lv_iload_n hx hb d_Mo_wipe_13 rfl (lv_at hl 0 rfl) ?_
        refine lv_iconst (v := nI 0) hx hb d_Mo_wipe_14 (by decide) ?_
        refine eqi (y := bI false) (by decide) ?_
        refine stZ (q0 := 1) (t0 := 0) (w1 := [(o, .inr (5, [.ref gi, .ref ge, .ref gt, .ref go, .ref gb, .ref gm, .ref gl, .int (nI i0.2), .int (nI e0.2), .int (nI t0.2), .int (nI mk), .int (nI L0.2)])), (gm, .inl (cm1, 160, .inl (zN (updB g k false))))]) hx hb d_Mo_wipe_15 hK hP hD hS rfl rfl (by omega) (by decide) rfl (fun H locs hP hD hS => ?_)
        refine lv_iinc (k := 0) (v := nI (k + 1)) (lv' := [(1, .int (nI (k + 1))), (0, .ref o)]) hx hb d_Mo_wipe_16 hl rfl (nI_inc1 _) (Nat.le_of_ble_eq_true rfl) rfl (fun ls hl => ?_)
        refine lv_goto (tgt := 2) hx hb d_Mo_wipe_19 (by decide) ?_
        exact ih (k + 1) (updB g k false) _ _ _ (by omega) (clr_step hg) (lv_sub hl [0, 1] rfl) (hP.sub [0, 1] rfl) (hD.sub [0, 1] (by decide) rfl) hS
  exact loop2 160 0 m0 _ _ _ (rfl) (fun i hi => absurd hi (Nat.not_lt_zero _)) (lv_sub hl [0, 1] rfl) (hP.sub [0, 1] rfl) (hD.sub [0, 1] (by decide) rfl) hS

set_option maxHeartbeats 4000000 in
set_option maxRecDepth 100000 in
theorem c_Mo_close (l : Launch) (dC : Nat → ClassId) (dI : Nat → Nat → Nat) (z : zT) (sz : Nat) (o : Nat) (gi : Nat) (ge : Nat) (gt : Nat) (go : Nat) (gb : Nat) (gm : Nat) (gl : Nat) (i0 : txT) (e0 : txT) (t0 : txT) (mk : Nat) (L0 : txT) (ci : ClassId) (cm1 : ClassId) (m0 : Nat → Bool) (cs : Bool) (hn : i0.2 ≤ 160) (hb8 : ∀ i, i0.1 i < 256) : MU l y_Mo_close b_Mo_close 5 (some .int) 3 68 (dC, dI) z [.ref o, .int (bI cs)] [(o, .inr (5, [.ref gi, .ref ge, .ref gt, .ref go, .ref gb, .ref gm, .ref gl, .int (nI i0.2), .int (nI e0.2), .int (nI t0.2), .int (nI mk), .int (nI L0.2)])), (gi, .inl (ci, 160, .inl (iN i0.1))), (gm, .inl (cm1, 160, .inl (zN m0)))] [(ci, .int), (cm1, .boolean)] sz (some (.int (nI (cntB (mcF (mtg i0.1 i0.2 cs) i0.2 1000 (m0, true)).1 i0.2)))) [(o, .inr (5, [.ref gi, .ref ge, .ref gt, .ref go, .ref gb, .ref gm, .ref gl, .int (nI i0.2), .int (nI e0.2), .int (nI t0.2), .int (nI mk), .int (nI L0.2)])), (gi, .inl (ci, 160, .inl (iN i0.1))), (gm, .inl (cm1, 160, .inl (zN ((mcF (mtg i0.1 i0.2 cs) i0.2 1000 (m0, true)).1))))] := by
  refine metU (by decide) (Nat.le_of_ble_eq_true rfl) ?_
  intro p e s m below meth c ls A hx hb hr hlocks hml hown ht hl hP hK hSS hD hS hA
  have hl : lv_has ls 5 [(0, .ref o), (1, .int (bI cs))] := hl
  refine lv_iconst (v := nI 1) hx hb d_Mo_close_0 (by decide) ?_
  refine eqi (y := bI true) (by decide) ?_
  refine lv_istore_n (lv' := [(2, .int (bI true)), (0, .ref o), (1, .int (bI cs))]) hx hb d_Mo_close_1 rfl hl (Nat.le_of_ble_eq_true rfl) rfl (fun ls hl => ?_)
  refine lv_iconst (v := nI 0) hx hb d_Mo_close_2 (by decide) ?_
  refine lv_istore_n (lv' := [(3, .int (nI 0)), (2, .int (bI true)), (0, .ref o), (1, .int (bI cs))]) hx hb d_Mo_close_3 rfl hl (Nat.le_of_ble_eq_true rfl) rfl (fun ls hl => ?_)
  have loop4 : ∀ (j : Nat) (i : Nat) (q : mkT) (ls : Array Slot) (H : Heap) (locs : List Loc), (i + j = 1000) → (mcF (mtg i0.1 i0.2 cs) i0.2 1000 (m0, true) = mcF (mtg i0.1 i0.2 cs) i0.2 j q) → lv_has ls 5 [(3, .int (nI i)), (2, .int (bI q.2)), (0, .ref o), (1, .int (bI cs))] → va_P (dC, dI) classes [(o, .inr (5, [.ref gi, .ref ge, .ref gt, .ref go, .ref gb, .ref gm, .ref gl, .int (nI i0.2), .int (nI e0.2), .int (nI t0.2), .int (nI mk), .int (nI L0.2)])), (gi, .inl (ci, 160, .inl (iN i0.1))), (gm, .inl (cm1, 160, .inl (zN q.1)))] H → va_D A [(o, .inr (5, [.ref gi, .ref ge, .ref gt, .ref go, .ref gb, .ref gm, .ref gl, .int (nI i0.2), .int (nI e0.2), .int (nI t0.2), .int (nI mk), .int (nI L0.2)])), (gi, .inl (ci, 160, .inl (iN i0.1))), (gm, .inl (cm1, 160, .inl (zN q.1)))] → va_S A s.heap H locs → W p l e (rmq 3 68) s m [.ref o, .int (bI cs)].toArray below meth c H locs 0 0 (MQ below (qcU (some (.int (nI (cntB (mcF (mtg i0.1 i0.2 cs) i0.2 1000 (m0, true)).1 i0.2)))) (dC, dI) [(o, .inr (5, [.ref gi, .ref ge, .ref gt, .ref go, .ref gb, .ref gm, .ref gl, .int (nI i0.2), .int (nI e0.2), .int (nI t0.2), .int (nI mk), .int (nI L0.2)])), (gi, .inl (ci, 160, .inl (iN i0.1))), (gm, .inl (cm1, 160, .inl (zN ((mcF (mtg i0.1 i0.2 cs) i0.2 1000 (m0, true)).1))))] A) [.ref o, .int (bI cs)].toArray s 0 0 A) (F0 m 4 ls []) := by
    intro j
    induction j with
    | zero =>
      intro i q ls H locs hi hR hl hP hD hS
      have hRe : (mcF (mtg i0.1 i0.2 cs) i0.2 1000 (m0, true)) = q := hR
      refine lv_iload_n hx hb d_Mo_close_4 rfl (lv_at hl 0 rfl) ?_
      refine lv_sipush (v := nI 1000) hx hb d_Mo_close_5 (by decide) ?_
      refine z_icmp_ge (tgt := 63) hx hb d_Mo_close_8 (tI_n (by omega)) (tI_n (by omega)) (by decide) (fun g8 => ?_) (fun g8 => ?_)
      · refine lv_iconst (v := nI 0) hx hb d_Mo_close_63 (by decide) ?_
        refine lv_istore_n (lv' := [(3, .int (nI 0)), (2, .int (bI q.2)), (0, .ref o), (1, .int (bI cs))]) hx hb d_Mo_close_64 rfl hl (Nat.le_of_ble_eq_true rfl) rfl (fun ls hl => ?_)
        refine lv_iconst (v := nI 0) hx hb d_Mo_close_65 (by decide) ?_
        refine lv_istore (lv' := [(4, .int (nI 0)), (3, .int (nI 0)), (2, .int (bI q.2)), (0, .ref o), (1, .int (bI cs))]) hx hb d_Mo_close_66 hl (Nat.le_of_ble_eq_true rfl) rfl (fun ls hl => ?_)
        have loop68 : ∀ (j : Nat) (a : Nat) (k : Nat) (ls : Array Slot) (H : Heap) (locs : List Loc), (a + j = i0.2) → (k = cntB q.1 a) → (k ≤ a) → lv_has ls 5 [(4, .int (nI a)), (3, .int (nI k)), (2, .int (bI q.2)), (0, .ref o), (1, .int (bI cs))] → va_P (dC, dI) classes [(o, .inr (5, [.ref gi, .ref ge, .ref gt, .ref go, .ref gb, .ref gm, .ref gl, .int (nI i0.2), .int (nI e0.2), .int (nI t0.2), .int (nI mk), .int (nI L0.2)])), (gi, .inl (ci, 160, .inl (iN i0.1))), (gm, .inl (cm1, 160, .inl (zN q.1)))] H → va_D A [(o, .inr (5, [.ref gi, .ref ge, .ref gt, .ref go, .ref gb, .ref gm, .ref gl, .int (nI i0.2), .int (nI e0.2), .int (nI t0.2), .int (nI mk), .int (nI L0.2)])), (gi, .inl (ci, 160, .inl (iN i0.1))), (gm, .inl (cm1, 160, .inl (zN q.1)))] → va_S A s.heap H locs → W p l e (rmq 3 68) s m [.ref o, .int (bI cs)].toArray below meth c H locs 0 0 (MQ below (qcU (some (.int (nI (cntB (mcF (mtg i0.1 i0.2 cs) i0.2 1000 (m0, true)).1 i0.2)))) (dC, dI) [(o, .inr (5, [.ref gi, .ref ge, .ref gt, .ref go, .ref gb, .ref gm, .ref gl, .int (nI i0.2), .int (nI e0.2), .int (nI t0.2), .int (nI mk), .int (nI L0.2)])), (gi, .inl (ci, 160, .inl (iN i0.1))), (gm, .inl (cm1, 160, .inl (zN ((mcF (mtg i0.1 i0.2 cs) i0.2 1000 (m0, true)).1))))] A) [.ref o, .int (bI cs)].toArray s 0 0 A) (F0 m 68 ls []) := by
          intro j
          induction j with
          | zero =>
            intro a k ls H locs ha hc hka hl hP hD hS
            have hae : a = i0.2 := by omega
            refine lv_iload hx hb d_Mo_close_68 (lv_at hl 0 rfl) ?_
            refine lv_aload_n hx hb d_Mo_close_70 rfl (lv_at hl 3 rfl) ?_
            refine va_get (D := (dC, dI)) (ci := 5) (v := .int (nI i0.2)) (C := R_Mo) (T := F_Mo) (N := 12) hx hb ht in_Mo hown hK hP 0 rfl rfl 7 (by decide) (ht _ k_498) (fun _ h9 => h9) rfl d_Mo_close_71 ?_
            refine z_icmp_ge (tgt := 97) hx hb d_Mo_close_74 (tI_n (by omega)) (tI_n (by omega)) (by decide) (fun g74 => ?_) (fun g74 => ?_)
            · refine lv_iload_n hx hb d_Mo_close_97 rfl (lv_at hl 1 rfl) ?_
              rw [hRe]
              exact eUi hx hb hr hlocks hP hD hS [0, 1, 2] rfl rfl (by decide) d_Mo_close_98 (by rw [hc, hae])
            · exfalso; omega
          | succ j ih =>
            intro a k ls H locs ha hc hka hl hP hD hS
            refine lv_iload hx hb d_Mo_close_68 (lv_at hl 0 rfl) ?_
            refine lv_aload_n hx hb d_Mo_close_70 rfl (lv_at hl 3 rfl) ?_
            refine va_get (D := (dC, dI)) (ci := 5) (v := .int (nI i0.2)) (C := R_Mo) (T := F_Mo) (N := 12) hx hb ht in_Mo hown hK hP 0 rfl rfl 7 (by decide) (ht _ k_498) (fun _ h9 => h9) rfl d_Mo_close_71 ?_
            refine z_icmp_ge (tgt := 97) hx hb d_Mo_close_74 (tI_n (by omega)) (tI_n (by omega)) (by decide) (fun g74 => ?_) (fun g74 => ?_)
            · exfalso; omega
            · refine lv_aload_n hx hb d_Mo_close_77 rfl (lv_at hl 3 rfl) ?_
              refine va_get (D := (dC, dI)) (ci := 5) (v := .ref gm) (C := R_Mo) (T := F_Mo) (N := 12) hx hb ht in_Mo hown hK hP 0 rfl rfl 5 (by decide) (ht _ k_496) (fun _ h9 => h9) rfl d_Mo_close_78 ?_
              refine lv_iload hx hb d_Mo_close_81 (lv_at hl 0 rfl) ?_
              refine ldZ (q0 := 2) (t0 := 1) hx hb d_Mo_close_83 hK hP rfl rfl (by omega) (by decide) ?_
              refine b_if_eq (tgt := 91) hx hb d_Mo_close_84 (by decide) (fun g84 => ?_) (fun g84 => ?_)
              · refine lv_iinc (k := 0) (v := nI (a + 1)) (lv' := [(4, .int (nI (a + 1))), (3, .int (nI k)), (2, .int (bI q.2)), (0, .ref o), (1, .int (bI cs))]) hx hb d_Mo_close_91 hl rfl (nI_inc1 _) (Nat.le_of_ble_eq_true rfl) rfl (fun ls hl => ?_)
                refine lv_goto (tgt := 68) hx hb d_Mo_close_94 (by decide) ?_
                exact ih (a + 1) k _ _ _ (by omega) (by rw [cntB, if_neg (by rw [g84]; decide), ← hc]; rfl) (by omega) (lv_sub hl [0, 1, 2, 3, 4] rfl) (hP.sub [0, 1, 2] rfl) (hD.sub [0, 1, 2] (by decide) rfl) hS
              · refine lv_iload_n hx hb d_Mo_close_87 rfl (lv_at hl 1 rfl) ?_
                refine lv_iconst (v := nI 1) hx hb d_Mo_close_88 (by decide) ?_
                refine nAdd hx hb d_Mo_close_89 ?_
                refine lv_istore_n (lv' := [(3, .int (nI (k + 1))), (4, .int (nI a)), (2, .int (bI q.2)), (0, .ref o), (1, .int (bI cs))]) hx hb d_Mo_close_90 rfl hl (Nat.le_of_ble_eq_true rfl) rfl (fun ls hl => ?_)
                refine lv_iinc (k := 1) (v := nI (a + 1)) (lv' := [(4, .int (nI (a + 1))), (3, .int (nI (k + 1))), (2, .int (bI q.2)), (0, .ref o), (1, .int (bI cs))]) hx hb d_Mo_close_91 hl rfl (nI_inc1 _) (Nat.le_of_ble_eq_true rfl) rfl (fun ls hl => ?_)
                refine lv_goto (tgt := 68) hx hb d_Mo_close_94 (by decide) ?_
                exact ih (a + 1) (k + 1) _ _ _ (by omega) (by rw [cntB, if_pos g84, ← hc]) (by omega) (lv_sub hl [0, 1, 2, 3, 4] rfl) (hP.sub [0, 1, 2] rfl) (hD.sub [0, 1, 2] (by decide) rfl) hS
        exact loop68 i0.2 0 0 _ _ _ (Nat.zero_add _) (rfl) (Nat.le_refl _) (lv_sub hl [0, 1, 2, 3, 4] rfl) (hP.sub [0, 1, 2] rfl) (hD.sub [0, 1, 2] (by decide) rfl) hS
      · exfalso; omega
    | succ j ih =>
      intro i q ls H locs hi hR hl hP hD hS
      refine lv_iload_n hx hb d_Mo_close_4 rfl (lv_at hl 0 rfl) ?_
      refine lv_sipush (v := nI 1000) hx hb d_Mo_close_5 (by decide) ?_
      refine z_icmp_ge (tgt := 63) hx hb d_Mo_close_8 (tI_n (by omega)) (tI_n (by omega)) (by decide) (fun g8 => ?_) (fun g8 => ?_)
      · exfalso; omega
      · refine lv_iload_n hx hb d_Mo_close_11 rfl (lv_at hl 1 rfl) ?_
        refine b_if_eq (tgt := 63) hx hb d_Mo_close_12 (by decide) (fun g12 => ?_) (fun g12 => ?_)
        · have hRe : (mcF (mtg i0.1 i0.2 cs) i0.2 1000 (m0, true)) = q := by rw [hR, mcF, if_neg (by rw [g12]; decide)]
          refine lv_iconst (v := nI 0) hx hb d_Mo_close_63 (by decide) ?_
          refine lv_istore_n (lv' := [(3, .int (nI 0)), (2, .int (bI q.2)), (0, .ref o), (1, .int (bI cs))]) hx hb d_Mo_close_64 rfl hl (Nat.le_of_ble_eq_true rfl) rfl (fun ls hl => ?_)
          refine lv_iconst (v := nI 0) hx hb d_Mo_close_65 (by decide) ?_
          refine lv_istore (lv' := [(4, .int (nI 0)), (3, .int (nI 0)), (2, .int (bI q.2)), (0, .ref o), (1, .int (bI cs))]) hx hb d_Mo_close_66 hl (Nat.le_of_ble_eq_true rfl) rfl (fun ls hl => ?_)
          have loop68 : ∀ (j : Nat) (a : Nat) (k : Nat) (ls : Array Slot) (H : Heap) (locs : List Loc), (a + j = i0.2) → (k = cntB q.1 a) → (k ≤ a) → lv_has ls 5 [(4, .int (nI a)), (3, .int (nI k)), (2, .int (bI q.2)), (0, .ref o), (1, .int (bI cs))] → va_P (dC, dI) classes [(o, .inr (5, [.ref gi, .ref ge, .ref gt, .ref go, .ref gb, .ref gm, .ref gl, .int (nI i0.2), .int (nI e0.2), .int (nI t0.2), .int (nI mk), .int (nI L0.2)])), (gi, .inl (ci, 160, .inl (iN i0.1))), (gm, .inl (cm1, 160, .inl (zN q.1)))] H → va_D A [(o, .inr (5, [.ref gi, .ref ge, .ref gt, .ref go, .ref gb, .ref gm, .ref gl, .int (nI i0.2), .int (nI e0.2), .int (nI t0.2), .int (nI mk), .int (nI L0.2)])), (gi, .inl (ci, 160, .inl (iN i0.1))), (gm, .inl (cm1, 160, .inl (zN q.1)))] → va_S A s.heap H locs → W p l e (rmq 3 68) s m [.ref o, .int (bI cs)].toArray below meth c H locs 0 0 (MQ below (qcU (some (.int (nI (cntB (mcF (mtg i0.1 i0.2 cs) i0.2 1000 (m0, true)).1 i0.2)))) (dC, dI) [(o, .inr (5, [.ref gi, .ref ge, .ref gt, .ref go, .ref gb, .ref gm, .ref gl, .int (nI i0.2), .int (nI e0.2), .int (nI t0.2), .int (nI mk), .int (nI L0.2)])), (gi, .inl (ci, 160, .inl (iN i0.1))), (gm, .inl (cm1, 160, .inl (zN ((mcF (mtg i0.1 i0.2 cs) i0.2 1000 (m0, true)).1))))] A) [.ref o, .int (bI cs)].toArray s 0 0 A) (F0 m 68 ls []) := by
            intro j
            induction j with
            | zero =>
              intro a k ls H locs ha hc hka hl hP hD hS
              have hae : a = i0.2 := by omega
              refine lv_iload hx hb d_Mo_close_68 (lv_at hl 0 rfl) ?_
              refine lv_aload_n hx hb d_Mo_close_70 rfl (lv_at hl 3 rfl) ?_
              refine va_get (D := (dC, dI)) (ci := 5) (v := .int (nI i0.2)) (C := R_Mo) (T := F_Mo) (N := 12) hx hb ht in_Mo hown hK hP 0 rfl rfl 7 (by decide) (ht _ k_498) (fun _ h9 => h9) rfl d_Mo_close_71 ?_
              refine z_icmp_ge (tgt := 97) hx hb d_Mo_close_74 (tI_n (by omega)) (tI_n (by omega)) (by decide) (fun g74 => ?_) (fun g74 => ?_)
              · refine lv_iload_n hx hb d_Mo_close_97 rfl (lv_at hl 1 rfl) ?_
                rw [hRe]
                exact eUi hx hb hr hlocks hP hD hS [0, 1, 2] rfl rfl (by decide) d_Mo_close_98 (by rw [hc, hae])
              · exfalso; omega
            | succ j ih =>
              intro a k ls H locs ha hc hka hl hP hD hS
              refine lv_iload hx hb d_Mo_close_68 (lv_at hl 0 rfl) ?_
              refine lv_aload_n hx hb d_Mo_close_70 rfl (lv_at hl 3 rfl) ?_
              refine va_get (D := (dC, dI)) (ci := 5) (v := .int (nI i0.2)) (C := R_Mo) (T := F_Mo) (N := 12) hx hb ht in_Mo hown hK hP 0 rfl rfl 7 (by decide) (ht _ k_498) (fun _ h9 => h9) rfl d_Mo_close_71 ?_
              refine z_icmp_ge (tgt := 97) hx hb d_Mo_close_74 (tI_n (by omega)) (tI_n (by omega)) (by decide) (fun g74 => ?_) (fun g74 => ?_)
              · exfalso; omega
              · refine lv_aload_n hx hb d_Mo_close_77 rfl (lv_at hl 3 rfl) ?_
                refine va_get (D := (dC, dI)) (ci := 5) (v := .ref gm) (C := R_Mo) (T := F_Mo) (N := 12) hx hb ht in_Mo hown hK hP 0 rfl rfl 5 (by decide) (ht _ k_496) (fun _ h9 => h9) rfl d_Mo_close_78 ?_
                refine lv_iload hx hb d_Mo_close_81 (lv_at hl 0 rfl) ?_
                refine ldZ (q0 := 2) (t0 := 1) hx hb d_Mo_close_83 hK hP rfl rfl (by omega) (by decide) ?_
                refine b_if_eq (tgt := 91) hx hb d_Mo_close_84 (by decide) (fun g84 => ?_) (fun g84 => ?_)
                · refine lv_iinc (k := 0) (v := nI (a + 1)) (lv' := [(4, .int (nI (a + 1))), (3, .int (nI k)), (2, .int (bI q.2)), (0, .ref o), (1, .int (bI cs))]) hx hb d_Mo_close_91 hl rfl (nI_inc1 _) (Nat.le_of_ble_eq_true rfl) rfl (fun ls hl => ?_)
                  refine lv_goto (tgt := 68) hx hb d_Mo_close_94 (by decide) ?_
                  exact ih (a + 1) k _ _ _ (by omega) (by rw [cntB, if_neg (by rw [g84]; decide), ← hc]; rfl) (by omega) (lv_sub hl [0, 1, 2, 3, 4] rfl) (hP.sub [0, 1, 2] rfl) (hD.sub [0, 1, 2] (by decide) rfl) hS
                · refine lv_iload_n hx hb d_Mo_close_87 rfl (lv_at hl 1 rfl) ?_
                  refine lv_iconst (v := nI 1) hx hb d_Mo_close_88 (by decide) ?_
                  refine nAdd hx hb d_Mo_close_89 ?_
                  refine lv_istore_n (lv' := [(3, .int (nI (k + 1))), (4, .int (nI a)), (2, .int (bI q.2)), (0, .ref o), (1, .int (bI cs))]) hx hb d_Mo_close_90 rfl hl (Nat.le_of_ble_eq_true rfl) rfl (fun ls hl => ?_)
                  refine lv_iinc (k := 1) (v := nI (a + 1)) (lv' := [(4, .int (nI (a + 1))), (3, .int (nI (k + 1))), (2, .int (bI q.2)), (0, .ref o), (1, .int (bI cs))]) hx hb d_Mo_close_91 hl rfl (nI_inc1 _) (Nat.le_of_ble_eq_true rfl) rfl (fun ls hl => ?_)
                  refine lv_goto (tgt := 68) hx hb d_Mo_close_94 (by decide) ?_
                  exact ih (a + 1) (k + 1) _ _ _ (by omega) (by rw [cntB, if_pos g84, ← hc]) (by omega) (lv_sub hl [0, 1, 2, 3, 4] rfl) (hP.sub [0, 1, 2] rfl) (hD.sub [0, 1, 2] (by decide) rfl) hS
          exact loop68 i0.2 0 0 _ _ _ (Nat.zero_add _) (rfl) (Nat.le_refl _) (lv_sub hl [0, 1, 2, 3, 4] rfl) (hP.sub [0, 1, 2] rfl) (hD.sub [0, 1, 2] (by decide) rfl) hS
        · refine lv_iconst (v := nI 0) hx hb d_Mo_close_15 (by decide) ?_
          refine eqi (y := bI false) (by decide) ?_
          refine lv_istore_n (lv' := [(2, .int (bI false)), (3, .int (nI i)), (0, .ref o), (1, .int (bI cs))]) hx hb d_Mo_close_16 rfl hl (Nat.le_of_ble_eq_true rfl) rfl (fun ls hl => ?_)
          refine lv_iconst (v := nI 0) hx hb d_Mo_close_17 (by decide) ?_
          refine lv_istore (lv' := [(4, .int (nI 0)), (2, .int (bI false)), (3, .int (nI i)), (0, .ref o), (1, .int (bI cs))]) hx hb d_Mo_close_18 hl (Nat.le_of_ble_eq_true rfl) rfl (fun ls hl => ?_)
          have loop20 : ∀ (j : Nat) (a : Nat) (q1 : mkT) (ls : Array Slot) (H : Heap) (locs : List Loc), (a + j = i0.2) → (mrF (mtg i0.1 i0.2 cs) i0.2 i0.2 0 (q.1, false) = mrF (mtg i0.1 i0.2 cs) i0.2 j a q1) → lv_has ls 5 [(4, .int (nI a)), (2, .int (bI q1.2)), (3, .int (nI i)), (0, .ref o), (1, .int (bI cs))] → va_P (dC, dI) classes [(o, .inr (5, [.ref gi, .ref ge, .ref gt, .ref go, .ref gb, .ref gm, .ref gl, .int (nI i0.2), .int (nI e0.2), .int (nI t0.2), .int (nI mk), .int (nI L0.2)])), (gi, .inl (ci, 160, .inl (iN i0.1))), (gm, .inl (cm1, 160, .inl (zN q1.1)))] H → va_D A [(o, .inr (5, [.ref gi, .ref ge, .ref gt, .ref go, .ref gb, .ref gm, .ref gl, .int (nI i0.2), .int (nI e0.2), .int (nI t0.2), .int (nI mk), .int (nI L0.2)])), (gi, .inl (ci, 160, .inl (iN i0.1))), (gm, .inl (cm1, 160, .inl (zN q1.1)))] → va_S A s.heap H locs → W p l e (rmq 3 68) s m [.ref o, .int (bI cs)].toArray below meth c H locs 0 0 (MQ below (qcU (some (.int (nI (cntB (mcF (mtg i0.1 i0.2 cs) i0.2 1000 (m0, true)).1 i0.2)))) (dC, dI) [(o, .inr (5, [.ref gi, .ref ge, .ref gt, .ref go, .ref gb, .ref gm, .ref gl, .int (nI i0.2), .int (nI e0.2), .int (nI t0.2), .int (nI mk), .int (nI L0.2)])), (gi, .inl (ci, 160, .inl (iN i0.1))), (gm, .inl (cm1, 160, .inl (zN ((mcF (mtg i0.1 i0.2 cs) i0.2 1000 (m0, true)).1))))] A) [.ref o, .int (bI cs)].toArray s 0 0 A) (F0 m 20 ls []) := by
            intro j
            induction j with
            | zero =>
              intro a q1 ls H locs ha hR2 hl hP hD hS
              have hRi : mrF (mtg i0.1 i0.2 cs) i0.2 i0.2 0 (q.1, false) = (q1.1, q1.2) := hR2
              refine lv_iload hx hb d_Mo_close_20 (lv_at hl 0 rfl) ?_
              refine lv_aload_n hx hb d_Mo_close_22 rfl (lv_at hl 3 rfl) ?_
              refine va_get (D := (dC, dI)) (ci := 5) (v := .int (nI i0.2)) (C := R_Mo) (T := F_Mo) (N := 12) hx hb ht in_Mo hown hK hP 0 rfl rfl 7 (by decide) (ht _ k_498) (fun _ h9 => h9) rfl d_Mo_close_23 ?_
              refine z_icmp_ge (tgt := 57) hx hb d_Mo_close_26 (tI_n (by omega)) (tI_n (by omega)) (by decide) (fun g26 => ?_) (fun g26 => ?_)
              · refine lv_iinc (k := 2) (v := nI (i + 1)) (lv' := [(3, .int (nI (i + 1))), (4, .int (nI a)), (2, .int (bI q1.2)), (0, .ref o), (1, .int (bI cs))]) hx hb d_Mo_close_57 hl rfl (nI_inc1 _) (Nat.le_of_ble_eq_true rfl) rfl (fun ls hl => ?_)
                refine lv_goto (tgt := 4) hx hb d_Mo_close_60 (by decide) ?_
                exact ih (i + 1) (q1.1, q1.2) _ _ _ (by omega) (by rw [hR, mcF, if_pos g12, hRi]) (lv_sub hl [0, 2, 3, 4] rfl) (hP.sub [0, 1, 2] rfl) (hD.sub [0, 1, 2] (by decide) rfl) hS
              · exfalso; omega
            | succ j ih =>
              intro a q1 ls H locs ha hR2 hl hP hD hS
              refine lv_iload hx hb d_Mo_close_20 (lv_at hl 0 rfl) ?_
              refine lv_aload_n hx hb d_Mo_close_22 rfl (lv_at hl 3 rfl) ?_
              refine va_get (D := (dC, dI)) (ci := 5) (v := .int (nI i0.2)) (C := R_Mo) (T := F_Mo) (N := 12) hx hb ht in_Mo hown hK hP 0 rfl rfl 7 (by decide) (ht _ k_498) (fun _ h9 => h9) rfl d_Mo_close_23 ?_
              refine z_icmp_ge (tgt := 57) hx hb d_Mo_close_26 (tI_n (by omega)) (tI_n (by omega)) (by decide) (fun g26 => ?_) (fun g26 => ?_)
              · exfalso; omega
              · refine lv_aload_n hx hb d_Mo_close_29 rfl (lv_at hl 3 rfl) ?_
                refine va_get (D := (dC, dI)) (ci := 5) (v := .ref gm) (C := R_Mo) (T := F_Mo) (N := 12) hx hb ht in_Mo hown hK hP 0 rfl rfl 5 (by decide) (ht _ k_496) (fun _ h9 => h9) rfl d_Mo_close_30 ?_
                refine lv_iload hx hb d_Mo_close_33 (lv_at hl 0 rfl) ?_
                refine ldZ (q0 := 2) (t0 := 1) hx hb d_Mo_close_35 hK hP rfl rfl (by omega) (by decide) ?_
                refine b_if_eq (tgt := 51) hx hb d_Mo_close_36 (by decide) (fun g36 => ?_) (fun g36 => ?_)
                · refine lv_iinc (k := 0) (v := nI (a + 1)) (lv' := [(4, .int (nI (a + 1))), (2, .int (bI q1.2)), (3, .int (nI i)), (0, .ref o), (1, .int (bI cs))]) hx hb d_Mo_close_51 hl rfl (nI_inc1 _) (Nat.le_of_ble_eq_true rfl) rfl (fun ls hl => ?_)
                  refine lv_goto (tgt := 20) hx hb d_Mo_close_54 (by decide) ?_
                  exact ih (a + 1) (q1.1, q1.2) _ _ _ (by omega) (by rw [hR2, mrF, if_neg (by rw [g36]; decide)]) (lv_sub hl [0, 1, 2, 3, 4] rfl) (hP.sub [0, 1, 2] rfl) (hD.sub [0, 1, 2] (by decide) rfl) hS
                · refine lv_aload_n hx hb d_Mo_close_39 rfl (lv_at hl 3 rfl) ?_
                  refine lv_iload hx hb d_Mo_close_40 (lv_at hl 0 rfl) ?_
                  refine lv_iload_n hx hb d_Mo_close_42 rfl (lv_at hl 4 rfl) ?_
                  refine uV (As := [.int (nI a), .int (bI cs)]) (rest := []) (wr := []) hx hb hml hown ht (c_Mo_follow l dC dI z _ o gi ge gt go gb gm gl i0 e0 t0 mk L0 ci cm1 q1.1 a cs (by first | assumption | omega) (by first | assumption | omega) (by first | assumption | omega)) yv_Mo_follow k_575 (Nat.le_of_ble_eq_true rfl) (Nat.le_of_ble_eq_true rfl) hP hK hSS hD hS hA [0, 1, 2] [] [0, 1] rfl rfl (by decide) rfl (by decide) (by decide) rfl 0 5 rfl rfl rfl hl rfl rfl (Nat.le_of_ble_eq_true rfl) (Nat.zero_le _) (Nat.zero_le _) d_Mo_close_43 (fun H locs hP hD hS => ?_)
                  have hP : va_P (dC, dI) classes [(o, .inr (5, [.ref gi, .ref ge, .ref gt, .ref go, .ref gb, .ref gm, .ref gl, .int (nI i0.2), .int (nI e0.2), .int (nI t0.2), .int (nI mk), .int (nI L0.2)])), (gi, .inl (ci, 160, .inl (iN i0.1))), (gm, .inl (cm1, 160, .inl (zN ((mfl i0.1 i0.2 cs a q1.1).1))))] H := hP
                  have hD : va_D A [(o, .inr (5, [.ref gi, .ref ge, .ref gt, .ref go, .ref gb, .ref gm, .ref gl, .int (nI i0.2), .int (nI e0.2), .int (nI t0.2), .int (nI mk), .int (nI L0.2)])), (gi, .inl (ci, 160, .inl (iN i0.1))), (gm, .inl (cm1, 160, .inl (zN ((mfl i0.1 i0.2 cs a q1.1).1))))] := hD
                  refine stk (st2 := [.int (bI ((mfl i0.1 i0.2 cs a q1.1).2))]) rfl ?_
                  refine b_if_eq (tgt := 51) hx hb d_Mo_close_46 (by decide) (fun g46 => ?_) (fun g46 => ?_)
                  · refine lv_iinc (k := 0) (v := nI (a + 1)) (lv' := [(4, .int (nI (a + 1))), (2, .int (bI q1.2)), (3, .int (nI i)), (0, .ref o), (1, .int (bI cs))]) hx hb d_Mo_close_51 hl rfl (nI_inc1 _) (Nat.le_of_ble_eq_true rfl) rfl (fun ls hl => ?_)
                    refine lv_goto (tgt := 20) hx hb d_Mo_close_54 (by decide) ?_
                    exact ih (a + 1) ((mfl i0.1 i0.2 cs a q1.1).1, q1.2) _ _ _ (by omega) (by rw [hR2, mrF, if_pos g36, ms_acc _ q1.1 q1.2]; show mrF _ _ _ _ ((mfl i0.1 i0.2 cs a q1.1).1, q1.2 || (mfl i0.1 i0.2 cs a q1.1).2) = _; rw [g46, Bool.or_false]) (lv_sub hl [0, 1, 2, 3, 4] rfl) (hP.sub [0, 1, 2] rfl) (hD.sub [0, 1, 2] (by decide) rfl) hS
                  · refine lv_iconst (v := nI 1) hx hb d_Mo_close_49 (by decide) ?_
                    refine eqi (y := bI true) (by decide) ?_
                    refine lv_istore_n (lv' := [(2, .int (bI true)), (4, .int (nI a)), (3, .int (nI i)), (0, .ref o), (1, .int (bI cs))]) hx hb d_Mo_close_50 rfl hl (Nat.le_of_ble_eq_true rfl) rfl (fun ls hl => ?_)
                    refine lv_iinc (k := 1) (v := nI (a + 1)) (lv' := [(4, .int (nI (a + 1))), (2, .int (bI true)), (3, .int (nI i)), (0, .ref o), (1, .int (bI cs))]) hx hb d_Mo_close_51 hl rfl (nI_inc1 _) (Nat.le_of_ble_eq_true rfl) rfl (fun ls hl => ?_)
                    refine lv_goto (tgt := 20) hx hb d_Mo_close_54 (by decide) ?_
                    exact ih (a + 1) ((mfl i0.1 i0.2 cs a q1.1).1, true) _ _ _ (by omega) (by rw [hR2, mrF, if_pos g36, ms_acc _ q1.1 q1.2]; show mrF _ _ _ _ ((mfl i0.1 i0.2 cs a q1.1).1, q1.2 || (mfl i0.1 i0.2 cs a q1.1).2) = _; rw [g46, Bool.or_true]) (lv_sub hl [0, 1, 2, 3, 4] rfl) (hP.sub [0, 1, 2] rfl) (hD.sub [0, 1, 2] (by decide) rfl) hS
          exact loop20 i0.2 0 (q.1, false) _ _ _ (Nat.zero_add _) (rfl) (lv_sub hl [0, 1, 2, 3, 4] rfl) (hP.sub [0, 1, 2] rfl) (hD.sub [0, 1, 2] (by decide) rfl) hS
  exact loop4 1000 0 (m0, true) _ _ _ (rfl) (rfl) (lv_sub hl [0, 1, 2, 3] rfl) (hP.sub [0, 1, 2] rfl) (hD.sub [0, 1, 2] (by decide) rfl) hS

set_option maxHeartbeats 4000000 in
set_option maxRecDepth 100000 in
theorem c_Mo_reach (l : Launch) (dC : Nat → ClassId) (dI : Nat → Nat → Nat) (z : zT) (sz : Nat) (o : Nat) (gi : Nat) (ge : Nat) (gt : Nat) (go : Nat) (gb : Nat) (gm : Nat) (gl : Nat) (i0 : txT) (e0 : txT) (t0 : txT) (mk : Nat) (L0 : txT) (ci : ClassId) (ce : ClassId) (cm1 : ClassId) (m0 : Nat → Bool) (hn : i0.2 ≤ 160) (hb8 : ∀ i, i0.1 i < 256) (he : e0.2 ≤ 16) (hen : ∀ k, k < e0.2 → e0.1 k < i0.2) : MU l y_Mo_reach b_Mo_reach 2 (some .int) 4 92 (dC, dI) z [.ref o] [(o, .inr (5, [.ref gi, .ref ge, .ref gt, .ref go, .ref gb, .ref gm, .ref gl, .int (nI i0.2), .int (nI e0.2), .int (nI t0.2), .int (nI mk), .int (nI L0.2)])), (gi, .inl (ci, 160, .inl (iN i0.1))), (ge, .inl (ce, 16, .inl (iN e0.1))), (gm, .inl (cm1, 160, .inl (zN m0)))] [(ci, .int), (ce, .int), (cm1, .boolean)] sz (some (.int (nI (cntB (mR i0 e0) i0.2)))) [(o, .inr (5, [.ref gi, .ref ge, .ref gt, .ref go, .ref gb, .ref gm, .ref gl, .int (nI i0.2), .int (nI e0.2), .int (nI t0.2), .int (nI mk), .int (nI L0.2)])), (gi, .inl (ci, 160, .inl (iN i0.1))), (ge, .inl (ce, 16, .inl (iN e0.1))), (gm, .inl (cm1, 160, .inl (zN (mR i0 e0))))] := by
  refine metU (by decide) (Nat.le_of_ble_eq_true rfl) ?_
  intro p e s m below meth c ls A hx hb hr hlocks hml hown ht hl hP hK hSS hD hS hA
  have hl : lv_has ls 2 [(0, .ref o)] := hl
  refine lv_aload_n hx hb d_Mo_reach_0 rfl (lv_at hl 0 rfl) ?_
  refine uV (As := []) (rest := []) (wr := [(gi, .inl (ci, 160, .inl (iN i0.1))), (ge, .inl (ce, 16, .inl (iN e0.1)))]) hx hb hml hown ht (c_Mo_wipe l dC dI z _ o gi ge gt go gb gm gl i0 e0 t0 mk L0 cm1 m0 ) yv_Mo_wipe k_567 (Nat.le_of_ble_eq_true rfl) (Nat.le_of_ble_eq_true rfl) hP hK hSS hD hS hA [0, 3] [1, 2] [2] rfl rfl (by decide) rfl (by decide) (by decide) rfl 0 5 rfl rfl rfl hl rfl rfl (Nat.le_of_ble_eq_true rfl) (Nat.zero_le _) (Nat.zero_le _) d_Mo_reach_1 (fun H locs hP hD hS => ?_)
  have hP : va_P (dC, dI) classes [(gi, .inl (ci, 160, .inl (iN i0.1))), (ge, .inl (ce, 16, .inl (iN e0.1))), (o, .inr (5, [.ref gi, .ref ge, .ref gt, .ref go, .ref gb, .ref gm, .ref gl, .int (nI i0.2), .int (nI e0.2), .int (nI t0.2), .int (nI mk), .int (nI L0.2)])), (gm, .inl (cm1, 160, .inl (zN (fun _ => false))))] H := hP
  have hD : va_D A [(gi, .inl (ci, 160, .inl (iN i0.1))), (ge, .inl (ce, 16, .inl (iN e0.1))), (o, .inr (5, [.ref gi, .ref ge, .ref gt, .ref go, .ref gb, .ref gm, .ref gl, .int (nI i0.2), .int (nI e0.2), .int (nI t0.2), .int (nI mk), .int (nI L0.2)])), (gm, .inl (cm1, 160, .inl (zN (fun _ => false))))] := hD
  refine stk (st2 := []) rfl ?_
  refine lv_iconst (v := nI 0) hx hb d_Mo_reach_4 (by decide) ?_
  refine lv_istore_n (lv' := [(1, .int (nI 0)), (0, .ref o)]) hx hb d_Mo_reach_5 rfl hl (Nat.le_of_ble_eq_true rfl) rfl (fun ls hl => ?_)
  have loop6 : ∀ (j : Nat) (k : Nat) (g : Nat → Bool) (ls : Array Slot) (H : Heap) (locs : List Loc), (k + j = e0.2) → (mE e0 = meF e0.1 j k g) → lv_has ls 2 [(1, .int (nI k)), (0, .ref o)] → va_P (dC, dI) classes [(o, .inr (5, [.ref gi, .ref ge, .ref gt, .ref go, .ref gb, .ref gm, .ref gl, .int (nI i0.2), .int (nI e0.2), .int (nI t0.2), .int (nI mk), .int (nI L0.2)])), (gi, .inl (ci, 160, .inl (iN i0.1))), (ge, .inl (ce, 16, .inl (iN e0.1))), (gm, .inl (cm1, 160, .inl (zN g)))] H → va_D A [(o, .inr (5, [.ref gi, .ref ge, .ref gt, .ref go, .ref gb, .ref gm, .ref gl, .int (nI i0.2), .int (nI e0.2), .int (nI t0.2), .int (nI mk), .int (nI L0.2)])), (gi, .inl (ci, 160, .inl (iN i0.1))), (ge, .inl (ce, 16, .inl (iN e0.1))), (gm, .inl (cm1, 160, .inl (zN g)))] → va_S A s.heap H locs → W p l e (rmq 4 92) s m [.ref o].toArray below meth c H locs 0 0 (MQ below (qcU (some (.int (nI (cntB (mR i0 e0) i0.2)))) (dC, dI) [(o, .inr (5, [.ref gi, .ref ge, .ref gt, .ref go, .ref gb, .ref gm, .ref gl, .int (nI i0.2), .int (nI e0.2), .int (nI t0.2), .int (nI mk), .int (nI L0.2)])), (gi, .inl (ci, 160, .inl (iN i0.1))), (ge, .inl (ce, 16, .inl (iN e0.1))), (gm, .inl (cm1, 160, .inl (zN (mR i0 e0))))] A) [.ref o].toArray s 0 0 A) (F0 m 6 ls []) := by
    intro j
    induction j with
    | zero =>
      intro k g ls H locs hk hR hl hP hD hS
      have hRe : mE e0 = g := hR
      refine lv_iload_n hx hb d_Mo_reach_6 rfl (lv_at hl 0 rfl) ?_
      refine lv_aload_n hx hb d_Mo_reach_7 rfl (lv_at hl 1 rfl) ?_
      refine va_get (D := (dC, dI)) (ci := 5) (v := .int (nI e0.2)) (C := R_Mo) (T := F_Mo) (N := 12) hx hb ht in_Mo hown hK hP 0 rfl rfl 8 (by decide) (ht _ k_499) (fun _ h9 => h9) rfl d_Mo_reach_8 ?_
      refine z_icmp_ge (tgt := 32) hx hb d_Mo_reach_11 (tI_n (by omega)) (tI_n (by omega)) (by decide) (fun g11 => ?_) (fun g11 => ?_)
      · refine lv_aload_n hx hb d_Mo_reach_32 rfl (lv_at hl 1 rfl) ?_
        refine lv_iconst (v := nI 1) hx hb d_Mo_reach_33 (by decide) ?_
        refine eqi (y := bI true) (by decide) ?_
        refine uV (As := [.int (bI true)]) (rest := []) (wr := [(ge, .inl (ce, 16, .inl (iN e0.1)))]) hx hb hml hown ht (c_Mo_close l dC dI z _ o gi ge gt go gb gm gl i0 e0 t0 mk L0 ci cm1 g true (by first | assumption | omega) (by first | assumption | omega)) yv_Mo_close k_571 (Nat.le_of_ble_eq_true rfl) (Nat.le_of_ble_eq_true rfl) hP hK hSS hD hS hA [0, 1, 3] [2] [0, 2] rfl rfl (by decide) rfl (by decide) (by decide) rfl 0 5 rfl rfl rfl hl rfl rfl (Nat.le_of_ble_eq_true rfl) (Nat.zero_le _) (Nat.zero_le _) d_Mo_reach_34 (fun H locs hP hD hS => ?_)
        have hP : va_P (dC, dI) classes [(ge, .inl (ce, 16, .inl (iN e0.1))), (o, .inr (5, [.ref gi, .ref ge, .ref gt, .ref go, .ref gb, .ref gm, .ref gl, .int (nI i0.2), .int (nI e0.2), .int (nI t0.2), .int (nI mk), .int (nI L0.2)])), (gi, .inl (ci, 160, .inl (iN i0.1))), (gm, .inl (cm1, 160, .inl (zN ((mcF (mtg i0.1 i0.2 true) i0.2 1000 (g, true)).1))))] H := hP
        have hD : va_D A [(ge, .inl (ce, 16, .inl (iN e0.1))), (o, .inr (5, [.ref gi, .ref ge, .ref gt, .ref go, .ref gb, .ref gm, .ref gl, .int (nI i0.2), .int (nI e0.2), .int (nI t0.2), .int (nI mk), .int (nI L0.2)])), (gi, .inl (ci, 160, .inl (iN i0.1))), (gm, .inl (cm1, 160, .inl (zN ((mcF (mtg i0.1 i0.2 true) i0.2 1000 (g, true)).1))))] := hD
        refine stk (st2 := [.int (nI (cntB (mcF (mtg i0.1 i0.2 true) i0.2 1000 (g, true)).1 i0.2))]) rfl ?_
        rw [mR, hRe]
        exact eUi hx hb hr hlocks hP hD hS [1, 2, 0, 3] rfl rfl (by decide) d_Mo_reach_37 (rfl)
      · exfalso; omega
    | succ j ih =>
      intro k g ls H locs hk hR hl hP hD hS
      have hek := hen k (by omega)
      refine lv_iload_n hx hb d_Mo_reach_6 rfl (lv_at hl 0 rfl) ?_
      refine lv_aload_n hx hb d_Mo_reach_7 rfl (lv_at hl 1 rfl) ?_
      refine va_get (D := (dC, dI)) (ci := 5) (v := .int (nI e0.2)) (C := R_Mo) (T := F_Mo) (N := 12) hx hb ht in_Mo hown hK hP 0 rfl rfl 8 (by decide) (ht _ k_499) (fun _ h9 => h9) rfl d_Mo_reach_8 ?_
      refine z_icmp_ge (tgt := 32) hx hb d_Mo_reach_11 (tI_n (by omega)) (tI_n (by omega)) (by decide) (fun g11 => ?_) (fun g11 => ?_)
      · exfalso; omega
      · refine lv_aload_n hx hb d_Mo_reach_14 rfl (lv_at hl 1 rfl) ?_
        refine va_get (D := (dC, dI)) (ci := 5) (v := .ref gm) (C := R_Mo) (T := F_Mo) (N := 12) hx hb ht in_Mo hown hK hP 0 rfl rfl 5 (by decide) (ht _ k_496) (fun _ h9 => h9) rfl d_Mo_reach_15 ?_
        refine lv_aload_n hx hb d_Mo_reach_18 rfl (lv_at hl 1 rfl) ?_
        refine va_get (D := (dC, dI)) (ci := 5) (v := .ref ge) (C := R_Mo) (T := F_Mo) (N := 12) hx hb ht in_Mo hown hK hP 0 rfl rfl 1 (by decide) (ht _ k_492) (fun _ h9 => h9) rfl d_Mo_reach_19 ?_
        refine lv_iload_n hx hb d_Mo_reach_22 rfl (lv_at hl 0 rfl) ?_
        refine ldI (q0 := 2) (t0 := 1) hx hb d_Mo_reach_23 hK hP rfl rfl (by omega) (by decide) ?_
        refine lv_iconst (v := nI 1) hx hb d_Mo_reach_24 (by decide) ?_
        refine eqi (y := bI true) (by decide) ?_
        refine stZ (q0 := 3) (t0 := 2) (w1 := [(o, .inr (5, [.ref gi, .ref ge, .ref gt, .ref go, .ref gb, .ref gm, .ref gl, .int (nI i0.2), .int (nI e0.2), .int (nI t0.2), .int (nI mk), .int (nI L0.2)])), (gi, .inl (ci, 160, .inl (iN i0.1))), (ge, .inl (ce, 16, .inl (iN e0.1))), (gm, .inl (cm1, 160, .inl (zN (updB g (e0.1 k) true))))]) hx hb d_Mo_reach_25 hK hP hD hS rfl rfl (by omega) (by decide) rfl (fun H locs hP hD hS => ?_)
        refine lv_iinc (k := 0) (v := nI (k + 1)) (lv' := [(1, .int (nI (k + 1))), (0, .ref o)]) hx hb d_Mo_reach_26 hl rfl (nI_inc1 _) (Nat.le_of_ble_eq_true rfl) rfl (fun ls hl => ?_)
        refine lv_goto (tgt := 6) hx hb d_Mo_reach_29 (by decide) ?_
        exact ih (k + 1) (updB g (e0.1 k) true) _ _ _ (by omega) (by rw [hR, meF]) (lv_sub hl [0, 1] rfl) (hP.sub [0, 1, 2, 3] rfl) (hD.sub [0, 1, 2, 3] (by decide) rfl) hS
  exact loop6 e0.2 0 (fun _ => false) _ _ _ (Nat.zero_add _) (rfl) (lv_sub hl [0, 1] rfl) (hP.sub [2, 0, 1, 3] rfl) (hD.sub [2, 0, 1, 3] (by decide) rfl) hS

set_option maxHeartbeats 4000000 in
set_option maxRecDepth 100000 in
theorem c_Mo_reached (l : Launch) (dC : Nat → ClassId) (dI : Nat → Nat → Nat) (z : zT) (sz : Nat) (o : Nat) (gi : Nat) (ge : Nat) (gt : Nat) (go : Nat) (gb : Nat) (gm : Nat) (gl : Nat) (i0 : txT) (e0 : txT) (t0 : txT) (mk : Nat) (L0 : txT) (ci : ClassId) (ce : ClassId) (cm1 : ClassId) (m0 : Nat → Bool) (x : Int32) (y : Int) (hn : i0.2 ≤ 160) (hb8 : ∀ i, i0.1 i < 256) (he : e0.2 ≤ 16) (hen : ∀ k, k < e0.2 → e0.1 k < i0.2) (hy : x.toInt = y) : MU l y_Mo_reached b_Mo_reached 3 (some .boolean) 5 113 (dC, dI) z [.ref o, .int x] [(o, .inr (5, [.ref gi, .ref ge, .ref gt, .ref go, .ref gb, .ref gm, .ref gl, .int (nI i0.2), .int (nI e0.2), .int (nI t0.2), .int (nI mk), .int (nI L0.2)])), (gi, .inl (ci, 160, .inl (iN i0.1))), (ge, .inl (ce, 16, .inl (iN e0.1))), (gm, .inl (cm1, 160, .inl (zN m0)))] [(ci, .int), (ce, .int), (cm1, .boolean)] sz (some (.int (bI (decide (0 < cntB (mR i0 e0) i0.2 ∧ (0 ≤ y ∧ y < (i0.2 : Int)) ∧ (mR i0 e0) y.toNat = true))))) [(o, .inr (5, [.ref gi, .ref ge, .ref gt, .ref go, .ref gb, .ref gm, .ref gl, .int (nI i0.2), .int (nI e0.2), .int (nI t0.2), .int (nI mk), .int (nI L0.2)])), (gi, .inl (ci, 160, .inl (iN i0.1))), (ge, .inl (ce, 16, .inl (iN e0.1))), (gm, .inl (cm1, 160, .inl (zN (mR i0 e0))))] := by
  have hcl := cntB_le (mR i0 e0) i0.2
  refine metU (by decide) (Nat.le_of_ble_eq_true rfl) ?_
  intro p e s m below meth c ls A hx hb hr hlocks hml hown ht hl hP hK hSS hD hS hA
  have hl : lv_has ls 3 [(0, .ref o), (1, .int x)] := hl
  refine lv_aload_n hx hb d_Mo_reached_0 rfl (lv_at hl 0 rfl) ?_
  refine uV (As := []) (rest := []) (wr := []) hx hb hml hown ht (c_Mo_reach l dC dI z _ o gi ge gt go gb gm gl i0 e0 t0 mk L0 ci ce cm1 m0 (by first | assumption | omega) (by first | assumption | omega) (by first | assumption | omega) (by first | assumption | omega)) yv_Mo_reach k_588 (Nat.le_of_ble_eq_true rfl) (Nat.le_of_ble_eq_true rfl) hP hK hSS hD hS hA [0, 1, 2, 3] [] [0, 1, 2] rfl rfl (by decide) rfl (by decide) (by decide) rfl 0 5 rfl rfl rfl hl rfl rfl (Nat.le_of_ble_eq_true rfl) (Nat.zero_le _) (Nat.zero_le _) d_Mo_reached_1 (fun H locs hP hD hS => ?_)
  have hP : va_P (dC, dI) classes [(o, .inr (5, [.ref gi, .ref ge, .ref gt, .ref go, .ref gb, .ref gm, .ref gl, .int (nI i0.2), .int (nI e0.2), .int (nI t0.2), .int (nI mk), .int (nI L0.2)])), (gi, .inl (ci, 160, .inl (iN i0.1))), (ge, .inl (ce, 16, .inl (iN e0.1))), (gm, .inl (cm1, 160, .inl (zN (mR i0 e0))))] H := hP
  have hD : va_D A [(o, .inr (5, [.ref gi, .ref ge, .ref gt, .ref go, .ref gb, .ref gm, .ref gl, .int (nI i0.2), .int (nI e0.2), .int (nI t0.2), .int (nI mk), .int (nI L0.2)])), (gi, .inl (ci, 160, .inl (iN i0.1))), (ge, .inl (ce, 16, .inl (iN e0.1))), (gm, .inl (cm1, 160, .inl (zN (mR i0 e0))))] := hD
  refine stk (st2 := [.int (nI (cntB (mR i0 e0) i0.2))]) rfl ?_
  refine lv_istore_n (lv' := [(2, .int (nI (cntB (mR i0 e0) i0.2))), (0, .ref o), (1, .int x)]) hx hb d_Mo_reached_4 rfl hl (Nat.le_of_ble_eq_true rfl) rfl (fun ls hl => ?_)
  refine lv_iload_n hx hb d_Mo_reached_5 rfl (lv_at hl 0 rfl) ?_
  refine z_if_le (tgt := 30) hx hb d_Mo_reached_6 (tI_n (by omega)) (by decide) (fun g6 => ?_) (fun g6 => ?_)
  · refine lv_iconst (v := nI 0) hx hb d_Mo_reached_30 (by decide) ?_
    refine eqi (y := bI false) (by decide) ?_
    exact eUz hx hb hr hlocks (bI_narrow _) hP hD hS [0, 1, 2, 3] rfl rfl (by decide) d_Mo_reached_31 (bI_zero (by first | omega | (intro q; exact of_decide_eq_false g14 q.2.1) | (intro q; rw [g23] at q; exact absurd q.2.2 (by decide))))
  · refine lv_aload_n hx hb d_Mo_reached_9 rfl (lv_at hl 1 rfl) ?_
    refine lv_iload_n hx hb d_Mo_reached_10 rfl (lv_at hl 2 rfl) ?_
    refine rV (As := [.int x]) (rest := []) hx hb hml hown ht (c_Mo_has l dC dI z o gi ge gt go gb gm gl i0 e0 t0 mk L0 x y (by first | assumption | omega) hy) yv_Mo_has k_536 (Nat.le_of_ble_eq_true rfl) (Nat.le_of_ble_eq_true rfl) hP hK hSS hS [0] [] rfl rfl 0 5 rfl rfl rfl hl rfl rfl (Nat.le_of_ble_eq_true rfl) (Nat.zero_le _) (Nat.zero_le _) d_Mo_reached_11 ?_
    refine b_if_eq (tgt := 30) hx hb d_Mo_reached_14 (by decide) (fun g14 => ?_) (fun g14 => ?_)
    · refine lv_iconst (v := nI 0) hx hb d_Mo_reached_30 (by decide) ?_
      refine eqi (y := bI false) (by decide) ?_
      exact eUz hx hb hr hlocks (bI_narrow _) hP hD hS [0, 1, 2, 3] rfl rfl (by decide) d_Mo_reached_31 (bI_zero (by first | omega | (intro q; exact of_decide_eq_false g14 q.2.1) | (intro q; rw [g23] at q; exact absurd q.2.2 (by decide))))
    · have g := of_decide_eq_true g14
      refine lv_aload_n hx hb d_Mo_reached_17 rfl (lv_at hl 1 rfl) ?_
      refine va_get (D := (dC, dI)) (ci := 5) (v := .ref gm) (C := R_Mo) (T := F_Mo) (N := 12) hx hb ht in_Mo hown hK hP 0 rfl rfl 5 (by decide) (ht _ k_496) (fun _ h9 => h9) rfl d_Mo_reached_18 ?_
      refine lv_iload_n hx hb d_Mo_reached_21 rfl (lv_at hl 2 rfl) ?_
      refine eqi (y := nI y.toNat) (x_yN hy (of_decide_eq_true g14).1) ?_
      refine ldZ (q0 := 3) (t0 := 2) hx hb d_Mo_reached_22 hK hP rfl rfl (by omega) (by decide) ?_
      refine b_if_eq (tgt := 30) hx hb d_Mo_reached_23 (by decide) (fun g23 => ?_) (fun g23 => ?_)
      · refine lv_iconst (v := nI 0) hx hb d_Mo_reached_30 (by decide) ?_
        refine eqi (y := bI false) (by decide) ?_
        exact eUz hx hb hr hlocks (bI_narrow _) hP hD hS [0, 1, 2, 3] rfl rfl (by decide) d_Mo_reached_31 (bI_zero (by first | omega | (intro q; exact of_decide_eq_false g14 q.2.1) | (intro q; rw [g23] at q; exact absurd q.2.2 (by decide))))
      · refine lv_iconst (v := nI 1) hx hb d_Mo_reached_26 (by decide) ?_
        refine lv_goto (tgt := 31) hx hb d_Mo_reached_27 (by decide) ?_
        refine eqi (y := bI true) (by decide) ?_
        exact eUz hx hb hr hlocks (bI_narrow _) hP hD hS [0, 1, 2, 3] rfl rfl (by decide) d_Mo_reached_31 (bI_one ⟨by omega, of_decide_eq_true g14, g23⟩)

set_option maxHeartbeats 4000000 in
set_option maxRecDepth 100000 in
theorem c_Mo_body (l : Launch) (dC : Nat → ClassId) (dI : Nat → Nat → Nat) (z : zT) (sz : Nat) (o : Nat) (gi : Nat) (ge : Nat) (gt : Nat) (go : Nat) (gb : Nat) (gm : Nat) (gl : Nat) (i0 : txT) (e0 : txT) (t0 : txT) (mk : Nat) (L0 : txT) (ci : ClassId) (cm1 : ClassId) (m0 : Nat → Bool) (x : Int32) (y : Int) (hn : i0.2 ≤ 160) (hb8 : ∀ i, i0.1 i < 256) (hy : x.toInt = y) : MU l y_Mo_body b_Mo_body 2 (some .int) 4 92 (dC, dI) z [.ref o, .int x] [(o, .inr (5, [.ref gi, .ref ge, .ref gt, .ref go, .ref gb, .ref gm, .ref gl, .int (nI i0.2), .int (nI e0.2), .int (nI t0.2), .int (nI mk), .int (nI L0.2)])), (gi, .inl (ci, 160, .inl (iN i0.1))), (gm, .inl (cm1, 160, .inl (zN m0)))] [(ci, .int), (cm1, .boolean)] sz (some (.int (nI (mBn i0 y)))) [(o, .inr (5, [.ref gi, .ref ge, .ref gt, .ref go, .ref gb, .ref gm, .ref gl, .int (nI i0.2), .int (nI e0.2), .int (nI t0.2), .int (nI mk), .int (nI L0.2)])), (gi, .inl (ci, 160, .inl (iN i0.1))), (gm, .inl (cm1, 160, .inl (zN (mBm i0 y m0))))] := by
  refine metU (by decide) (Nat.le_of_ble_eq_true rfl) ?_
  intro p e s m below meth c ls A hx hb hr hlocks hml hown ht hl hP hK hSS hD hS hA
  have hl : lv_has ls 2 [(0, .ref o), (1, .int x)] := hl
  refine lv_aload_n hx hb d_Mo_body_0 rfl (lv_at hl 0 rfl) ?_
  refine lv_iload_n hx hb d_Mo_body_1 rfl (lv_at hl 1 rfl) ?_
  refine rV (As := [.int x]) (rest := []) hx hb hml hown ht (c_Mo_has l dC dI z o gi ge gt go gb gm gl i0 e0 t0 mk L0 x y (by first | assumption | omega) hy) yv_Mo_has k_536 (Nat.le_of_ble_eq_true rfl) (Nat.le_of_ble_eq_true rfl) hP hK hSS hS [0] [] rfl rfl 0 5 rfl rfl rfl hl rfl rfl (Nat.le_of_ble_eq_true rfl) (Nat.zero_le _) (Nat.zero_le _) d_Mo_body_2 ?_
  refine b_if_ne (tgt := 10) hx hb d_Mo_body_5 (by decide) (fun g5 => ?_) (fun g5 => ?_)
  · have g := of_decide_eq_true g5
    refine lv_aload_n hx hb d_Mo_body_10 rfl (lv_at hl 0 rfl) ?_
    refine uV (As := []) (rest := []) (wr := [(gi, .inl (ci, 160, .inl (iN i0.1)))]) hx hb hml hown ht (c_Mo_wipe l dC dI z _ o gi ge gt go gb gm gl i0 e0 t0 mk L0 cm1 m0 ) yv_Mo_wipe k_567 (Nat.le_of_ble_eq_true rfl) (Nat.le_of_ble_eq_true rfl) hP hK hSS hD hS hA [0, 2] [1] [1] rfl rfl (by decide) rfl (by decide) (by decide) rfl 0 5 rfl rfl rfl hl rfl rfl (Nat.le_of_ble_eq_true rfl) (Nat.zero_le _) (Nat.zero_le _) d_Mo_body_11 (fun H locs hP hD hS => ?_)
    have hP : va_P (dC, dI) classes [(gi, .inl (ci, 160, .inl (iN i0.1))), (o, .inr (5, [.ref gi, .ref ge, .ref gt, .ref go, .ref gb, .ref gm, .ref gl, .int (nI i0.2), .int (nI e0.2), .int (nI t0.2), .int (nI mk), .int (nI L0.2)])), (gm, .inl (cm1, 160, .inl (zN (fun _ => false))))] H := hP
    have hD : va_D A [(gi, .inl (ci, 160, .inl (iN i0.1))), (o, .inr (5, [.ref gi, .ref ge, .ref gt, .ref go, .ref gb, .ref gm, .ref gl, .int (nI i0.2), .int (nI e0.2), .int (nI t0.2), .int (nI mk), .int (nI L0.2)])), (gm, .inl (cm1, 160, .inl (zN (fun _ => false))))] := hD
    refine stk (st2 := []) rfl ?_
    refine lv_aload_n hx hb d_Mo_body_14 rfl (lv_at hl 0 rfl) ?_
    refine va_get (D := (dC, dI)) (ci := 5) (v := .ref gm) (C := R_Mo) (T := F_Mo) (N := 12) hx hb ht in_Mo hown hK hP 1 rfl rfl 5 (by decide) (ht _ k_496) (fun _ h9 => h9) rfl d_Mo_body_15 ?_
    refine lv_iload_n hx hb d_Mo_body_18 rfl (lv_at hl 1 rfl) ?_
    refine eqi (y := nI y.toNat) (x_yN hy (of_decide_eq_true g5).1) ?_
    refine lv_iconst (v := nI 1) hx hb d_Mo_body_19 (by decide) ?_
    refine eqi (y := bI true) (by decide) ?_
    refine stZ (q0 := 2) (t0 := 1) (w1 := [(gi, .inl (ci, 160, .inl (iN i0.1))), (o, .inr (5, [.ref gi, .ref ge, .ref gt, .ref go, .ref gb, .ref gm, .ref gl, .int (nI i0.2), .int (nI e0.2), .int (nI t0.2), .int (nI mk), .int (nI L0.2)])), (gm, .inl (cm1, 160, .inl (zN (updB (fun _ => false) y.toNat true))))]) hx hb d_Mo_body_20 hK hP hD hS rfl rfl (by omega) (by decide) rfl (fun H locs hP hD hS => ?_)
    refine lv_aload_n hx hb d_Mo_body_21 rfl (lv_at hl 0 rfl) ?_
    refine lv_iconst (v := nI 0) hx hb d_Mo_body_22 (by decide) ?_
    refine eqi (y := bI false) (by decide) ?_
    refine uV (As := [.int (bI false)]) (rest := []) (wr := []) hx hb hml hown ht (c_Mo_close l dC dI z _ o gi ge gt go gb gm gl i0 e0 t0 mk L0 ci cm1 (updB (fun _ => false) y.toNat true) false (by first | assumption | omega) (by first | assumption | omega)) yv_Mo_close k_571 (Nat.le_of_ble_eq_true rfl) (Nat.le_of_ble_eq_true rfl) hP hK hSS hD hS hA [1, 0, 2] [] [0, 1] rfl rfl (by decide) rfl (by decide) (by decide) rfl 1 5 rfl rfl rfl hl rfl rfl (Nat.le_of_ble_eq_true rfl) (Nat.zero_le _) (Nat.zero_le _) d_Mo_body_23 (fun H locs hP hD hS => ?_)
    have hP : va_P (dC, dI) classes [(o, .inr (5, [.ref gi, .ref ge, .ref gt, .ref go, .ref gb, .ref gm, .ref gl, .int (nI i0.2), .int (nI e0.2), .int (nI t0.2), .int (nI mk), .int (nI L0.2)])), (gi, .inl (ci, 160, .inl (iN i0.1))), (gm, .inl (cm1, 160, .inl (zN ((mcF (mtg i0.1 i0.2 false) i0.2 1000 ((updB (fun _ => false) y.toNat true), true)).1))))] H := hP
    have hD : va_D A [(o, .inr (5, [.ref gi, .ref ge, .ref gt, .ref go, .ref gb, .ref gm, .ref gl, .int (nI i0.2), .int (nI e0.2), .int (nI t0.2), .int (nI mk), .int (nI L0.2)])), (gi, .inl (ci, 160, .inl (iN i0.1))), (gm, .inl (cm1, 160, .inl (zN ((mcF (mtg i0.1 i0.2 false) i0.2 1000 ((updB (fun _ => false) y.toNat true), true)).1))))] := hD
    refine stk (st2 := [.int (nI (cntB (mcF (mtg i0.1 i0.2 false) i0.2 1000 ((updB (fun _ => false) y.toNat true), true)).1 i0.2))]) rfl ?_
    rw [mBm, if_pos g, mBn, if_pos g, mB]
    exact eUi hx hb hr hlocks hP hD hS [0, 1, 2] rfl rfl (by decide) d_Mo_body_26 (rfl)
  · have g := of_decide_eq_false g5
    refine lv_iconst (v := nI 0) hx hb d_Mo_body_8 (by decide) ?_
    rw [mBm, if_neg g, mBn, if_neg g]
    exact eUi hx hb hr hlocks hP hD hS [0, 1, 2] rfl rfl (by decide) d_Mo_body_9 (rfl)

set_option maxHeartbeats 4000000 in
set_option maxRecDepth 100000 in
theorem c_Mo_sweep (l : Launch) (dC : Nat → ClassId) (dI : Nat → Nat → Nat) (z : zT) (o : Nat) (gi : Nat) (ge : Nat) (gt : Nat) (go : Nat) (gb : Nat) (gm : Nat) (gl : Nat) (i0 : txT) (e0 : txT) (t0 : txT) (mk : Nat) (L0 : txT) (ci : ClassId) (hn : i0.2 ≤ 160) (hb8 : ∀ i, i0.1 i < 256) : MR l y_Mo_sweep b_Mo_sweep 4 (some .int) 2 43 (dC, dI) z [.ref o] [(o, .inr (5, [.ref gi, .ref ge, .ref gt, .ref go, .ref gb, .ref gm, .ref gl, .int (nI i0.2), .int (nI e0.2), .int (nI t0.2), .int (nI mk), .int (nI L0.2)])), (gi, .inl (ci, 160, .inl (iN i0.1)))] [(ci, .int)] (.int (nI (msw i0.1 i0.2 i0.2 0 0 0))) := by
  refine metR (by decide) (Nat.le_of_ble_eq_true rfl) ?_
  intro p e s m below meth c ls hx hb hr hlocks hml hown ht hl hP hK hSS
  have hl : lv_has ls 4 [(0, .ref o)] := hl
  have hS : va_S (fun _ => False) s.heap s.heap [] := va_S.rf
  refine lv_iconst (v := nI 0) hx hb d_Mo_sweep_0 (by decide) ?_
  refine lv_istore_n (lv' := [(1, .int (nI 0)), (0, .ref o)]) hx hb d_Mo_sweep_1 rfl hl (Nat.le_of_ble_eq_true rfl) rfl (fun ls hl => ?_)
  refine lv_iconst (v := nI 0) hx hb d_Mo_sweep_2 (by decide) ?_
  refine lv_istore_n (lv' := [(2, .int (nI 0)), (1, .int (nI 0)), (0, .ref o)]) hx hb d_Mo_sweep_3 rfl hl (Nat.le_of_ble_eq_true rfl) rfl (fun ls hl => ?_)
  refine lv_iconst (v := nI 0) hx hb d_Mo_sweep_4 (by decide) ?_
  refine lv_istore_n (lv' := [(3, .int (nI 0)), (2, .int (nI 0)), (1, .int (nI 0)), (0, .ref o)]) hx hb d_Mo_sweep_5 rfl hl (Nat.le_of_ble_eq_true rfl) rfl (fun ls hl => ?_)
  have loop6 : ∀ (j : Nat) (a : Nat) (sk : Nat) (k : Nat) (ls : Array Slot), (a + j = i0.2) → (msw i0.1 i0.2 i0.2 0 0 0 = msw i0.1 i0.2 j a sk k) → (sk ≤ 2) → (k ≤ a) → lv_has ls 4 [(3, .int (nI a)), (2, .int (nI sk)), (1, .int (nI k)), (0, .ref o)] → W p l e (rmq 2 43) s m [.ref o].toArray below meth c s.heap [] 0 0 (MQ below (k2_QcV (.int (nI (msw i0.1 i0.2 i0.2 0 0 0)))) [.ref o].toArray s 0 0 (fun _ => False)) (F0 m 6 ls []) := by
    intro j
    induction j with
    | zero =>
      intro a sk k ls ha hR hsk hka hl
      refine lv_iload_n hx hb d_Mo_sweep_6 rfl (lv_at hl 0 rfl) ?_
      refine lv_aload_n hx hb d_Mo_sweep_7 rfl (lv_at hl 3 rfl) ?_
      refine va_get (D := (dC, dI)) (ci := 5) (v := .int (nI i0.2)) (C := R_Mo) (T := F_Mo) (N := 12) hx hb ht in_Mo hown hK hP 0 rfl rfl 7 (by decide) (ht _ k_498) (fun _ h9 => h9) rfl d_Mo_sweep_8 ?_
      refine z_icmp_ge (tgt := 51) hx hb d_Mo_sweep_11 (tI_n (by omega)) (tI_n (by omega)) (by decide) (fun g11 => ?_) (fun g11 => ?_)
      · refine lv_iload_n hx hb d_Mo_sweep_51 rfl (lv_at hl 2 rfl) ?_
        exact eRi hx hb hr hlocks d_Mo_sweep_52 (by rw [hR]; rfl)
      · exfalso; omega
    | succ j ih =>
      intro a sk k ls ha hR hsk hka hl
      have hl3 := mLen_le3 i0.1 i0.2 (a : Int)
      refine lv_iload_n hx hb d_Mo_sweep_6 rfl (lv_at hl 0 rfl) ?_
      refine lv_aload_n hx hb d_Mo_sweep_7 rfl (lv_at hl 3 rfl) ?_
      refine va_get (D := (dC, dI)) (ci := 5) (v := .int (nI i0.2)) (C := R_Mo) (T := F_Mo) (N := 12) hx hb ht in_Mo hown hK hP 0 rfl rfl 7 (by decide) (ht _ k_498) (fun _ h9 => h9) rfl d_Mo_sweep_8 ?_
      refine z_icmp_ge (tgt := 51) hx hb d_Mo_sweep_11 (tI_n (by omega)) (tI_n (by omega)) (by decide) (fun g11 => ?_) (fun g11 => ?_)
      · exfalso; omega
      · refine lv_iload_n hx hb d_Mo_sweep_14 rfl (lv_at hl 1 rfl) ?_
        refine z_if_le (tgt := 25) hx hb d_Mo_sweep_15 (tI_n (by omega)) (by decide) (fun g15 => ?_) (fun g15 => ?_)
        · refine lv_aload_n hx hb d_Mo_sweep_25 rfl (lv_at hl 3 rfl) ?_
          refine lv_iload_n hx hb d_Mo_sweep_26 rfl (lv_at hl 0 rfl) ?_
          refine rV (As := [.int (nI a)]) (rest := []) hx hb hml hown ht (c_Mo_length l dC dI z o gi ge gt go gb gm gl i0 e0 t0 mk L0 ci (nI a) ((a : Nat) : Int) (by first | assumption | omega) (by first | assumption | omega) (tI_n (by omega))) yv_Mo_length k_579 (Nat.le_of_ble_eq_true rfl) (Nat.le_of_ble_eq_true rfl) hP hK hSS hS [0, 1] [0] rfl rfl 0 5 rfl rfl rfl hl rfl rfl (Nat.le_of_ble_eq_true rfl) (Nat.zero_le _) (Nat.zero_le _) d_Mo_sweep_27 ?_
          refine z_if_le (tgt := 45) hx hb d_Mo_sweep_30 (tI_n (by omega)) (by decide) (fun g30 => ?_) (fun g30 => ?_)
          · refine lv_iinc (k := 0) (v := nI (a + 1)) (lv' := [(3, .int (nI (a + 1))), (2, .int (nI sk)), (1, .int (nI k)), (0, .ref o)]) hx hb d_Mo_sweep_45 hl rfl (nI_inc1 _) (Nat.le_of_ble_eq_true rfl) rfl (fun ls hl => ?_)
            refine lv_goto (tgt := 6) hx hb d_Mo_sweep_48 (by decide) ?_
            exact ih (a + 1) sk k _ (by omega) (by rw [hR, msw, if_neg (by omega), if_neg (by omega), show sk = 0 by omega]) (by omega) (by omega) (lv_sub hl [0, 1, 2, 3] rfl)
          · refine lv_iload_n hx hb d_Mo_sweep_33 rfl (lv_at hl 2 rfl) ?_
            refine lv_iconst (v := nI 1) hx hb d_Mo_sweep_34 (by decide) ?_
            refine nAdd hx hb d_Mo_sweep_35 ?_
            refine lv_istore_n (lv' := [(1, .int (nI (k + 1))), (3, .int (nI a)), (2, .int (nI sk)), (0, .ref o)]) hx hb d_Mo_sweep_36 rfl hl (Nat.le_of_ble_eq_true rfl) rfl (fun ls hl => ?_)
            refine lv_aload_n hx hb d_Mo_sweep_37 rfl (lv_at hl 3 rfl) ?_
            refine lv_iload_n hx hb d_Mo_sweep_38 rfl (lv_at hl 1 rfl) ?_
            refine rV (As := [.int (nI a)]) (rest := []) hx hb hml hown ht (c_Mo_length l dC dI z o gi ge gt go gb gm gl i0 e0 t0 mk L0 ci (nI a) ((a : Nat) : Int) (by first | assumption | omega) (by first | assumption | omega) (tI_n (by omega))) yv_Mo_length k_579 (Nat.le_of_ble_eq_true rfl) (Nat.le_of_ble_eq_true rfl) hP hK hSS hS [0, 1] [0] rfl rfl 0 5 rfl rfl rfl hl rfl rfl (Nat.le_of_ble_eq_true rfl) (Nat.zero_le _) (Nat.zero_le _) d_Mo_sweep_39 ?_
            refine lv_iconst (v := nI 1) hx hb d_Mo_sweep_42 (by decide) ?_
            refine nSub hx hb d_Mo_sweep_43 (by omega) ?_
            refine lv_istore_n (lv' := [(2, .int (nI ((mLen i0.1 i0.2 ((a : Nat) : Int)) - 1))), (1, .int (nI (k + 1))), (3, .int (nI a)), (0, .ref o)]) hx hb d_Mo_sweep_44 rfl hl (Nat.le_of_ble_eq_true rfl) rfl (fun ls hl => ?_)
            refine lv_iinc (k := 2) (v := nI (a + 1)) (lv' := [(3, .int (nI (a + 1))), (2, .int (nI ((mLen i0.1 i0.2 ((a : Nat) : Int)) - 1))), (1, .int (nI (k + 1))), (0, .ref o)]) hx hb d_Mo_sweep_45 hl rfl (nI_inc1 _) (Nat.le_of_ble_eq_true rfl) rfl (fun ls hl => ?_)
            refine lv_goto (tgt := 6) hx hb d_Mo_sweep_48 (by decide) ?_
            exact ih (a + 1) ((mLen i0.1 i0.2 ((a : Nat) : Int)) - 1) (k + 1) _ (by omega) (by rw [hR, msw, if_neg (by omega), if_pos (by omega)]) (by omega) (by omega) (lv_sub hl [0, 1, 2, 3] rfl)
        · refine lv_iload_n hx hb d_Mo_sweep_18 rfl (lv_at hl 1 rfl) ?_
          refine lv_iconst (v := nI 1) hx hb d_Mo_sweep_19 (by decide) ?_
          refine nSub hx hb d_Mo_sweep_20 (by omega) ?_
          refine lv_istore_n (lv' := [(2, .int (nI (sk - 1))), (3, .int (nI a)), (1, .int (nI k)), (0, .ref o)]) hx hb d_Mo_sweep_21 rfl hl (Nat.le_of_ble_eq_true rfl) rfl (fun ls hl => ?_)
          refine lv_goto (tgt := 45) hx hb d_Mo_sweep_22 (by decide) ?_
          refine lv_iinc (k := 1) (v := nI (a + 1)) (lv' := [(3, .int (nI (a + 1))), (2, .int (nI (sk - 1))), (1, .int (nI k)), (0, .ref o)]) hx hb d_Mo_sweep_45 hl rfl (nI_inc1 _) (Nat.le_of_ble_eq_true rfl) rfl (fun ls hl => ?_)
          refine lv_goto (tgt := 6) hx hb d_Mo_sweep_48 (by decide) ?_
          exact ih (a + 1) (sk - 1) k _ (by omega) (by rw [hR, msw, if_pos (by omega)]) (by omega) (by omega) (lv_sub hl [0, 1, 2, 3] rfl)
  exact loop6 i0.2 0 0 0 _ (Nat.zero_add _) (rfl) (Nat.zero_le _) (Nat.le_refl _) (lv_sub hl [0, 1, 2, 3] rfl)
