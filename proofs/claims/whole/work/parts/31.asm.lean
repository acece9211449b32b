set_option maxHeartbeats 4000000 in
set_option maxRecDepth 100000 in
theorem c_As_count (l : Launch) (dC : Nat → ClassId) (dI : Nat → Nat → Nat) (z : zT) (ha : Nat) (qa : Nat) (cb : ClassId) (a0 : abT) : MR l y_As_count b_As_count 1 (some .int) 0 0 (dC, dI) z [.ref ha] [(ha, .inr (0, [.ref qa, .int (nI a0.2)])), (qa, .inl (cb, 160, .inl a0.1))] [(cb, .int)] (.int (nI a0.2)) := by
  refine metR (by decide) (Nat.le_of_ble_eq_true rfl) ?_
  intro p e s m below meth c ls hx hb hr hlocks hml hown ht hl hP hK hSS
  have hl : lv_has ls 1 [(0, .ref ha)] := hl
  have hS : va_S (fun _ => False) s.heap s.heap [] := va_S.rf
  refine lv_aload_n hx hb d_As_count_0 rfl (lv_at hl 0 rfl) ?_
  refine va_get (D := (dC, dI)) (ci := 0) (v := .int (nI a0.2)) (C := R_As) (T := F_As) (N := 2) hx hb ht in_As hown hK hP 0 rfl rfl 1 (by decide) (ht _ k_83) (fun _ h9 => h9) rfl d_As_count_1 ?_
  exact eRi hx hb hr hlocks d_As_count_4 (rfl)

set_option maxHeartbeats 4000000 in
set_option maxRecDepth 100000 in
theorem c_As_addByte (l : Launch) (dC : Nat → ClassId) (dI : Nat → Nat → Nat) (z : zT) (sz : Nat) (ha : Nat) (qa : Nat) (cb : ClassId) (a0 : abT) (x : Int32) (ha0 : a0.2 ≤ 9000) : MU l y_As_addByte b_As_addByte 2 none 0 0 (dC, dI) z [.ref ha, .int x] [(ha, .inr (0, [.ref qa, .int (nI a0.2)])), (qa, .inl (cb, 160, .inl a0.1))] [(cb, .int)] sz none [(ha, .inr (0, [.ref qa, .int (nI ((adB a0 x).2))])), (qa, .inl (cb, 160, .inl ((adB a0 x).1)))] := by
  refine metU (by decide) (Nat.le_of_ble_eq_true rfl) ?_
  intro p e s m below meth c ls A hx hb hr hlocks hml hown ht hl hP hK hSS hD hS hA
  have hl : lv_has ls 2 [(0, .ref ha), (1, .int x)] := hl
  refine lv_aload_n hx hb d_As_addByte_0 rfl (lv_at hl 0 rfl) ?_
  refine va_get (D := (dC, dI)) (ci := 0) (v := .int (nI a0.2)) (C := R_As) (T := F_As) (N := 2) hx hb ht in_As hown hK hP 0 rfl rfl 1 (by decide) (ht _ k_83) (fun _ h9 => h9) rfl d_As_addByte_1 ?_
  refine lv_sipush (v := nI 160) hx hb d_As_addByte_4 (by decide) ?_
  refine z_icmp_ge (tgt := 20) hx hb d_As_addByte_7 (tI_n (by omega)) (tI_n (by omega)) (by decide) (fun g7 => ?_) (fun g7 => ?_)
  · refine lv_aload_n hx hb d_As_addByte_20 rfl (lv_at hl 0 rfl) ?_
    refine lv_dup hx hb d_As_addByte_21 rfl ?_
    refine va_get (D := (dC, dI)) (ci := 0) (v := .int (nI a0.2)) (C := R_As) (T := F_As) (N := 2) hx hb ht in_As hown hK hP 0 rfl rfl 1 (by decide) (ht _ k_83) (fun _ h9 => h9) rfl d_As_addByte_22 ?_
    refine lv_iconst (v := nI 1) hx hb d_As_addByte_25 (by decide) ?_
    refine nAdd hx hb d_As_addByte_26 ?_
    refine va_put (D := (dC, dI)) (ci := 0) (v := .int (nI (a0.2 + 1))) (ty := .int) (C := R_As) (T := F_As) (N := 2) hx hb ht in_As t_As t_As_ok n_As hown hK hP hD hS 0 rfl rfl 1 (by decide) (ht _ k_83) (fun _ h9 => h9) rfl (by decide +kernel) rfl rfl (Nat.le_of_ble_eq_true rfl) d_As_addByte_27 (fun H locs hP hD hS => ?_)
    have hP : va_P (dC, dI) classes [(ha, .inr (0, [.ref qa, .int (nI (a0.2 + 1))])), (qa, .inl (cb, 160, .inl a0.1))] H := hP
    have hD : va_D A [(ha, .inr (0, [.ref qa, .int (nI (a0.2 + 1))])), (qa, .inl (cb, 160, .inl a0.1))] := hD
    rw [adB, if_neg (by omega)]
    exact eUv hx hb hr hlocks hP hD hS [0, 1] rfl rfl (by decide) d_As_addByte_30
  · refine lv_aload_n hx hb d_As_addByte_10 rfl (lv_at hl 0 rfl) ?_
    refine va_get (D := (dC, dI)) (ci := 0) (v := .ref qa) (C := R_As) (T := F_As) (N := 2) hx hb ht in_As hown hK hP 0 rfl rfl 0 (by decide) (ht _ k_82) (fun _ h9 => h9) rfl d_As_addByte_11 ?_
    refine lv_aload_n hx hb d_As_addByte_14 rfl (lv_at hl 0 rfl) ?_
    refine va_get (D := (dC, dI)) (ci := 0) (v := .int (nI a0.2)) (C := R_As) (T := F_As) (N := 2) hx hb ht in_As hown hK hP 0 rfl rfl 1 (by decide) (ht _ k_83) (fun _ h9 => h9) rfl d_As_addByte_15 ?_
    refine lv_iload_n hx hb d_As_addByte_18 rfl (lv_at hl 1 rfl) ?_
    refine stX (q0 := 1) (t0 := 0) (w1 := [(ha, .inr (0, [.ref qa, .int (nI a0.2)])), (qa, .inl (cb, 160, .inl (upd a0.1 a0.2 x)))]) hx hb d_As_addByte_19 hK hP hD hS rfl rfl (by omega) (by decide) rfl (fun H locs hP hD hS => ?_)
    refine lv_aload_n hx hb d_As_addByte_20 rfl (lv_at hl 0 rfl) ?_
    refine lv_dup hx hb d_As_addByte_21 rfl ?_
    refine va_get (D := (dC, dI)) (ci := 0) (v := .int (nI a0.2)) (C := R_As) (T := F_As) (N := 2) hx hb ht in_As hown hK hP 0 rfl rfl 1 (by decide) (ht _ k_83) (fun _ h9 => h9) rfl d_As_addByte_22 ?_
    refine lv_iconst (v := nI 1) hx hb d_As_addByte_25 (by decide) ?_
    refine nAdd hx hb d_As_addByte_26 ?_
    refine va_put (D := (dC, dI)) (ci := 0) (v := .int (nI (a0.2 + 1))) (ty := .int) (C := R_As) (T := F_As) (N := 2) hx hb ht in_As t_As t_As_ok n_As hown hK hP hD hS 0 rfl rfl 1 (by decide) (ht _ k_83) (fun _ h9 => h9) rfl (by decide +kernel) rfl rfl (Nat.le_of_ble_eq_true rfl) d_As_addByte_27 (fun H locs hP hD hS => ?_)
    have hP : va_P (dC, dI) classes [(ha, .inr (0, [.ref qa, .int (nI (a0.2 + 1))])), (qa, .inl (cb, 160, .inl (upd a0.1 a0.2 x)))] H := hP
    have hD : va_D A [(ha, .inr (0, [.ref qa, .int (nI (a0.2 + 1))])), (qa, .inl (cb, 160, .inl (upd a0.1 a0.2 x)))] := hD
    rw [adB, if_pos (by omega)]
    exact eUv hx hb hr hlocks hP hD hS [0, 1] rfl rfl (by decide) d_As_addByte_30

set_option maxHeartbeats 4000000 in
set_option maxRecDepth 100000 in
theorem c_As_addBytes (l : Launch) (dC : Nat → ClassId) (dI : Nat → Nat → Nat) (z : zT) (sz : Nat) (ha : Nat) (qa : Nat) (cb : ClassId) (a0 : abT) (k : Nat) (g : Nat) (v : Int) (ha0 : a0.2 ≤ 8000) (hk : k < 14) (hg : g < 16) : MU l y_As_addBytes b_As_addBytes 4 none 1 21 (dC, dI) z [.ref ha, .int (nI k), .int (nI g), .int (iI v)] [(ha, .inr (0, [.ref qa, .int (nI a0.2)])), (qa, .inl (cb, 160, .inl a0.1))] [(cb, .int)] sz none [(ha, .inr (0, [.ref qa, .int (nI ((adBs k g v a0).2))])), (qa, .inl (cb, 160, .inl ((adBs k g v a0).1)))] := by
  have hkf := kF_lt k
  have hkn := kN_cases k hk
  refine metU (by decide) (Nat.le_of_ble_eq_true rfl) ?_
  intro p e s m below meth c ls A hx hb hr hlocks hml hown ht hl hP hK hSS hD hS hA
  have hl : lv_has ls 4 [(0, .ref ha), (1, .int (nI k)), (2, .int (nI g)), (3, .int (iI v))] := hl
  have cut16 : ∀  (a1 : abT) (ls : Array Slot) (H : Heap) (locs : List Loc), (adBs k g v a0 = ab3 k v (ab2 k v a1)) → (a1.2 ≤ a0.2 + 1) → lv_has ls 4 [(0, .ref ha), (1, .int (nI k)), (2, .int (nI g)), (3, .int (iI v))] → va_P (dC, dI) classes [(ha, .inr (0, [.ref qa, .int (nI a1.2)])), (qa, .inl (cb, 160, .inl a1.1))] H → va_D A [(ha, .inr (0, [.ref qa, .int (nI a1.2)])), (qa, .inl (cb, 160, .inl a1.1))] → va_S A s.heap H locs → W p l e (rmq 1 21) s m [.ref ha, .int (nI k), .int (nI g), .int (iI v)].toArray below meth c H locs 0 0 (MQ below (qcU none (dC, dI) [(ha, .inr (0, [.ref qa, .int (nI ((adBs k g v a0).2))])), (qa, .inl (cb, 160, .inl ((adBs k g v a0).1)))] A) [.ref ha, .int (nI k), .int (nI g), .int (iI v)].toArray s 0 0 A) (F0 m 16 ls []) := by
    intro a1 ls H locs hR1 hl1 hl hP hD hS
    have cut32 : ∀  (a2 : abT) (ls : Array Slot) (H : Heap) (locs : List Loc), (adBs k g v a0 = ab3 k v a2) → (a2.2 ≤ a0.2 + 2) → lv_has ls 4 [(0, .ref ha), (1, .int (nI k)), (2, .int (nI g)), (3, .int (iI v))] → va_P (dC, dI) classes [(ha, .inr (0, [.ref qa, .int (nI a2.2)])), (qa, .inl (cb, 160, .inl a2.1))] H → va_D A [(ha, .inr (0, [.ref qa, .int (nI a2.2)])), (qa, .inl (cb, 160, .inl a2.1))] → va_S A s.heap H locs → W p l e (rmq 1 21) s m [.ref ha, .int (nI k), .int (nI g), .int (iI v)].toArray below meth c H locs 0 0 (MQ below (qcU none (dC, dI) [(ha, .inr (0, [.ref qa, .int (nI ((adBs k g v a0).2))])), (qa, .inl (cb, 160, .inl ((adBs k g v a0).1)))] A) [.ref ha, .int (nI k), .int (nI g), .int (iI v)].toArray s 0 0 A) (F0 m 32 ls []) := by
      intro a2 ls H locs hR2 hl2 hl hP hD hS
      refine lv_iload_n hx hb d_As_addBytes_32 rfl (lv_at hl 1 rfl) ?_
      refine rS (As := [.int (nI k)]) (rest := []) hx hb hml hown ht (c_Ki_number l dC dI z k (by first | assumption | omega)) ys_Ki_number k_436 (Nat.le_of_ble_eq_true rfl) (Nat.le_of_ble_eq_true rfl) hP hK hSS hS [] [] rfl rfl hl rfl rfl (Nat.le_of_ble_eq_true rfl) (Nat.zero_le _) (Nat.zero_le _) d_As_addBytes_33 ?_
      refine z_if_eq (tgt := 48) hx hb d_As_addBytes_36 (tI_n (by omega)) (by decide) (fun g36 => ?_) (fun g36 => ?_)
      · rw [hR2, ab3, if_pos (by omega)]
        exact eUv hx hb hr hlocks hP hD hS [0, 1] rfl rfl (by decide) d_As_addBytes_48
      · refine lv_aload_n hx hb d_As_addBytes_39 rfl (lv_at hl 0 rfl) ?_
        refine lv_iload_n hx hb d_As_addBytes_40 rfl (lv_at hl 3 rfl) ?_
        refine lv_sipush (v := nI 255) hx hb d_As_addBytes_41 (by decide) ?_
        refine lv_iand hx hb d_As_addBytes_44 ?_
        refine eqi (y := iI v &&& 255) (rfl) ?_
        refine uV (As := [.int (iI v &&& 255)]) (rest := []) (wr := []) hx hb hml hown ht (c_As_addByte l dC dI z _ ha qa cb a2 (iI v &&& 255) (by first | assumption | omega)) yv_As_addByte k_461 (Nat.le_of_ble_eq_true rfl) (Nat.le_of_ble_eq_true rfl) hP hK hSS hD hS hA [0, 1] [] [0] rfl rfl (by decide) rfl (by decide) (by decide) rfl 0 0 rfl rfl rfl hl rfl rfl (Nat.le_of_ble_eq_true rfl) (Nat.zero_le _) (Nat.zero_le _) d_As_addBytes_45 (fun H locs hP hD hS => ?_)
        have hP : va_P (dC, dI) classes [(ha, .inr (0, [.ref qa, .int (nI ((adB a2 (iI v &&& 255)).2))])), (qa, .inl (cb, 160, .inl ((adB a2 (iI v &&& 255)).1)))] H := hP
        have hD : va_D A [(ha, .inr (0, [.ref qa, .int (nI ((adB a2 (iI v &&& 255)).2))])), (qa, .inl (cb, 160, .inl ((adB a2 (iI v &&& 255)).1)))] := hD
        refine stk (st2 := []) rfl ?_
        rw [hR2, ab3, if_neg (by omega)]
        exact eUv hx hb hr hlocks hP hD hS [0, 1] rfl rfl (by decide) d_As_addBytes_48
    refine lv_iload_n hx hb d_As_addBytes_16 rfl (lv_at hl 1 rfl) ?_
    refine rS (As := [.int (nI k)]) (rest := []) hx hb hml hown ht (c_Ki_number l dC dI z k (by first | assumption | omega)) ys_Ki_number k_436 (Nat.le_of_ble_eq_true rfl) (Nat.le_of_ble_eq_true rfl) hP hK hSS hS [] [] rfl rfl hl rfl rfl (Nat.le_of_ble_eq_true rfl) (Nat.zero_le _) (Nat.zero_le _) d_As_addBytes_17 ?_
    refine lv_iconst (v := nI 3) hx hb d_As_addBytes_20 (by decide) ?_
    refine z_icmp_ne (tgt := 32) hx hb d_As_addBytes_21 (tI_n (by omega)) (tI_n (by omega)) (by decide) (fun g21 => ?_) (fun g21 => ?_)
    · exact cut32 a1 _ _ _ (by rw [hR1, ab2, if_neg (by omega)]) (by omega) (lv_sub hl [0, 1, 2, 3] rfl) (hP.sub [0, 1] rfl) (hD.sub [0, 1] (by decide) rfl) hS
    · refine lv_aload_n hx hb d_As_addBytes_24 rfl (lv_at hl 0 rfl) ?_
      refine lv_iload_n hx hb d_As_addBytes_25 rfl (lv_at hl 3 rfl) ?_
      refine lv_bipush (v := nI 8) hx hb d_As_addBytes_26 (by decide) ?_
      refine lv_ishr hx hb d_As_addBytes_28 ?_
      refine eqi (y := iI v >>> ((8 : Int32) &&& 31)) (rfl) ?_
      refine uV (As := [.int (iI v >>> ((8 : Int32) &&& 31))]) (rest := []) (wr := []) hx hb hml hown ht (c_As_addByte l dC dI z _ ha qa cb a1 (iI v >>> ((8 : Int32) &&& 31)) (by first | assumption | omega)) yv_As_addByte k_461 (Nat.le_of_ble_eq_true rfl) (Nat.le_of_ble_eq_true rfl) hP hK hSS hD hS hA [0, 1] [] [0] rfl rfl (by decide) rfl (by decide) (by decide) rfl 0 0 rfl rfl rfl hl rfl rfl (Nat.le_of_ble_eq_true rfl) (Nat.zero_le _) (Nat.zero_le _) d_As_addBytes_29 (fun H locs hP hD hS => ?_)
      have hP : va_P (dC, dI) classes [(ha, .inr (0, [.ref qa, .int (nI ((adB a1 (iI v >>> ((8 : Int32) &&& 31))).2))])), (qa, .inl (cb, 160, .inl ((adB a1 (iI v >>> ((8 : Int32) &&& 31))).1)))] H := hP
      have hD : va_D A [(ha, .inr (0, [.ref qa, .int (nI ((adB a1 (iI v >>> ((8 : Int32) &&& 31))).2))])), (qa, .inl (cb, 160, .inl ((adB a1 (iI v >>> ((8 : Int32) &&& 31))).1)))] := hD
      refine stk (st2 := []) rfl ?_
      exact cut32 (adB a1 (iI v >>> ((8 : Int32) &&& 31))) _ _ _ (by rw [hR1, ab2, if_pos (by omega)]) (by show a1.2 + 1 ≤ _; omega) (lv_sub hl [0, 1, 2, 3] rfl) (hP.sub [0, 1] rfl) (hD.sub [0, 1] (by decide) rfl) hS
  refine lv_iload_n hx hb d_As_addBytes_0 rfl (lv_at hl 1 rfl) ?_
  refine lv_bipush (v := nI 13) hx hb d_As_addBytes_1 (by decide) ?_
  refine z_icmp_eq (tgt := 16) hx hb d_As_addBytes_3 (tI_n (by omega)) (tI_n (by omega)) (by decide) (fun g3 => ?_) (fun g3 => ?_)
  · exact cut16 a0 _ _ _ (by rw [adBs_e, ab1, if_pos (by omega)]) (by omega) (lv_sub hl [0, 1, 2, 3] rfl) (hP.sub [0, 1] rfl) (hD.sub [0, 1] (by decide) rfl) hS
  · refine lv_aload_n hx hb d_As_addBytes_6 rfl (lv_at hl 0 rfl) ?_
    refine lv_iload_n hx hb d_As_addBytes_7 rfl (lv_at hl 1 rfl) ?_
    refine rS (As := [.int (nI k)]) (rest := [.ref ha]) hx hb hml hown ht (c_Ki_first l dC dI z k (by first | assumption | omega)) ys_Ki_first k_460 (Nat.le_of_ble_eq_true rfl) (Nat.le_of_ble_eq_true rfl) hP hK hSS hS [] [] rfl rfl hl rfl rfl (Nat.le_of_ble_eq_true rfl) (Nat.zero_le _) (Nat.zero_le _) d_As_addBytes_8 ?_
    refine lv_iload_n hx hb d_As_addBytes_11 rfl (lv_at hl 2 rfl) ?_
    refine nAdd hx hb d_As_addBytes_12 ?_
    refine uV (As := [.int (nI ((kF k) + g))]) (rest := []) (wr := []) hx hb hml hown ht (c_As_addByte l dC dI z _ ha qa cb a0 (nI ((kF k) + g)) (by first | assumption | omega)) yv_As_addByte k_461 (Nat.le_of_ble_eq_true rfl) (Nat.le_of_ble_eq_true rfl) hP hK hSS hD hS hA [0, 1] [] [0] rfl rfl (by decide) rfl (by decide) (by decide) rfl 0 0 rfl rfl rfl hl rfl rfl (Nat.le_of_ble_eq_true rfl) (Nat.zero_le _) (Nat.zero_le _) d_As_addBytes_13 (fun H locs hP hD hS => ?_)
    have hP : va_P (dC, dI) classes [(ha, .inr (0, [.ref qa, .int (nI ((adB a0 (nI ((kF k) + g))).2))])), (qa, .inl (cb, 160, .inl ((adB a0 (nI ((kF k) + g))).1)))] H := hP
    have hD : va_D A [(ha, .inr (0, [.ref qa, .int (nI ((adB a0 (nI ((kF k) + g))).2))])), (qa, .inl (cb, 160, .inl ((adB a0 (nI ((kF k) + g))).1)))] := hD
    refine stk (st2 := []) rfl ?_
    exact cut16 (adB a0 (nI ((kF k) + g))) _ _ _ (by rw [adBs_e, ab1, if_neg (by omega)]) (Nat.le_refl _) (lv_sub hl [0, 1, 2, 3] rfl) (hP.sub [0, 1] rfl) (hD.sub [0, 1] (by decide) rfl) hS

set_option maxHeartbeats 4000000 in
set_option maxRecDepth 100000 in
theorem c_As_readRegisters (l : Launch) (dC : Nat → ClassId) (dI : Nat → Nat → Nat) (z : zT) (sz : Nat) (h : Nat) (q : Nat) (cc : ClassId) (s0 : txT) (r0 : rdT) (k : Nat) (hs : s0.2 ≤ 2400) (hr1 : r0.1 ≤ s0.2) (ht8 : ∀ i, s0.1 i < 256) (hk : k < 14) : MU l y_As_readRegisters b_As_readRegisters 4 (some .int) 3 63 (dC, dI) z [.ref h, .int (nI k)] [(h, .inr (2, [.ref q, .int (nI s0.2), .int (nI r0.1), .int (bI r0.2)])), (q, .inl (cc, 2400, .inl (iN s0.1)))] [(cc, .char)] sz (some (.int (nI ((rdR s0.1 s0.2 k r0).2)))) [(h, .inr (2, [.ref q, .int (nI s0.2), .int (nI ((rdR s0.1 s0.2 k r0).1.1)), .int (bI ((rdR s0.1 s0.2 k r0).1.2))])), (q, .inl (cc, 2400, .inl (iN s0.1)))] := by
  have hkr := kR_le k
  refine metU (by decide) (Nat.le_of_ble_eq_true rfl) ?_
  intro p e s m below meth c ls A hx hb hr hlocks hml hown ht hl hP hK hSS hD hS hA
  have hl : lv_has ls 4 [(0, .ref h), (1, .int (nI k))] := hl
  refine lv_iconst (v := nI 0) hx hb d_As_readRegisters_0 (by decide) ?_
  refine lv_istore_n (lv' := [(2, .int (nI 0)), (0, .ref h), (1, .int (nI k))]) hx hb d_As_readRegisters_1 rfl hl (Nat.le_of_ble_eq_true rfl) rfl (fun ls hl => ?_)
  refine lv_iconst (v := nI 0) hx hb d_As_readRegisters_2 (by decide) ?_
  refine lv_istore_n (lv' := [(3, .int (nI 0)), (2, .int (nI 0)), (0, .ref h), (1, .int (nI k))]) hx hb d_As_readRegisters_3 rfl hl (Nat.le_of_ble_eq_true rfl) rfl (fun ls hl => ?_)
  have loop4 : ∀ (j : Nat) (i : Nat) (r1 : rdT) (g : Nat) (ls : Array Slot) (H : Heap) (locs : List Loc), (i + j = kR k) → (rdR s0.1 s0.2 k r0 = rdRF s0.1 s0.2 j i r1 g) → (r1.1 ≤ s0.2) → (g < 4 ^ i) → lv_has ls 4 [(3, .int (nI i)), (2, .int (nI g)), (0, .ref h), (1, .int (nI k))] → va_P (dC, dI) classes [(h, .inr (2, [.ref q, .int (nI s0.2), .int (nI r1.1), .int (bI r1.2)])), (q, .inl (cc, 2400, .inl (iN s0.1)))] H → va_D A [(h, .inr (2, [.ref q, .int (nI s0.2), .int (nI r1.1), .int (bI r1.2)])), (q, .inl (cc, 2400, .inl (iN s0.1)))] → va_S A s.heap H locs → W p l e (rmq 3 63) s m [.ref h, .int (nI k)].toArray below meth c H locs 0 0 (MQ below (qcU (some (.int (nI ((rdR s0.1 s0.2 k r0).2)))) (dC, dI) [(h, .inr (2, [.ref q, .int (nI s0.2), .int (nI ((rdR s0.1 s0.2 k r0).1.1)), .int (bI ((rdR s0.1 s0.2 k r0).1.2))])), (q, .inl (cc, 2400, .inl (iN s0.1)))] A) [.ref h, .int (nI k)].toArray s 0 0 A) (F0 m 4 ls []) := by
    intro j
    induction j with
    | zero =>
      intro i r1 g ls H locs hi hR hr3 hg hl hP hD hS
      have hRe : rdR s0.1 s0.2 k r0 = (r1, g) := hR
      refine lv_iload_n hx hb d_As_readRegisters_4 rfl (lv_at hl 0 rfl) ?_
      refine lv_iload_n hx hb d_As_readRegisters_5 rfl (lv_at hl 3 rfl) ?_
      refine rS (As := [.int (nI k)]) (rest := [.int (nI i)]) hx hb hml hown ht (c_Ki_registers l dC dI z k (by first | assumption | omega)) ys_Ki_registers k_420 (Nat.le_of_ble_eq_true rfl) (Nat.le_of_ble_eq_true rfl) hP hK hSS hS [] [] rfl rfl hl rfl rfl (Nat.le_of_ble_eq_true rfl) (Nat.zero_le _) (Nat.zero_le _) d_As_readRegisters_6 ?_
      refine z_icmp_ge (tgt := 32) hx hb d_As_readRegisters_9 (tI_n (by omega)) (tI_n (by omega)) (by decide) (fun g9 => ?_) (fun g9 => ?_)
      · refine lv_iload_n hx hb d_As_readRegisters_32 rfl (lv_at hl 1 rfl) ?_
        rw [hRe]
        exact eUi hx hb hr hlocks hP hD hS [0, 1] rfl rfl (by decide) d_As_readRegisters_33 (rfl)
      · exfalso; omega
    | succ j ih =>
      intro i r1 g ls H locs hi hR hr3 hg hl hP hD hS
      have hcc := tkC_le (t := s0.1) (k := i) hr3
      have hrr := tkR_le (t := s0.1) hcc
      have h4 : 4 ^ i ≤ 4 ^ 2 := Nat.pow_le_pow_right (by omega) (by omega)
      refine lv_iload_n hx hb d_As_readRegisters_4 rfl (lv_at hl 0 rfl) ?_
      refine lv_iload_n hx hb d_As_readRegisters_5 rfl (lv_at hl 3 rfl) ?_
      refine rS (As := [.int (nI k)]) (rest := [.int (nI i)]) hx hb hml hown ht (c_Ki_registers l dC dI z k (by first | assumption | omega)) ys_Ki_registers k_420 (Nat.le_of_ble_eq_true rfl) (Nat.le_of_ble_eq_true rfl) hP hK hSS hS [] [] rfl rfl hl rfl rfl (Nat.le_of_ble_eq_true rfl) (Nat.zero_le _) (Nat.zero_le _) d_As_readRegisters_6 ?_
      refine z_icmp_ge (tgt := 32) hx hb d_As_readRegisters_9 (tI_n (by omega)) (tI_n (by omega)) (by decide) (fun g9 => ?_) (fun g9 => ?_)
      · exfalso; omega
      · refine lv_aload_n hx hb d_As_readRegisters_12 rfl (lv_at hl 2 rfl) ?_
        refine lv_iload_n hx hb d_As_readRegisters_13 rfl (lv_at hl 0 rfl) ?_
        refine uV (As := [.int (nI i)]) (rest := []) (wr := []) hx hb hml hown ht (c_Te_takeComma l dC dI z _ h q cc s0 r1 i (by first | assumption | omega) (by first | assumption | omega) (by first | assumption | omega) (by first | assumption | omega)) yv_Te_takeComma k_421 (Nat.le_of_ble_eq_true rfl) (Nat.le_of_ble_eq_true rfl) hP hK hSS hD hS hA [0, 1] [] [0] rfl rfl (by decide) rfl (by decide) (by decide) rfl 0 2 rfl rfl rfl hl rfl rfl (Nat.le_of_ble_eq_true rfl) (Nat.zero_le _) (Nat.zero_le _) d_As_readRegisters_14 (fun H locs hP hD hS => ?_)
        have hP : va_P (dC, dI) classes [(h, .inr (2, [.ref q, .int (nI s0.2), .int (nI ((tkC s0.1 s0.2 i r1).1)), .int (bI ((tkC s0.1 s0.2 i r1).2))])), (q, .inl (cc, 2400, .inl (iN s0.1)))] H := hP
        have hD : va_D A [(h, .inr (2, [.ref q, .int (nI s0.2), .int (nI ((tkC s0.1 s0.2 i r1).1)), .int (bI ((tkC s0.1 s0.2 i r1).2))])), (q, .inl (cc, 2400, .inl (iN s0.1)))] := hD
        refine stk (st2 := []) rfl ?_
        refine lv_iconst (v := nI 4) hx hb d_As_readRegisters_17 (by decide) ?_
        refine lv_iload_n hx hb d_As_readRegisters_18 rfl (lv_at hl 1 rfl) ?_
        refine nMul hx hb d_As_readRegisters_19 ?_
        refine lv_aload_n hx hb d_As_readRegisters_20 rfl (lv_at hl 2 rfl) ?_
        refine uV (As := []) (rest := [.int (nI (4 * g))]) (wr := []) hx hb hml hown ht (c_Te_takeRegister l dC dI z _ h q cc s0 (tkC s0.1 s0.2 i r1) (by first | assumption | omega) (by first | assumption | omega) (by first | assumption | omega)) yv_Te_takeRegister k_429 (Nat.le_of_ble_eq_true rfl) (Nat.le_of_ble_eq_true rfl) hP hK hSS hD hS hA [0, 1] [] [0] rfl rfl (by decide) rfl (by decide) (by decide) rfl 0 2 rfl rfl rfl hl rfl rfl (Nat.le_of_ble_eq_true rfl) (Nat.zero_le _) (Nat.zero_le _) d_As_readRegisters_21 (fun H locs hP hD hS => ?_)
        have hP : va_P (dC, dI) classes [(h, .inr (2, [.ref q, .int (nI s0.2), .int (nI ((tkR2 s0.1 s0.2 (tkC s0.1 s0.2 i r1)).1)), .int (bI ((tkR2 s0.1 s0.2 (tkC s0.1 s0.2 i r1)).2))])), (q, .inl (cc, 2400, .inl (iN s0.1)))] H := hP
        have hD : va_D A [(h, .inr (2, [.ref q, .int (nI s0.2), .int (nI ((tkR2 s0.1 s0.2 (tkC s0.1 s0.2 i r1)).1)), .int (bI ((tkR2 s0.1 s0.2 (tkC s0.1 s0.2 i r1)).2))])), (q, .inl (cc, 2400, .inl (iN s0.1)))] := hD
        refine stk (st2 := [.int (nI (tkR1 s0.1 s0.2 (tkC s0.1 s0.2 i r1))), .int (nI (4 * g))]) rfl ?_
        refine nAdd hx hb d_As_readRegisters_24 ?_
        refine lv_istore_n (lv' := [(2, .int (nI ((4 * g) + (tkR1 s0.1 s0.2 (tkC s0.1 s0.2 i r1))))), (3, .int (nI i)), (0, .ref h), (1, .int (nI k))]) hx hb d_As_readRegisters_25 rfl hl (Nat.le_of_ble_eq_true rfl) rfl (fun ls hl => ?_)
        refine lv_iinc (k := 1) (v := nI (i + 1)) (lv' := [(3, .int (nI (i + 1))), (2, .int (nI ((4 * g) + (tkR1 s0.1 s0.2 (tkC s0.1 s0.2 i r1))))), (0, .ref h), (1, .int (nI k))]) hx hb d_As_readRegisters_26 hl rfl (nI_inc1 _) (Nat.le_of_ble_eq_true rfl) rfl (fun ls hl => ?_)
        refine lv_goto (tgt := 4) hx hb d_As_readRegisters_29 (by decide) ?_
        exact ih (i + 1) (tkR2 s0.1 s0.2 (tkC s0.1 s0.2 i r1)) (4 * g + tkR1 s0.1 s0.2 (tkC s0.1 s0.2 i r1)) _ _ _ (by omega) (by rw [hR, rdRF]) (hrr.1) (by rw [Nat.pow_succ]; omega) (lv_sub hl [0, 1, 2, 3] rfl) (hP.sub [0, 1] rfl) (hD.sub [0, 1] (by decide) rfl) hS
  exact loop4 (kR k) 0 r0 0 _ _ _ (Nat.zero_add _) (rfl) (hr1) (by decide) (lv_sub hl [0, 1, 2, 3] rfl) (hP.sub [0, 1] rfl) (hD.sub [0, 1] (by decide) rfl) hS

set_option maxHeartbeats 4000000 in
set_option maxRecDepth 100000 in
theorem c_As_readNumber (l : Launch) (dC : Nat → ClassId) (dI : Nat → Nat → Nat) (z : zT) (sz : Nat) (h : Nat) (q : Nat) (cc : ClassId) (s0 : txT) (r0 : rdT) (k : Nat) (hs : s0.2 ≤ 2400) (hr1 : r0.1 ≤ s0.2) (ht8 : ∀ i, s0.1 i < 256) (hk : k < 14) : MU l y_As_readNumber b_As_readNumber 3 (some .int) 3 69 (dC, dI) z [.ref h, .int (nI k)] [(h, .inr (2, [.ref q, .int (nI s0.2), .int (nI r0.1), .int (bI r0.2)])), (q, .inl (cc, 2400, .inl (iN s0.1)))] [(cc, .char)] sz (some (.int (iI (rdN1 s0.1 s0.2 k r0)))) [(h, .inr (2, [.ref q, .int (nI s0.2), .int (nI ((rdN2 s0.1 s0.2 k r0).1)), .int (bI ((rdN2 s0.1 s0.2 k r0).2))])), (q, .inl (cc, 2400, .inl (iN s0.1)))] := by
  have hkr := kR_le k
  have hkn := kN_cases k hk
  have hcc := tkC_le (t := s0.1) (k := kR k) hr1
  have hlh := loN_hiN (kN k)
  have hll := loN_in (kN k)
  refine metU (by decide) (Nat.le_of_ble_eq_true rfl) ?_
  intro p e s m below meth c ls A hx hb hr hlocks hml hown ht hl hP hK hSS hD hS hA
  have hl : lv_has ls 3 [(0, .ref h), (1, .int (nI k))] := hl
  refine lv_iload_n hx hb d_As_readNumber_0 rfl (lv_at hl 1 rfl) ?_
  refine rS (As := [.int (nI k)]) (rest := []) hx hb hml hown ht (c_Ki_number l dC dI z k (by first | assumption | omega)) ys_Ki_number k_436 (Nat.le_of_ble_eq_true rfl) (Nat.le_of_ble_eq_true rfl) hP hK hSS hS [] [] rfl rfl hl rfl rfl (Nat.le_of_ble_eq_true rfl) (Nat.zero_le _) (Nat.zero_le _) d_As_readNumber_1 ?_
  refine lv_istore_n (lv' := [(2, .int (nI (kN k))), (0, .ref h), (1, .int (nI k))]) hx hb d_As_readNumber_4 rfl hl (Nat.le_of_ble_eq_true rfl) rfl (fun ls hl => ?_)
  refine lv_iload_n hx hb d_As_readNumber_5 rfl (lv_at hl 0 rfl) ?_
  refine z_if_ne (tgt := 11) hx hb d_As_readNumber_6 (tI_n (by omega)) (by decide) (fun g6 => ?_) (fun g6 => ?_)
  · refine lv_aload_n hx hb d_As_readNumber_11 rfl (lv_at hl 1 rfl) ?_
    refine lv_iload_n hx hb d_As_readNumber_12 rfl (lv_at hl 2 rfl) ?_
    refine rS (As := [.int (nI k)]) (rest := [.ref h]) hx hb hml hown ht (c_Ki_registers l dC dI z k (by first | assumption | omega)) ys_Ki_registers k_420 (Nat.le_of_ble_eq_true rfl) (Nat.le_of_ble_eq_true rfl) hP hK hSS hS [] [] rfl rfl hl rfl rfl (Nat.le_of_ble_eq_true rfl) (Nat.zero_le _) (Nat.zero_le _) d_As_readNumber_13 ?_
    refine uV (As := [.int (nI (kR k))]) (rest := []) (wr := []) hx hb hml hown ht (c_Te_takeComma l dC dI z _ h q cc s0 r0 (kR k) (by first | assumption | omega) (by first | assumption | omega) (by first | assumption | omega) (by first | assumption | omega)) yv_Te_takeComma k_421 (Nat.le_of_ble_eq_true rfl) (Nat.le_of_ble_eq_true rfl) hP hK hSS hD hS hA [0, 1] [] [0] rfl rfl (by decide) rfl (by decide) (by decide) rfl 0 2 rfl rfl rfl hl rfl rfl (Nat.le_of_ble_eq_true rfl) (Nat.zero_le _) (Nat.zero_le _) d_As_readNumber_16 (fun H locs hP hD hS => ?_)
    have hP : va_P (dC, dI) classes [(h, .inr (2, [.ref q, .int (nI s0.2), .int (nI ((tkC s0.1 s0.2 (kR k) r0).1)), .int (bI ((tkC s0.1 s0.2 (kR k) r0).2))])), (q, .inl (cc, 2400, .inl (iN s0.1)))] H := hP
    have hD : va_D A [(h, .inr (2, [.ref q, .int (nI s0.2), .int (nI ((tkC s0.1 s0.2 (kR k) r0).1)), .int (bI ((tkC s0.1 s0.2 (kR k) r0).2))])), (q, .inl (cc, 2400, .inl (iN s0.1)))] := hD
    refine stk (st2 := []) rfl ?_
    refine lv_aload_n hx hb d_As_readNumber_19 rfl (lv_at hl 1 rfl) ?_
    refine lv_iload_n hx hb d_As_readNumber_20 rfl (lv_at hl 0 rfl) ?_
    refine rS (As := [.int (nI (kN k))]) (rest := [.ref h]) hx hb hml hown ht (c_Ki_lowest l dC dI z (kN k) (by first | assumption | omega)) ys_Ki_lowest k_437 (Nat.le_of_ble_eq_true rfl) (Nat.le_of_ble_eq_true rfl) hP hK hSS hS [] [] rfl rfl hl rfl rfl (Nat.le_of_ble_eq_true rfl) (Nat.zero_le _) (Nat.zero_le _) d_As_readNumber_21 ?_
    refine lv_iload_n hx hb d_As_readNumber_24 rfl (lv_at hl 0 rfl) ?_
    refine rS (As := [.int (nI (kN k))]) (rest := [.int (iI (loN (kN k))), .ref h]) hx hb hml hown ht (c_Ki_highest l dC dI z (kN k) (by first | assumption | omega)) ys_Ki_highest k_440 (Nat.le_of_ble_eq_true rfl) (Nat.le_of_ble_eq_true rfl) hP hK hSS hS [] [] rfl rfl hl rfl rfl (Nat.le_of_ble_eq_true rfl) (Nat.zero_le _) (Nat.zero_le _) d_As_readNumber_25 ?_
    refine uV (As := [.int (iI (loN (kN k))), .int (iI (hiN (kN k)))]) (rest := []) (wr := []) hx hb hml hown ht (c_Te_takeNumber l dC dI z _ h q cc s0 (tkC s0.1 s0.2 (kR k) r0) (loN (kN k)) (hiN (kN k)) (by first | assumption | omega) (by first | assumption | omega) (by first | assumption | omega) (by first | assumption | omega) (by first | assumption | omega)) yv_Te_takeNumber k_444 (Nat.le_of_ble_eq_true rfl) (Nat.le_of_ble_eq_true rfl) hP hK hSS hD hS hA [0, 1] [] [0] rfl rfl (by decide) rfl (by decide) (by decide) rfl 0 2 rfl rfl rfl hl rfl rfl (Nat.le_of_ble_eq_true rfl) (Nat.zero_le _) (Nat.zero_le _) d_As_readNumber_28 (fun H locs hP hD hS => ?_)
    have hP : va_P (dC, dI) classes [(h, .inr (2, [.ref q, .int (nI s0.2), .int (nI ((tkN2 s0.1 s0.2 (loN (kN k)) (hiN (kN k)) (tkC s0.1 s0.2 (kR k) r0)).1)), .int (bI ((tkN2 s0.1 s0.2 (loN (kN k)) (hiN (kN k)) (tkC s0.1 s0.2 (kR k) r0)).2))])), (q, .inl (cc, 2400, .inl (iN s0.1)))] H := hP
    have hD : va_D A [(h, .inr (2, [.ref q, .int (nI s0.2), .int (nI ((tkN2 s0.1 s0.2 (loN (kN k)) (hiN (kN k)) (tkC s0.1 s0.2 (kR k) r0)).1)), .int (bI ((tkN2 s0.1 s0.2 (loN (kN k)) (hiN (kN k)) (tkC s0.1 s0.2 (kR k) r0)).2))])), (q, .inl (cc, 2400, .inl (iN s0.1)))] := hD
    refine stk (st2 := [.int (iI (tkN1 s0.1 s0.2 (tkC s0.1 s0.2 (kR k) r0)))]) rfl ?_
    rw [rdN2, if_neg (by omega)]
    exact eUi hx hb hr hlocks hP hD hS [0, 1] rfl rfl (by decide) d_As_readNumber_31 (by rw [rdN1, if_neg (by omega)])
  · refine lv_iconst (v := nI 0) hx hb d_As_readNumber_9 (by decide) ?_
    rw [rdN2, if_pos (by omega)]
    exact eUi hx hb hr hlocks hP hD hS [0, 1] rfl rfl (by decide) d_As_readNumber_10 (by rw [rdN1, if_pos (by omega)]; decide)

set_option maxHeartbeats 4000000 in
set_option maxRecDepth 100000 in
theorem c_As_readLine (l : Launch) (dC : Nat → ClassId) (dI : Nat → Nat → Nat) (z : zT) (sz : Nat) (ha : Nat) (qa : Nat) (cb : ClassId) (a0 : abT) (h : Nat) (q : Nat) (cc : ClassId) (s0 : txT) (r0 : rdT) (ha0 : a0.2 ≤ 8000) (hs : s0.2 ≤ 2400) (hr1 : r0.1 ≤ s0.2) (ht8 : ∀ i, s0.1 i < 256) : MU l y_As_readLine b_As_readLine 5 none 6 129 (dC, dI) z [.ref ha, .ref h] [(ha, .inr (0, [.ref qa, .int (nI a0.2)])), (qa, .inl (cb, 160, .inl a0.1)), (h, .inr (2, [.ref q, .int (nI s0.2), .int (nI r0.1), .int (bI r0.2)])), (q, .inl (cc, 2400, .inl (iN s0.1)))] [(cb, .int), (cc, .char)] sz none [(ha, .inr (0, [.ref qa, .int (nI ((rdLs s0.1 s0.2 r0 a0).2))])), (qa, .inl (cb, 160, .inl ((rdLs s0.1 s0.2 r0 a0).1))), (h, .inr (2, [.ref q, .int (nI s0.2), .int (nI ((rdLr s0.1 s0.2 r0).1)), .int (bI ((rdLr s0.1 s0.2 r0).2))])), (q, .inl (cc, 2400, .inl (iN s0.1)))] := by
  refine metU (by decide) (Nat.le_of_ble_eq_true rfl) ?_
  intro p e s m below meth c ls A hx hb hr hlocks hml hown ht hl hP hK hSS hD hS hA
  have hl : lv_has ls 5 [(0, .ref ha), (1, .ref h)] := hl
  refine lv_aload_n hx hb d_As_readLine_0 rfl (lv_at hl 1 rfl) ?_
  refine uV (As := []) (rest := []) (wr := [(ha, .inr (0, [.ref qa, .int (nI a0.2)])), (qa, .inl (cb, 160, .inl a0.1))]) hx hb hml hown ht (c_Te_takeKind l dC dI z _ h q cc s0 r0 (by first | assumption | omega) (by first | assumption | omega) (by first | assumption | omega)) yv_Te_takeKind k_408 (Nat.le_of_ble_eq_true rfl) (Nat.le_of_ble_eq_true rfl) hP hK hSS hD hS hA [2, 3] [0, 1] [1] rfl rfl (by decide) rfl (by decide) (by decide) rfl 2 2 rfl rfl rfl hl rfl rfl (Nat.le_of_ble_eq_true rfl) (Nat.zero_le _) (Nat.zero_le _) d_As_readLine_1 (fun H locs hP hD hS => ?_)
  have hP : va_P (dC, dI) classes [(ha, .inr (0, [.ref qa, .int (nI a0.2)])), (qa, .inl (cb, 160, .inl a0.1)), (h, .inr (2, [.ref q, .int (nI s0.2), .int (nI ((tkK2 s0.1 s0.2 r0).1)), .int (bI ((tkK2 s0.1 s0.2 r0).2))])), (q, .inl (cc, 2400, .inl (iN s0.1)))] H := hP
  have hD : va_D A [(ha, .inr (0, [.ref qa, .int (nI a0.2)])), (qa, .inl (cb, 160, .inl a0.1)), (h, .inr (2, [.ref q, .int (nI s0.2), .int (nI ((tkK2 s0.1 s0.2 r0).1)), .int (bI ((tkK2 s0.1 s0.2 r0).2))])), (q, .inl (cc, 2400, .inl (iN s0.1)))] := hD
  refine stk (st2 := [.int (oI (tkK1 s0.1 s0.2 r0))]) rfl ?_
  rcases ek : tkK1 s0.1 s0.2 r0 with _ | k
  · obtain ⟨hq1, hq2⟩ := rdL_n (a := a0) ek
    refine eqi (y := iI (-1)) rfl ?_
    refine lv_istore_n (lv' := [(2, .int (iI (-1))), (0, .ref ha), (1, .ref h)]) hx hb d_As_readLine_4 rfl hl (Nat.le_of_ble_eq_true rfl) rfl (fun ls hl => ?_)
    refine lv_iload_n hx hb d_As_readLine_5 rfl (lv_at hl 0 rfl) ?_
    refine lv_iconst (v := iI (-1)) hx hb d_As_readLine_6 (by decide) ?_
    refine z_icmp_ne (tgt := 11) hx hb d_As_readLine_7 (iI_toInt (by omega) (by omega)) (iI_toInt (by omega) (by omega)) (by decide) (fun g7 => ?_) (fun g7 => ?_)
    · exfalso; omega
    · rw [hq1, hq2]
      exact eUv hx hb hr hlocks hP hD hS [0, 1, 2, 3] rfl rfl (by decide) d_As_readLine_10
  · obtain ⟨hq1, hq2⟩ := rdL_y (a := a0) ek
    have hk := tkK_lt ek
    have hr3 := tkK_le (t := s0.1) hr1
    have hr4 := rdR_in (t := s0.1) (k := k) hr3
    have hr5 := rdN_le (t := s0.1) (k := k) hr4.1
    refine eqi (y := nI k) rfl ?_
    refine lv_istore_n (lv' := [(2, .int (nI k)), (0, .ref ha), (1, .ref h)]) hx hb d_As_readLine_4 rfl hl (Nat.le_of_ble_eq_true rfl) rfl (fun ls hl => ?_)
    refine lv_iload_n hx hb d_As_readLine_5 rfl (lv_at hl 0 rfl) ?_
    refine lv_iconst (v := iI (-1)) hx hb d_As_readLine_6 (by decide) ?_
    refine z_icmp_ne (tgt := 11) hx hb d_As_readLine_7 (tI_n (by omega)) (iI_toInt (by omega) (by omega)) (by decide) (fun g7 => ?_) (fun g7 => ?_)
    · refine lv_aload_n hx hb d_As_readLine_11 rfl (lv_at hl 2 rfl) ?_
      refine lv_iload_n hx hb d_As_readLine_12 rfl (lv_at hl 0 rfl) ?_
      refine uS (As := [.ref h, .int (nI k)]) (rest := []) (wr := [(ha, .inr (0, [.ref qa, .int (nI a0.2)])), (qa, .inl (cb, 160, .inl a0.1))]) hx hb hml hown ht (c_As_readRegisters l dC dI z _ h q cc s0 (tkK2 s0.1 s0.2 r0) k (by first | assumption | omega) (hr3) (by first | assumption | omega) (by first | assumption | omega)) ys_As_readRegisters k_417 (Nat.le_of_ble_eq_true rfl) (Nat.le_of_ble_eq_true rfl) hP hK hSS hD hS hA [2, 3] [0, 1] [1] rfl rfl (by decide) rfl (by decide) (by decide) rfl hl rfl rfl (Nat.le_of_ble_eq_true rfl) (Nat.zero_le _) (Nat.zero_le _) d_As_readLine_13 (fun H locs hP hD hS => ?_)
      have hP : va_P (dC, dI) classes [(ha, .inr (0, [.ref qa, .int (nI a0.2)])), (qa, .inl (cb, 160, .inl a0.1)), (h, .inr (2, [.ref q, .int (nI s0.2), .int (nI ((rdR s0.1 s0.2 k (tkK2 s0.1 s0.2 r0)).1.1)), .int (bI ((rdR s0.1 s0.2 k (tkK2 s0.1 s0.2 r0)).1.2))])), (q, .inl (cc, 2400, .inl (iN s0.1)))] H := hP
      have hD : va_D A [(ha, .inr (0, [.ref qa, .int (nI a0.2)])), (qa, .inl (cb, 160, .inl a0.1)), (h, .inr (2, [.ref q, .int (nI s0.2), .int (nI ((rdR s0.1 s0.2 k (tkK2 s0.1 s0.2 r0)).1.1)), .int (bI ((rdR s0.1 s0.2 k (tkK2 s0.1 s0.2 r0)).1.2))])), (q, .inl (cc, 2400, .inl (iN s0.1)))] := hD
      refine stk (st2 := [.int (nI ((rdR s0.1 s0.2 k (tkK2 s0.1 s0.2 r0)).2))]) rfl ?_
      refine lv_istore_n (lv' := [(3, .int (nI ((rdR s0.1 s0.2 k (tkK2 s0.1 s0.2 r0)).2))), (2, .int (nI k)), (0, .ref ha), (1, .ref h)]) hx hb d_As_readLine_16 rfl hl (Nat.le_of_ble_eq_true rfl) rfl (fun ls hl => ?_)
      refine lv_aload_n hx hb d_As_readLine_17 rfl (lv_at hl 3 rfl) ?_
      refine lv_iload_n hx hb d_As_readLine_18 rfl (lv_at hl 1 rfl) ?_
      refine uS (As := [.ref h, .int (nI k)]) (rest := []) (wr := [(ha, .inr (0, [.ref qa, .int (nI a0.2)])), (qa, .inl (cb, 160, .inl a0.1))]) hx hb hml hown ht (c_As_readNumber l dC dI z _ h q cc s0 ((rdR s0.1 s0.2 k (tkK2 s0.1 s0.2 r0)).1) k (by first | assumption | omega) (hr4.1) (by first | assumption | omega) (by first | assumption | omega)) ys_As_readNumber k_433 (Nat.le_of_ble_eq_true rfl) (Nat.le_of_ble_eq_true rfl) hP hK hSS hD hS hA [2, 3] [0, 1] [1] rfl rfl (by decide) rfl (by decide) (by decide) rfl hl rfl rfl (Nat.le_of_ble_eq_true rfl) (Nat.zero_le _) (Nat.zero_le _) d_As_readLine_19 (fun H locs hP hD hS => ?_)
      have hP : va_P (dC, dI) classes [(ha, .inr (0, [.ref qa, .int (nI a0.2)])), (qa, .inl (cb, 160, .inl a0.1)), (h, .inr (2, [.ref q, .int (nI s0.2), .int (nI ((rdN2 s0.1 s0.2 k ((rdR s0.1 s0.2 k (tkK2 s0.1 s0.2 r0)).1)).1)), .int (bI ((rdN2 s0.1 s0.2 k ((rdR s0.1 s0.2 k (tkK2 s0.1 s0.2 r0)).1)).2))])), (q, .inl (cc, 2400, .inl (iN s0.1)))] H := hP
      have hD : va_D A [(ha, .inr (0, [.ref qa, .int (nI a0.2)])), (qa, .inl (cb, 160, .inl a0.1)), (h, .inr (2, [.ref q, .int (nI s0.2), .int (nI ((rdN2 s0.1 s0.2 k ((rdR s0.1 s0.2 k (tkK2 s0.1 s0.2 r0)).1)).1)), .int (bI ((rdN2 s0.1 s0.2 k ((rdR s0.1 s0.2 k (tkK2 s0.1 s0.2 r0)).1)).2))])), (q, .inl (cc, 2400, .inl (iN s0.1)))] := hD
      refine stk (st2 := [.int (iI (rdN1 s0.1 s0.2 k ((rdR s0.1 s0.2 k (tkK2 s0.1 s0.2 r0)).1)))]) rfl ?_
      refine lv_istore (lv' := [(4, .int (iI (rdN1 s0.1 s0.2 k ((rdR s0.1 s0.2 k (tkK2 s0.1 s0.2 r0)).1)))), (3, .int (nI ((rdR s0.1 s0.2 k (tkK2 s0.1 s0.2 r0)).2))), (2, .int (nI k)), (0, .ref ha), (1, .ref h)]) hx hb d_As_readLine_22 hl (Nat.le_of_ble_eq_true rfl) rfl (fun ls hl => ?_)
      refine lv_aload_n hx hb d_As_readLine_24 rfl (lv_at hl 4 rfl) ?_
      refine lv_bipush (v := nI 10) hx hb d_As_readLine_25 (by decide) ?_
      refine uV (As := [.int (nI 10)]) (rest := []) (wr := [(ha, .inr (0, [.ref qa, .int (nI a0.2)])), (qa, .inl (cb, 160, .inl a0.1))]) hx hb hml hown ht (c_Te_take l dC dI z _ h q cc s0 (rdN2 s0.1 s0.2 k ((rdR s0.1 s0.2 k (tkK2 s0.1 s0.2 r0)).1)) 10 (by first | assumption | omega) (hr5) (by first | assumption | omega) (by first | assumption | omega)) yv_Te_take k_455 (Nat.le_of_ble_eq_true rfl) (Nat.le_of_ble_eq_true rfl) hP hK hSS hD hS hA [2, 3] [0, 1] [1] rfl rfl (by decide) rfl (by decide) (by decide) rfl 2 2 rfl rfl rfl hl rfl rfl (Nat.le_of_ble_eq_true rfl) (Nat.zero_le _) (Nat.zero_le _) d_As_readLine_27 (fun H locs hP hD hS => ?_)
      have hP : va_P (dC, dI) classes [(ha, .inr (0, [.ref qa, .int (nI a0.2)])), (qa, .inl (cb, 160, .inl a0.1)), (h, .inr (2, [.ref q, .int (nI s0.2), .int (nI ((tk s0.1 s0.2 10 (rdN2 s0.1 s0.2 k ((rdR s0.1 s0.2 k (tkK2 s0.1 s0.2 r0)).1))).1)), .int (bI ((tk s0.1 s0.2 10 (rdN2 s0.1 s0.2 k ((rdR s0.1 s0.2 k (tkK2 s0.1 s0.2 r0)).1))).2))])), (q, .inl (cc, 2400, .inl (iN s0.1)))] H := hP
      have hD : va_D A [(ha, .inr (0, [.ref qa, .int (nI a0.2)])), (qa, .inl (cb, 160, .inl a0.1)), (h, .inr (2, [.ref q, .int (nI s0.2), .int (nI ((tk s0.1 s0.2 10 (rdN2 s0.1 s0.2 k ((rdR s0.1 s0.2 k (tkK2 s0.1 s0.2 r0)).1))).1)), .int (bI ((tk s0.1 s0.2 10 (rdN2 s0.1 s0.2 k ((rdR s0.1 s0.2 k (tkK2 s0.1 s0.2 r0)).1))).2))])), (q, .inl (cc, 2400, .inl (iN s0.1)))] := hD
      refine stk (st2 := []) rfl ?_
      refine lv_aload_n hx hb d_As_readLine_30 rfl (lv_at hl 3 rfl) ?_
      refine lv_iload_n hx hb d_As_readLine_31 rfl (lv_at hl 2 rfl) ?_
      refine lv_iload_n hx hb d_As_readLine_32 rfl (lv_at hl 1 rfl) ?_
      refine lv_iload hx hb d_As_readLine_33 (lv_at hl 0 rfl) ?_
      refine uV (As := [.int (nI k), .int (nI ((rdR s0.1 s0.2 k (tkK2 s0.1 s0.2 r0)).2)), .int (iI (rdN1 s0.1 s0.2 k ((rdR s0.1 s0.2 k (tkK2 s0.1 s0.2 r0)).1)))]) (rest := []) (wr := [(h, .inr (2, [.ref q, .int (nI s0.2), .int (nI ((tk s0.1 s0.2 10 (rdN2 s0.1 s0.2 k ((rdR s0.1 s0.2 k (tkK2 s0.1 s0.2 r0)).1))).1)), .int (bI ((tk s0.1 s0.2 10 (rdN2 s0.1 s0.2 k ((rdR s0.1 s0.2 k (tkK2 s0.1 s0.2 r0)).1))).2))])), (q, .inl (cc, 2400, .inl (iN s0.1)))]) hx hb hml hown ht (c_As_addBytes l dC dI z _ ha qa cb a0 k ((rdR s0.1 s0.2 k (tkK2 s0.1 s0.2 r0)).2) (rdN1 s0.1 s0.2 k ((rdR s0.1 s0.2 k (tkK2 s0.1 s0.2 r0)).1)) (by first | assumption | omega) (by first | assumption | omega) (hr4.2)) yv_As_addBytes k_456 (Nat.le_of_ble_eq_true rfl) (Nat.le_of_ble_eq_true rfl) hP hK hSS hD hS hA [0, 1] [2, 3] [0] rfl rfl (by decide) rfl (by decide) (by decide) rfl 0 0 rfl rfl rfl hl rfl rfl (Nat.le_of_ble_eq_true rfl) (Nat.zero_le _) (Nat.zero_le _) d_As_readLine_35 (fun H locs hP hD hS => ?_)
      have hP : va_P (dC, dI) classes [(h, .inr (2, [.ref q, .int (nI s0.2), .int (nI ((tk s0.1 s0.2 10 (rdN2 s0.1 s0.2 k ((rdR s0.1 s0.2 k (tkK2 s0.1 s0.2 r0)).1))).1)), .int (bI ((tk s0.1 s0.2 10 (rdN2 s0.1 s0.2 k ((rdR s0.1 s0.2 k (tkK2 s0.1 s0.2 r0)).1))).2))])), (q, .inl (cc, 2400, .inl (iN s0.1))), (ha, .inr (0, [.ref qa, .int (nI ((adBs k ((rdR s0.1 s0.2 k (tkK2 s0.1 s0.2 r0)).2) (rdN1 s0.1 s0.2 k ((rdR s0.1 s0.2 k (tkK2 s0.1 s0.2 r0)).1)) a0).2))])), (qa, .inl (cb, 160, .inl ((adBs k ((rdR s0.1 s0.2 k (tkK2 s0.1 s0.2 r0)).2) (rdN1 s0.1 s0.2 k ((rdR s0.1 s0.2 k (tkK2 s0.1 s0.2 r0)).1)) a0).1)))] H := hP
      have hD : va_D A [(h, .inr (2, [.ref q, .int (nI s0.2), .int (nI ((tk s0.1 s0.2 10 (rdN2 s0.1 s0.2 k ((rdR s0.1 s0.2 k (tkK2 s0.1 s0.2 r0)).1))).1)), .int (bI ((tk s0.1 s0.2 10 (rdN2 s0.1 s0.2 k ((rdR s0.1 s0.2 k (tkK2 s0.1 s0.2 r0)).1))).2))])), (q, .inl (cc, 2400, .inl (iN s0.1))), (ha, .inr (0, [.ref qa, .int (nI ((adBs k ((rdR s0.1 s0.2 k (tkK2 s0.1 s0.2 r0)).2) (rdN1 s0.1 s0.2 k ((rdR s0.1 s0.2 k (tkK2 s0.1 s0.2 r0)).1)) a0).2))])), (qa, .inl (cb, 160, .inl ((adBs k ((rdR s0.1 s0.2 k (tkK2 s0.1 s0.2 r0)).2) (rdN1 s0.1 s0.2 k ((rdR s0.1 s0.2 k (tkK2 s0.1 s0.2 r0)).1)) a0).1)))] := hD
      refine stk (st2 := []) rfl ?_
      rw [hq1, hq2]
      exact eUv hx hb hr hlocks hP hD hS [2, 3, 0, 1] rfl rfl (by decide) d_As_readLine_38
    · exfalso; omega

set_option maxHeartbeats 4000000 in
set_option maxRecDepth 100000 in
theorem c_As_read (l : Launch) (dC : Nat → ClassId) (dI : Nat → Nat → Nat) (z : zT) (sz : Nat) (ha : Nat) (qa : Nat) (cb : ClassId) (x0 : Int32) (f0 : Nat → Int32) (h : Nat) (q : Nat) (cc : ClassId) (s0 : txT) (r0 : rdT) (hs : s0.2 ≤ 2400) (ht8 : ∀ i, s0.1 i < 256) : MU l y_As_read b_As_read 3 (some .boolean) 7 153 (dC, dI) z [.ref ha, .ref h] [(ha, .inr (0, [.ref qa, .int x0])), (qa, .inl (cb, 160, .inl f0)), (h, .inr (2, [.ref q, .int (nI s0.2), .int (nI r0.1), .int (bI r0.2)])), (q, .inl (cc, 2400, .inl (iN s0.1)))] [(cb, .int), (cc, .char)] sz (some (.int (bI ((rd s0.1 s0.2 f0).1.2)))) [(ha, .inr (0, [.ref qa, .int (nI ((rd s0.1 s0.2 f0).2.2))])), (qa, .inl (cb, 160, .inl ((rd s0.1 s0.2 f0).2.1))), (h, .inr (2, [.ref q, .int (nI s0.2), .int (nI ((rd s0.1 s0.2 f0).1.1)), .int (bI ((rd s0.1 s0.2 f0).1.2))])), (q, .inl (cc, 2400, .inl (iN s0.1)))] := by
  refine metU (by decide) (Nat.le_of_ble_eq_true rfl) ?_
  intro p e s m below meth c ls A hx hb hr hlocks hml hown ht hl hP hK hSS hD hS hA
  have hl : lv_has ls 3 [(0, .ref ha), (1, .ref h)] := hl
  refine lv_aload_n hx hb d_As_read_0 rfl (lv_at hl 0 rfl) ?_
  refine lv_iconst (v := nI 0) hx hb d_As_read_1 (by decide) ?_
  refine va_put (D := (dC, dI)) (ci := 0) (v := .int (nI 0)) (ty := .int) (C := R_As) (T := F_As) (N := 2) hx hb ht in_As t_As t_As_ok n_As hown hK hP hD hS 0 rfl rfl 1 (by decide) (ht _ k_83) (fun _ h9 => h9) rfl (by decide +kernel) rfl rfl (Nat.le_of_ble_eq_true rfl) d_As_read_2 (fun H locs hP hD hS => ?_)
  have hP : va_P (dC, dI) classes [(ha, .inr (0, [.ref qa, .int (nI 0)])), (qa, .inl (cb, 160, .inl f0)), (h, .inr (2, [.ref q, .int (nI s0.2), .int (nI r0.1), .int (bI r0.2)])), (q, .inl (cc, 2400, .inl (iN s0.1)))] H := hP
  have hD : va_D A [(ha, .inr (0, [.ref qa, .int (nI 0)])), (qa, .inl (cb, 160, .inl f0)), (h, .inr (2, [.ref q, .int (nI s0.2), .int (nI r0.1), .int (bI r0.2)])), (q, .inl (cc, 2400, .inl (iN s0.1)))] := hD
  refine lv_aload_n hx hb d_As_read_5 rfl (lv_at hl 1 rfl) ?_
  refine uV (As := []) (rest := []) (wr := [(ha, .inr (0, [.ref qa, .int (nI 0)])), (qa, .inl (cb, 160, .inl f0))]) hx hb hml hown ht (c_Te_startReading l dC dI z _ h q cc s0 r0 ) yv_Te_startReading k_396 (Nat.le_of_ble_eq_true rfl) (Nat.le_of_ble_eq_true rfl) hP hK hSS hD hS hA [2, 3] [0, 1] [1] rfl rfl (by decide) rfl (by decide) (by decide) rfl 2 2 rfl rfl rfl hl rfl rfl (Nat.le_of_ble_eq_true rfl) (Nat.zero_le _) (Nat.zero_le _) d_As_read_6 (fun H locs hP hD hS => ?_)
  have hP : va_P (dC, dI) classes [(ha, .inr (0, [.ref qa, .int (nI 0)])), (qa, .inl (cb, 160, .inl f0)), (h, .inr (2, [.ref q, .int (nI s0.2), .int (nI r00.1), .int (bI r00.2)])), (q, .inl (cc, 2400, .inl (iN s0.1)))] H := hP
  have hD : va_D A [(ha, .inr (0, [.ref qa, .int (nI 0)])), (qa, .inl (cb, 160, .inl f0)), (h, .inr (2, [.ref q, .int (nI s0.2), .int (nI r00.1), .int (bI r00.2)])), (q, .inl (cc, 2400, .inl (iN s0.1)))] := hD
  refine stk (st2 := []) rfl ?_
  refine lv_iconst (v := nI 0) hx hb d_As_read_9 (by decide) ?_
  refine lv_istore_n (lv' := [(2, .int (nI 0)), (0, .ref ha), (1, .ref h)]) hx hb d_As_read_10 rfl hl (Nat.le_of_ble_eq_true rfl) rfl (fun ls hl => ?_)
  have loop11 : ∀ (j : Nat) (i : Nat) (r1 : rdT) (a1 : abT) (ls : Array Slot) (H : Heap) (locs : List Loc), (i + j = 2400) → (rd s0.1 s0.2 f0 = rdF s0.1 s0.2 j r1 a1) → (r1.1 ≤ s0.2) → (a1.2 ≤ 3 * i) → lv_has ls 3 [(2, .int (nI i)), (0, .ref ha), (1, .ref h)] → va_P (dC, dI) classes [(ha, .inr (0, [.ref qa, .int (nI a1.2)])), (qa, .inl (cb, 160, .inl a1.1)), (h, .inr (2, [.ref q, .int (nI s0.2), .int (nI r1.1), .int (bI r1.2)])), (q, .inl (cc, 2400, .inl (iN s0.1)))] H → va_D A [(ha, .inr (0, [.ref qa, .int (nI a1.2)])), (qa, .inl (cb, 160, .inl a1.1)), (h, .inr (2, [.ref q, .int (nI s0.2), .int (nI r1.1), .int (bI r1.2)])), (q, .inl (cc, 2400, .inl (iN s0.1)))] → va_S A s.heap H locs → W p l e (rmq 7 153) s m [.ref ha, .ref h].toArray below meth c H locs 0 0 (MQ below (qcU (some (.int (bI ((rd s0.1 s0.2 f0).1.2)))) (dC, dI) [(ha, .inr (0, [.ref qa, .int (nI ((rd s0.1 s0.2 f0).2.2))])), (qa, .inl (cb, 160, .inl ((rd s0.1 s0.2 f0).2.1))), (h, .inr (2, [.ref q, .int (nI s0.2), .int (nI ((rd s0.1 s0.2 f0).1.1)), .int (bI ((rd s0.1 s0.2 f0).1.2))])), (q, .inl (cc, 2400, .inl (iN s0.1)))] A) [.ref ha, .ref h].toArray s 0 0 A) (F0 m 11 ls []) := by
    intro j
    induction j with
    | zero =>
      intro i r1 a1 ls H locs hi hR hr3 hla hl hP hD hS
      have hRe : rd s0.1 s0.2 f0 = (r1, a1) := hR
      refine lv_iload_n hx hb d_As_read_11 rfl (lv_at hl 0 rfl) ?_
      refine lv_sipush (v := nI 2400) hx hb d_As_read_12 (by decide) ?_
      refine z_icmp_ge (tgt := 36) hx hb d_As_read_15 (tI_n (by omega)) (tI_n (by omega)) (by decide) (fun g15 => ?_) (fun g15 => ?_)
      · refine lv_aload_n hx hb d_As_read_36 rfl (lv_at hl 2 rfl) ?_
        refine rV (As := []) (rest := []) hx hb hml hown ht (c_Te_isRight l dC dI z h q cc s0 r1 ) yv_Te_isRight k_465 (Nat.le_of_ble_eq_true rfl) (Nat.le_of_ble_eq_true rfl) hP hK hSS hS [2, 3] [1] rfl rfl 2 2 rfl rfl rfl hl rfl rfl (Nat.le_of_ble_eq_true rfl) (Nat.zero_le _) (Nat.zero_le _) d_As_read_37 ?_
        rw [hRe]
        exact eUz hx hb hr hlocks (bI_narrow _) hP hD hS [0, 1, 2, 3] rfl rfl (by decide) d_As_read_40 (rfl)
      · exfalso; omega
    | succ j ih =>
      intro i r1 a1 ls H locs hi hR hr3 hla hl hP hD hS
      refine lv_iload_n hx hb d_As_read_11 rfl (lv_at hl 0 rfl) ?_
      refine lv_sipush (v := nI 2400) hx hb d_As_read_12 (by decide) ?_
      refine z_icmp_ge (tgt := 36) hx hb d_As_read_15 (tI_n (by omega)) (tI_n (by omega)) (by decide) (fun g15 => ?_) (fun g15 => ?_)
      · exfalso; omega
      · refine lv_aload_n hx hb d_As_read_18 rfl (lv_at hl 2 rfl) ?_
        refine rV (As := []) (rest := []) hx hb hml hown ht (c_Te_hasMore l dC dI z h q cc s0 r1 (by first | assumption | omega) (by first | assumption | omega)) yv_Te_hasMore k_400 (Nat.le_of_ble_eq_true rfl) (Nat.le_of_ble_eq_true rfl) hP hK hSS hS [2, 3] [1] rfl rfl 2 2 rfl rfl rfl hl rfl rfl (Nat.le_of_ble_eq_true rfl) (Nat.zero_le _) (Nat.zero_le _) d_As_read_19 ?_
        refine b_if_eq (tgt := 36) hx hb d_As_read_22 (by decide) (fun g22 => ?_) (fun g22 => ?_)
        · have hRe : rd s0.1 s0.2 f0 = (r1, a1) := by rw [hR, rdF, if_neg (of_decide_eq_false g22)]
          refine lv_aload_n hx hb d_As_read_36 rfl (lv_at hl 2 rfl) ?_
          refine rV (As := []) (rest := []) hx hb hml hown ht (c_Te_isRight l dC dI z h q cc s0 r1 ) yv_Te_isRight k_465 (Nat.le_of_ble_eq_true rfl) (Nat.le_of_ble_eq_true rfl) hP hK hSS hS [2, 3] [1] rfl rfl 2 2 rfl rfl rfl hl rfl rfl (Nat.le_of_ble_eq_true rfl) (Nat.zero_le _) (Nat.zero_le _) d_As_read_37 ?_
          rw [hRe]
          exact eUz hx hb hr hlocks (bI_narrow _) hP hD hS [0, 1, 2, 3] rfl rfl (by decide) d_As_read_40 (rfl)
        · refine lv_aload_n hx hb d_As_read_25 rfl (lv_at hl 1 rfl) ?_
          refine lv_aload_n hx hb d_As_read_26 rfl (lv_at hl 2 rfl) ?_
          refine uV (As := [.ref h]) (rest := []) (wr := []) hx hb hml hown ht (c_As_readLine l dC dI z _ ha qa cb a1 h q cc s0 r1 (by first | assumption | omega) (by first | assumption | omega) (by first | assumption | omega) (by first | assumption | omega)) yv_As_readLine k_404 (Nat.le_of_ble_eq_true rfl) (Nat.le_of_ble_eq_true rfl) hP hK hSS hD hS hA [0, 1, 2, 3] [] [0, 1] rfl rfl (by decide) rfl (by decide) (by decide) rfl 0 0 rfl rfl rfl hl rfl rfl (Nat.le_of_ble_eq_true rfl) (Nat.zero_le _) (Nat.zero_le _) d_As_read_27 (fun H locs hP hD hS => ?_)
          have hP : va_P (dC, dI) classes [(ha, .inr (0, [.ref qa, .int (nI ((rdLs s0.1 s0.2 r1 a1).2))])), (qa, .inl (cb, 160, .inl ((rdLs s0.1 s0.2 r1 a1).1))), (h, .inr (2, [.ref q, .int (nI s0.2), .int (nI ((rdLr s0.1 s0.2 r1).1)), .int (bI ((rdLr s0.1 s0.2 r1).2))])), (q, .inl (cc, 2400, .inl (iN s0.1)))] H := hP
          have hD : va_D A [(ha, .inr (0, [.ref qa, .int (nI ((rdLs s0.1 s0.2 r1 a1).2))])), (qa, .inl (cb, 160, .inl ((rdLs s0.1 s0.2 r1 a1).1))), (h, .inr (2, [.ref q, .int (nI s0.2), .int (nI ((rdLr s0.1 s0.2 r1).1)), .int (bI ((rdLr s0.1 s0.2 r1).2))])), (q, .inl (cc, 2400, .inl (iN s0.1)))] := hD
          refine stk (st2 := []) rfl ?_
          refine lv_iinc (k := 0) (v := nI (i + 1)) (lv' := [(2, .int (nI (i + 1))), (0, .ref ha), (1, .ref h)]) hx hb d_As_read_30 hl rfl (nI_inc1 _) (Nat.le_of_ble_eq_true rfl) rfl (fun ls hl => ?_)
          refine lv_goto (tgt := 11) hx hb d_As_read_33 (by decide) ?_
          exact ih (i + 1) (rdLr s0.1 s0.2 r1) (rdLs s0.1 s0.2 r1 a1) _ _ _ (by omega) (by rw [hR, rdF, if_pos (of_decide_eq_true g22)]) (rdLr_le hr3) (by have := rdLs_le (t := s0.1) (n := s0.2) (r := r1) (a := a1); omega) (lv_sub hl [0, 1, 2] rfl) (hP.sub [0, 1, 2, 3] rfl) (hD.sub [0, 1, 2, 3] (by decide) rfl) hS
  exact loop11 2400 0 r00 (f0, 0) _ _ _ (rfl) (rfl) (Nat.zero_le _) (Nat.le_refl _) (lv_sub hl [0, 1, 2] rfl) (hP.sub [0, 1, 2, 3] rfl) (hD.sub [0, 1, 2, 3] (by decide) rfl) hS

set_option maxHeartbeats 4000000 in
set_option maxRecDepth 100000 in
theorem c_As_copyTo (l : Launch) (dC : Nat → ClassId) (dI : Nat → Nat → Nat) (z : zT) (sz : Nat) (ha : Nat) (qa : Nat) (cb : ClassId) (a0 : abT) (qm : Nat) (cd : ClassId) (md : Nat → Int32) (ha0 : a0.2 ≤ 160) : MU l y_As_copyTo b_As_copyTo 2 none 1 40 (dC, dI) z [.ref ha, .ref qm] [(ha, .inr (0, [.ref qa, .int (nI a0.2)])), (qa, .inl (cb, 160, .inl a0.1)), (qm, .inl (cd, 160, .inl md))] [(cb, .int), (cd, .int)] sz none [(ha, .inr (0, [.ref qa, .int (nI a0.2)])), (qa, .inl (cb, 160, .inl a0.1)), (qm, .inl (cd, 160, .inl (va_cpy a0.1 md 0 0 a0.2)))] := by
  refine metU (by decide) (Nat.le_of_ble_eq_true rfl) ?_
  intro p e s m below meth c ls A hx hb hr hlocks hml hown ht hl hP hK hSS hD hS hA
  have hl : lv_has ls 2 [(0, .ref ha), (1, .ref qm)] := hl
  refine lv_aload_n hx hb d_As_copyTo_0 rfl (lv_at hl 0 rfl) ?_
  refine va_get (D := (dC, dI)) (ci := 0) (v := .ref qa) (C := R_As) (T := F_As) (N := 2) hx hb ht in_As hown hK hP 0 rfl rfl 0 (by decide) (ht _ k_82) (fun _ h9 => h9) rfl d_As_copyTo_1 ?_
  refine lv_iconst (v := nI 0) hx hb d_As_copyTo_4 (by decide) ?_
  refine lv_aload_n hx hb d_As_copyTo_5 rfl (lv_at hl 1 rfl) ?_
  refine lv_iconst (v := nI 0) hx hb d_As_copyTo_6 (by decide) ?_
  refine lv_aload_n hx hb d_As_copyTo_7 rfl (lv_at hl 1 rfl) ?_
  refine va_alen hx hb hK hP 2 1 rfl rfl (v := nI 160) rfl d_As_copyTo_8 ?_
  refine lv_aload_n hx hb d_As_copyTo_9 rfl (lv_at hl 0 rfl) ?_
  refine va_get (D := (dC, dI)) (ci := 0) (v := .int (nI a0.2)) (C := R_As) (T := F_As) (N := 2) hx hb ht in_As hown hK hP 0 rfl rfl 1 (by decide) (ht _ k_83) (fun _ h9 => h9) rfl d_As_copyTo_10 ?_
  refine lv_sipush (v := nI 160) hx hb d_As_copyTo_13 (by decide) ?_
  refine va_mmin hx hb (by rw [hml]; exact hl.1.symm) hown (ht _ k_477) (ht _ k_205) (ht _ k_8) (ht _ k_206) (Nat.le_of_ble_eq_true rfl) (Nat.le_of_ble_eq_true rfl) (Nat.zero_le _) (Nat.zero_le _) d_As_copyTo_16 ?_
  refine eqi (y := nI a0.2) (min_160 ha0) ?_
  refine va_mmin hx hb (by rw [hml]; exact hl.1.symm) hown (ht _ k_477) (ht _ k_205) (ht _ k_8) (ht _ k_206) (Nat.le_of_ble_eq_true rfl) (Nat.le_of_ble_eq_true rfl) (Nat.zero_le _) (Nat.zero_le _) d_As_copyTo_19 ?_
  refine eqi (y := nI a0.2) (min_160b ha0) ?_
  refine cpI (q0 := 1) (q1 := 2) (t0 := 0) (t1 := 1) (w1 := [(ha, .inr (0, [.ref qa, .int (nI a0.2)])), (qa, .inl (cb, 160, .inl a0.1)), (qm, .inl (cd, 160, .inl (va_cpy a0.1 md 0 0 a0.2)))]) hx hb hml hl hown ht k_478 k_480 k_479 k_13 hK hP hD hS rfl rfl rfl rfl (by omega) (Nat.le_of_ble_eq_true rfl) (Nat.le_of_ble_eq_true rfl) d_As_copyTo_22 rfl (fun H locs hP hD hS => ?_)
  exact eUv hx hb hr hlocks hP hD hS [0, 1, 2] rfl rfl (by decide) d_As_copyTo_25
