set_option maxHeartbeats 4000000 in
set_option maxRecDepth 100000 in
theorem c_Co_size (l : Launch) (dC : Nat → ClassId) (dI : Nat → Nat → Nat) (z : zT) (o : Nat) (h : Nat) (qe : Nat) (w : Nat) (h2 : Nat) (h3 : Nat) (qm : Nat) (e0 : txT) (mc : Nat) (q : Nat) (ca : ClassId) (i0 : txT) (hn : i0.2 ≤ 160) : MR l y_Co_size b_Co_size 1 (some .int) 1 20 (dC, dI) z [.ref o] [(o, .inr (4, [.ref h, .ref qe, .int (nI e0.2), .ref w, .ref h2, .ref h3, .ref qm, .int (nI mc)])), (h, .inr (1, [.ref q, .int (nI i0.2)])), (q, .inl (ca, 160, .inl (iN i0.1)))] [(ca, .int)] (.int (nI i0.2)) := by
  refine metR (by decide) (Nat.le_of_ble_eq_true rfl) ?_
  intro p e s m below meth c ls hx hb hr hlocks hml hown ht hl hP hK hSS
  have hl : lv_has ls 1 [(0, .ref o)] := hl
  have hS : va_S (fun _ => False) s.heap s.heap [] := va_S.rf
  refine lv_aload_n hx hb d_Co_size_0 rfl (lv_at hl 0 rfl) ?_
  refine va_get (D := (dC, dI)) (ci := 4) (v := .ref h) (C := R_Co) (T := F_Co) (N := 8) hx hb ht in_Co hown hK hP 0 rfl rfl 0 (by decide) (ht _ k_89) (fun _ h9 => h9) rfl d_Co_size_1 ?_
  refine rV (As := []) (rest := []) hx hb hml hown ht (c_Im_count l dC dI z h q ca i0.1 i0.2 ) yv_Im_count k_118 (Nat.le_of_ble_eq_true rfl) (Nat.le_of_ble_eq_true rfl) hP hK hSS hS [1, 2] [0] rfl rfl 1 1 rfl rfl rfl hl rfl rfl (Nat.le_of_ble_eq_true rfl) (Nat.zero_le _) (Nat.zero_le _) d_Co_size_4 ?_
  exact eRi hx hb hr hlocks d_Co_size_7 (rfl)

set_option maxHeartbeats 4000000 in
set_option maxRecDepth 100000 in
theorem c_Co_byteAt (l : Launch) (dC : Nat → ClassId) (dI : Nat → Nat → Nat) (z : zT) (o : Nat) (h : Nat) (qe : Nat) (w : Nat) (h2 : Nat) (h3 : Nat) (qm : Nat) (e0 : txT) (mc : Nat) (q : Nat) (ca : ClassId) (i0 : txT) (x : Int32) (y : Int) (hn : i0.2 ≤ 160) (hy : x.toInt = y) : MR l y_Co_byteAt b_Co_byteAt 2 (some .int) 2 42 (dC, dI) z [.ref o, .int x] [(o, .inr (4, [.ref h, .ref qe, .int (nI e0.2), .ref w, .ref h2, .ref h3, .ref qm, .int (nI mc)])), (h, .inr (1, [.ref q, .int (nI i0.2)])), (q, .inl (ca, 160, .inl (iN i0.1)))] [(ca, .int)] (.int (iI (atZ i0.1 i0.2 y))) := by
  refine metR (by decide) (Nat.le_of_ble_eq_true rfl) ?_
  intro p e s m below meth c ls hx hb hr hlocks hml hown ht hl hP hK hSS
  have hl : lv_has ls 2 [(0, .ref o), (1, .int x)] := hl
  have hS : va_S (fun _ => False) s.heap s.heap [] := va_S.rf
  refine lv_aload_n hx hb d_Co_byteAt_0 rfl (lv_at hl 0 rfl) ?_
  refine va_get (D := (dC, dI)) (ci := 4) (v := .ref h) (C := R_Co) (T := F_Co) (N := 8) hx hb ht in_Co hown hK hP 0 rfl rfl 0 (by decide) (ht _ k_89) (fun _ h9 => h9) rfl d_Co_byteAt_1 ?_
  refine lv_iload_n hx hb d_Co_byteAt_4 rfl (lv_at hl 1 rfl) ?_
  refine rV (As := [.int x]) (rest := []) hx hb hml hown ht (c_Im_at l dC dI z h q ca i0.1 i0.2 x y (by first | assumption | omega) hy) yv_Im_at k_158 (Nat.le_of_ble_eq_true rfl) (Nat.le_of_ble_eq_true rfl) hP hK hSS hS [1, 2] [0] rfl rfl 1 1 rfl rfl rfl hl rfl rfl (Nat.le_of_ble_eq_true rfl) (Nat.zero_le _) (Nat.zero_le _) d_Co_byteAt_5 ?_
  exact eRi hx hb hr hlocks d_Co_byteAt_8 (rfl)

set_option maxHeartbeats 4000000 in
set_option maxRecDepth 100000 in
theorem c_Co_length (l : Launch) (dC : Nat → ClassId) (dI : Nat → Nat → Nat) (z : zT) (o : Nat) (h : Nat) (qe : Nat) (w : Nat) (h2 : Nat) (h3 : Nat) (qm : Nat) (e0 : txT) (mc : Nat) (q : Nat) (ca : ClassId) (i0 : txT) (x : Int32) (y : Int) (hn : i0.2 ≤ 160) (hb8 : ∀ i, i0.1 i < 256) (hy : x.toInt = y) : MR l y_Co_length b_Co_length 2 (some .int) 4 86 (dC, dI) z [.ref o, .int x] [(o, .inr (4, [.ref h, .ref qe, .int (nI e0.2), .ref w, .ref h2, .ref h3, .ref qm, .int (nI mc)])), (h, .inr (1, [.ref q, .int (nI i0.2)])), (q, .inl (ca, 160, .inl (iN i0.1)))] [(ca, .int)] (.int (nI (cln i0.1 i0.2 y))) := by
  refine metR (by decide) (Nat.le_of_ble_eq_true rfl) ?_
  intro p e s m below meth c ls hx hb hr hlocks hml hown ht hl hP hK hSS
  have hl : lv_has ls 2 [(0, .ref o), (1, .int x)] := hl
  have hS : va_S (fun _ => False) s.heap s.heap [] := va_S.rf
  refine lv_aload_n hx hb d_Co_length_0 rfl (lv_at hl 0 rfl) ?_
  refine va_get (D := (dC, dI)) (ci := 4) (v := .ref h) (C := R_Co) (T := F_Co) (N := 8) hx hb ht in_Co hown hK hP 0 rfl rfl 0 (by decide) (ht _ k_89) (fun _ h9 => h9) rfl d_Co_length_1 ?_
  refine lv_iload_n hx hb d_Co_length_4 rfl (lv_at hl 1 rfl) ?_
  refine rV (As := [.int x]) (rest := []) hx hb hml hown ht (c_Im_codeLength l dC dI z h q ca i0.1 i0.2 x y (by first | assumption | omega) (by first | assumption | omega) hy) yv_Im_codeLength k_171 (Nat.le_of_ble_eq_true rfl) (Nat.le_of_ble_eq_true rfl) hP hK hSS hS [1, 2] [0] rfl rfl 1 1 rfl rfl rfl hl rfl rfl (Nat.le_of_ble_eq_true rfl) (Nat.zero_le _) (Nat.zero_le _) d_Co_length_5 ?_
  exact eRi hx hb hr hlocks d_Co_length_8 (rfl)

set_option maxHeartbeats 4000000 in
set_option maxRecDepth 100000 in
theorem c_Co_textLength (l : Launch) (dC : Nat → ClassId) (dI : Nat → Nat → Nat) (z : zT) (o : Nat) (h : Nat) (qe : Nat) (w : Nat) (h2 : Nat) (h3 : Nat) (qm : Nat) (e0 : txT) (mc : Nat) (q2 : Nat) (c2 : ClassId) (s0 : txT) (r0 : rdT) : MR l y_Co_textLength b_Co_textLength 1 (some .int) 1 20 (dC, dI) z [.ref o] [(o, .inr (4, [.ref h, .ref qe, .int (nI e0.2), .ref w, .ref h2, .ref h3, .ref qm, .int (nI mc)])), (h2, .inr (2, [.ref q2, .int (nI s0.2), .int (nI r0.1), .int (bI r0.2)])), (q2, .inl (c2, 2400, .inl (iN s0.1)))] [(c2, .char)] (.int (nI s0.2)) := by
  refine metR (by decide) (Nat.le_of_ble_eq_true rfl) ?_
  intro p e s m below meth c ls hx hb hr hlocks hml hown ht hl hP hK hSS
  have hl : lv_has ls 1 [(0, .ref o)] := hl
  have hS : va_S (fun _ => False) s.heap s.heap [] := va_S.rf
  refine lv_aload_n hx hb d_Co_textLength_0 rfl (lv_at hl 0 rfl) ?_
  refine va_get (D := (dC, dI)) (ci := 4) (v := .ref h2) (C := R_Co) (T := F_Co) (N := 8) hx hb ht in_Co hown hK hP 0 rfl rfl 4 (by decide) (ht _ k_93) (fun _ h9 => h9) rfl d_Co_textLength_1 ?_
  refine rV (As := []) (rest := []) hx hb hml hown ht (c_Te_count l dC dI z h2 q2 c2 s0 r0 ) yv_Te_count k_366 (Nat.le_of_ble_eq_true rfl) (Nat.le_of_ble_eq_true rfl) hP hK hSS hS [1, 2] [0] rfl rfl 1 2 rfl rfl rfl hl rfl rfl (Nat.le_of_ble_eq_true rfl) (Nat.zero_le _) (Nat.zero_le _) d_Co_textLength_4 ?_
  exact eRi hx hb hr hlocks d_Co_textLength_7 (rfl)

set_option maxHeartbeats 4000000 in
set_option maxRecDepth 100000 in
theorem c_Co_charAt (l : Launch) (dC : Nat → ClassId) (dI : Nat → Nat → Nat) (z : zT) (o : Nat) (h : Nat) (qe : Nat) (w : Nat) (h2 : Nat) (h3 : Nat) (qm : Nat) (e0 : txT) (mc : Nat) (q2 : Nat) (c2 : ClassId) (s0 : txT) (r0 : rdT) (x : Int32) (y : Int) (hs : s0.2 ≤ 2400) (hy : x.toInt = y) : MR l y_Co_charAt b_Co_charAt 2 (some .int) 1 21 (dC, dI) z [.ref o, .int x] [(o, .inr (4, [.ref h, .ref qe, .int (nI e0.2), .ref w, .ref h2, .ref h3, .ref qm, .int (nI mc)])), (h2, .inr (2, [.ref q2, .int (nI s0.2), .int (nI r0.1), .int (bI r0.2)])), (q2, .inl (c2, 2400, .inl (iN s0.1)))] [(c2, .char)] (.int (iI (atZ s0.1 s0.2 y))) := by
  refine metR (by decide) (Nat.le_of_ble_eq_true rfl) ?_
  intro p e s m below meth c ls hx hb hr hlocks hml hown ht hl hP hK hSS
  have hl : lv_has ls 2 [(0, .ref o), (1, .int x)] := hl
  have hS : va_S (fun _ => False) s.heap s.heap [] := va_S.rf
  refine lv_aload_n hx hb d_Co_charAt_0 rfl (lv_at hl 0 rfl) ?_
  refine va_get (D := (dC, dI)) (ci := 4) (v := .ref h2) (C := R_Co) (T := F_Co) (N := 8) hx hb ht in_Co hown hK hP 0 rfl rfl 4 (by decide) (ht _ k_93) (fun _ h9 => h9) rfl d_Co_charAt_1 ?_
  refine lv_iload_n hx hb d_Co_charAt_4 rfl (lv_at hl 1 rfl) ?_
  refine rV (As := [.int x]) (rest := []) hx hb hml hown ht (c_Te_at l dC dI z h2 q2 c2 s0 r0.1 r0.2 x y (by first | assumption | omega) hy) yv_Te_at k_379 (Nat.le_of_ble_eq_true rfl) (Nat.le_of_ble_eq_true rfl) hP hK hSS hS [1, 2] [0] rfl rfl 1 2 rfl rfl rfl hl rfl rfl (Nat.le_of_ble_eq_true rfl) (Nat.zero_le _) (Nat.zero_le _) d_Co_charAt_5 ?_
  exact eRi hx hb hr hlocks d_Co_charAt_8 (rfl)

set_option maxHeartbeats 4000000 in
set_option maxRecDepth 100000 in
theorem c_Co_entry (l : Launch) (dC : Nat → ClassId) (dI : Nat → Nat → Nat) (z : zT) (o : Nat) (h : Nat) (qe : Nat) (w : Nat) (h2 : Nat) (h3 : Nat) (qm : Nat) (e0 : txT) (mc : Nat) (ce : ClassId) (x : Int32) (y : Int) (he : e0.2 ≤ 16) (hy : x.toInt = y) : MR l y_Co_entry b_Co_entry 2 (some .int) 0 0 (dC, dI) z [.ref o, .int x] [(o, .inr (4, [.ref h, .ref qe, .int (nI e0.2), .ref w, .ref h2, .ref h3, .ref qm, .int (nI mc)])), (qe, .inl (ce, 16, .inl (iN e0.1)))] [(ce, .int)] (.int (iI (atZ e0.1 e0.2 y))) := by
  refine metR (by decide) (Nat.le_of_ble_eq_true rfl) ?_
  intro p e s m below meth c ls hx hb hr hlocks hml hown ht hl hP hK hSS
  have hl : lv_has ls 2 [(0, .ref o), (1, .int x)] := hl
  have hS : va_S (fun _ => False) s.heap s.heap [] := va_S.rf
  refine lv_iload_n hx hb d_Co_entry_0 rfl (lv_at hl 1 rfl) ?_
  refine z_if_lt (tgt := 21) hx hb d_Co_entry_1 hy (by decide) (fun g1 => ?_) (fun g1 => ?_)
  · refine lv_iconst (v := iI (-1)) hx hb d_Co_entry_21 (by decide) ?_
    exact eRi hx hb hr hlocks d_Co_entry_22 (by rw [atZ, if_neg (by omega)])
  · refine lv_iload_n hx hb d_Co_entry_4 rfl (lv_at hl 1 rfl) ?_
    refine lv_aload_n hx hb d_Co_entry_5 rfl (lv_at hl 0 rfl) ?_
    refine va_get (D := (dC, dI)) (ci := 4) (v := .int (nI e0.2)) (C := R_Co) (T := F_Co) (N := 8) hx hb ht in_Co hown hK hP 0 rfl rfl 2 (by decide) (ht _ k_91) (fun _ h9 => h9) rfl d_Co_entry_6 ?_
    refine z_icmp_ge (tgt := 21) hx hb d_Co_entry_9 hy (tI_n (by omega)) (by decide) (fun g9 => ?_) (fun g9 => ?_)
    · refine lv_iconst (v := iI (-1)) hx hb d_Co_entry_21 (by decide) ?_
      exact eRi hx hb hr hlocks d_Co_entry_22 (by rw [atZ, if_neg (by omega)])
    · refine lv_aload_n hx hb d_Co_entry_12 rfl (lv_at hl 0 rfl) ?_
      refine va_get (D := (dC, dI)) (ci := 4) (v := .ref qe) (C := R_Co) (T := F_Co) (N := 8) hx hb ht in_Co hown hK hP 0 rfl rfl 1 (by decide) (ht _ k_90) (fun _ h9 => h9) rfl d_Co_entry_13 ?_
      refine lv_iload_n hx hb d_Co_entry_16 rfl (lv_at hl 1 rfl) ?_
      refine eqi (y := nI y.toNat) (x_yN hy (by omega)) ?_
      refine ldI (q0 := 1) (t0 := 0) hx hb d_Co_entry_17 hK hP rfl rfl (by omega) (by decide) ?_
      refine lv_goto (tgt := 22) hx hb d_Co_entry_18 (by decide) ?_
      exact eRi hx hb hr hlocks d_Co_entry_22 (by rw [nI_iI, atZ, if_pos (by omega)])

set_option maxHeartbeats 4000000 in
set_option maxRecDepth 100000 in
theorem c_Co_made (l : Launch) (dC : Nat → ClassId) (dI : Nat → Nat → Nat) (z : zT) (o : Nat) (h : Nat) (qe : Nat) (w : Nat) (h2 : Nat) (h3 : Nat) (qm : Nat) (e0 : txT) (mc : Nat) (cd : ClassId) (md : Nat → Int32) (x : Int32) (y : Int) (hm : mc ≤ 160) (hy : x.toInt = y) : MR l y_Co_made b_Co_made 2 (some .int) 0 0 (dC, dI) z [.ref o, .int x] [(o, .inr (4, [.ref h, .ref qe, .int (nI e0.2), .ref w, .ref h2, .ref h3, .ref qm, .int (nI mc)])), (qm, .inl (cd, 160, .inl md))] [(cd, .int)] (.int (mdZ md mc y)) := by
  refine metR (by decide) (Nat.le_of_ble_eq_true rfl) ?_
  intro p e s m below meth c ls hx hb hr hlocks hml hown ht hl hP hK hSS
  have hl : lv_has ls 2 [(0, .ref o), (1, .int x)] := hl
  have hS : va_S (fun _ => False) s.heap s.heap [] := va_S.rf
  refine lv_iload_n hx hb d_Co_made_0 rfl (lv_at hl 1 rfl) ?_
  refine z_if_lt (tgt := 21) hx hb d_Co_made_1 hy (by decide) (fun g1 => ?_) (fun g1 => ?_)
  · refine lv_iconst (v := iI (-1)) hx hb d_Co_made_21 (by decide) ?_
    exact eRi hx hb hr hlocks d_Co_made_22 (by rw [mdZ, if_neg (by omega)])
  · refine lv_iload_n hx hb d_Co_made_4 rfl (lv_at hl 1 rfl) ?_
    refine lv_aload_n hx hb d_Co_made_5 rfl (lv_at hl 0 rfl) ?_
    refine va_get (D := (dC, dI)) (ci := 4) (v := .int (nI mc)) (C := R_Co) (T := F_Co) (N := 8) hx hb ht in_Co hown hK hP 0 rfl rfl 7 (by decide) (ht _ k_96) (fun _ h9 => h9) rfl d_Co_made_6 ?_
    refine z_icmp_ge (tgt := 21) hx hb d_Co_made_9 hy (tI_n (by omega)) (by decide) (fun g9 => ?_) (fun g9 => ?_)
    · refine lv_iconst (v := iI (-1)) hx hb d_Co_made_21 (by decide) ?_
      exact eRi hx hb hr hlocks d_Co_made_22 (by rw [mdZ, if_neg (by omega)])
    · refine lv_aload_n hx hb d_Co_made_12 rfl (lv_at hl 0 rfl) ?_
      refine va_get (D := (dC, dI)) (ci := 4) (v := .ref qm) (C := R_Co) (T := F_Co) (N := 8) hx hb ht in_Co hown hK hP 0 rfl rfl 6 (by decide) (ht _ k_95) (fun _ h9 => h9) rfl d_Co_made_13 ?_
      refine lv_iload_n hx hb d_Co_made_16 rfl (lv_at hl 1 rfl) ?_
      refine eqi (y := nI y.toNat) (x_yN hy (by omega)) ?_
      refine ldX (q0 := 1) (t0 := 0) hx hb d_Co_made_17 hK hP rfl rfl (by omega) (by decide) ?_
      refine lv_goto (tgt := 22) hx hb d_Co_made_18 (by decide) ?_
      exact eRi hx hb hr hlocks d_Co_made_22 (by rw [mdZ, if_pos (by omega)])

set_option maxHeartbeats 4000000 in
set_option maxRecDepth 100000 in
theorem c_Co_isEntry (l : Launch) (dC : Nat → ClassId) (dI : Nat → Nat → Nat) (z : zT) (o : Nat) (h : Nat) (qe : Nat) (w : Nat) (h2 : Nat) (h3 : Nat) (qm : Nat) (e0 : txT) (mc : Nat) (ce : ClassId) (x : Int32) (y : Int) (he : e0.2 ≤ 16) (hel : ∀ k, k < e0.2 → e0.1 k < 160) (hy : x.toInt = y) : MR l y_Co_isEntry b_Co_isEntry 3 (some .boolean) 0 0 (dC, dI) z [.ref o, .int x] [(o, .inr (4, [.ref h, .ref qe, .int (nI e0.2), .ref w, .ref h2, .ref h3, .ref qm, .int (nI mc)])), (qe, .inl (ce, 16, .inl (iN e0.1)))] [(ce, .int)] (.int (bI (isE e0 y))) := by
  refine metR (by decide) (Nat.le_of_ble_eq_true rfl) ?_
  intro p e s m below meth c ls hx hb hr hlocks hml hown ht hl hP hK hSS
  have hl : lv_has ls 3 [(0, .ref o), (1, .int x)] := hl
  have hS : va_S (fun _ => False) s.heap s.heap [] := va_S.rf
  refine lv_iconst (v := nI 0) hx hb d_Co_isEntry_0 (by decide) ?_
  refine lv_istore_n (lv' := [(2, .int (nI 0)), (0, .ref o), (1, .int x)]) hx hb d_Co_isEntry_1 rfl hl (Nat.le_of_ble_eq_true rfl) rfl (fun ls hl => ?_)
  have loop2 : ∀ (j : Nat) (k : Nat) (ls : Array Slot), (k + j = e0.2) → (isE e0 y = isEF e0.1 y j k) → lv_has ls 3 [(2, .int (nI k)), (0, .ref o), (1, .int x)] → W p l e (rmq 0 0) s m [.ref o, .int x].toArray below meth c s.heap [] 0 0 (MQ below (k2_QcV (.int (bI (isE e0 y)))) [.ref o, .int x].toArray s 0 0 (fun _ => False)) (F0 m 2 ls []) := by
    intro j
    induction j with
    | zero =>
      intro k ls hk hR hl
      refine lv_iload_n hx hb d_Co_isEntry_2 rfl (lv_at hl 0 rfl) ?_
      refine lv_aload_n hx hb d_Co_isEntry_3 rfl (lv_at hl 1 rfl) ?_
      refine va_get (D := (dC, dI)) (ci := 4) (v := .int (nI e0.2)) (C := R_Co) (T := F_Co) (N := 8) hx hb ht in_Co hown hK hP 0 rfl rfl 2 (by decide) (ht _ k_91) (fun _ h9 => h9) rfl d_Co_isEntry_4 ?_
      refine z_icmp_ge (tgt := 28) hx hb d_Co_isEntry_7 (tI_n (by omega)) (tI_n (by omega)) (by decide) (fun g7 => ?_) (fun g7 => ?_)
      · refine lv_iconst (v := nI 0) hx hb d_Co_isEntry_28 (by decide) ?_
        refine eqi (y := bI false) (by decide) ?_
        exact eRz hx hb hr hlocks (bI_narrow _) d_Co_isEntry_29 (by rw [hR]; rfl)
      · exfalso; omega
    | succ j ih =>
      intro k ls hk hR hl
      have hek := hel k (by omega)
      refine lv_iload_n hx hb d_Co_isEntry_2 rfl (lv_at hl 0 rfl) ?_
      refine lv_aload_n hx hb d_Co_isEntry_3 rfl (lv_at hl 1 rfl) ?_
      refine va_get (D := (dC, dI)) (ci := 4) (v := .int (nI e0.2)) (C := R_Co) (T := F_Co) (N := 8) hx hb ht in_Co hown hK hP 0 rfl rfl 2 (by decide) (ht _ k_91) (fun _ h9 => h9) rfl d_Co_isEntry_4 ?_
      refine z_icmp_ge (tgt := 28) hx hb d_Co_isEntry_7 (tI_n (by omega)) (tI_n (by omega)) (by decide) (fun g7 => ?_) (fun g7 => ?_)
      · exfalso; omega
      · refine lv_aload_n hx hb d_Co_isEntry_10 rfl (lv_at hl 1 rfl) ?_
        refine va_get (D := (dC, dI)) (ci := 4) (v := .ref qe) (C := R_Co) (T := F_Co) (N := 8) hx hb ht in_Co hown hK hP 0 rfl rfl 1 (by decide) (ht _ k_90) (fun _ h9 => h9) rfl d_Co_isEntry_11 ?_
        refine lv_iload_n hx hb d_Co_isEntry_14 rfl (lv_at hl 0 rfl) ?_
        refine ldI (q0 := 1) (t0 := 0) hx hb d_Co_isEntry_15 hK hP rfl rfl (by omega) (by decide) ?_
        refine lv_iload_n hx hb d_Co_isEntry_16 rfl (lv_at hl 2 rfl) ?_
        refine z_icmp_ne (tgt := 22) hx hb d_Co_isEntry_17 (tI_n (by omega)) hy (by decide) (fun g17 => ?_) (fun g17 => ?_)
        · refine lv_iinc (k := 0) (v := nI (k + 1)) (lv' := [(2, .int (nI (k + 1))), (0, .ref o), (1, .int x)]) hx hb d_Co_isEntry_22 hl rfl (nI_inc1 _) (Nat.le_of_ble_eq_true rfl) rfl (fun ls hl => ?_)
          refine lv_goto (tgt := 2) hx hb d_Co_isEntry_25 (by decide) ?_
          exact ih (k + 1) _ (by omega) (by rw [hR, isEF, if_neg g17]) (lv_sub hl [0, 1, 2] rfl)
        · refine lv_iconst (v := nI 1) hx hb d_Co_isEntry_20 (by decide) ?_
          refine eqi (y := bI true) (by decide) ?_
          exact eRz hx hb hr hlocks (bI_narrow _) d_Co_isEntry_21 (by rw [hR, isEF, if_pos g17])
  exact loop2 e0.2 0 _ (Nat.zero_add _) (rfl) (lv_sub hl [0, 1, 2] rfl)

set_option maxHeartbeats 4000000 in
set_option maxRecDepth 100000 in
theorem c_Co_append (l : Launch) (dC : Nat → ClassId) (dI : Nat → Nat → Nat) (z : zT) (sz : Nat) (o : Nat) (h : Nat) (qe : Nat) (w : Nat) (h2 : Nat) (h3 : Nat) (qm : Nat) (e0 : txT) (mc : Nat) (q : Nat) (ca : ClassId) (i0 : txT) (w0 : Int32) (x : Int32) (y : Int) (hn : i0.2 ≤ 160) (hy : x.toInt = y) : MU l y_Co_append b_Co_append 4 (some .int) 1 21 (dC, dI) z [.ref o, .int w0, .int x] [(o, .inr (4, [.ref h, .ref qe, .int (nI e0.2), .ref w, .ref h2, .ref h3, .ref qm, .int (nI mc)])), (h, .inr (1, [.ref q, .int (nI i0.2)])), (q, .inl (ca, 160, .inl (iN i0.1)))] [(ca, .int)] sz (some (.int (iI (apR i0.2 y)))) [(o, .inr (4, [.ref h, .ref qe, .int (nI e0.2), .ref w, .ref h2, .ref h3, .ref qm, .int (nI mc)])), (h, .inr (1, [.ref q, .int (nI ((apS i0 w0 y).2))])), (q, .inl (ca, 160, .inl (iN ((apS i0 w0 y).1))))] := by
  refine metU (by decide) (Nat.le_of_ble_eq_true rfl) ?_
  intro p e s m below meth c ls A hx hb hr hlocks hml hown ht hl hP hK hSS hD hS hA
  have hl : lv_has ls 4 [(0, .ref o), (1, .int w0), (2, .int x)] := hl
  refine lv_iload_n hx hb d_Co_append_0 rfl (lv_at hl 2 rfl) ?_
  refine lv_iconst (v := nI 1) hx hb d_Co_append_1 (by decide) ?_
  refine z_icmp_lt (tgt := 10) hx hb d_Co_append_2 hy (tI_n (by omega)) (by decide) (fun g2 => ?_) (fun g2 => ?_)
  · refine lv_iconst (v := iI (-1)) hx hb d_Co_append_10 (by decide) ?_
    rw [apS, if_neg (by omega)]
    exact eUi hx hb hr hlocks hP hD hS [0, 1, 2] rfl rfl (by decide) d_Co_append_11 (by rw [apR, if_neg (by omega)])
  · refine lv_iload_n hx hb d_Co_append_5 rfl (lv_at hl 2 rfl) ?_
    refine lv_iconst (v := nI 4) hx hb d_Co_append_6 (by decide) ?_
    refine z_icmp_le (tgt := 12) hx hb d_Co_append_7 hy (tI_n (by omega)) (by decide) (fun g7 => ?_) (fun g7 => ?_)
    · refine lv_aload_n hx hb d_Co_append_12 rfl (lv_at hl 0 rfl) ?_
      refine va_get (D := (dC, dI)) (ci := 4) (v := .ref h) (C := R_Co) (T := F_Co) (N := 8) hx hb ht in_Co hown hK hP 0 rfl rfl 0 (by decide) (ht _ k_89) (fun _ h9 => h9) rfl d_Co_append_13 ?_
      refine rV (As := []) (rest := []) hx hb hml hown ht (c_Im_count l dC dI z h q ca i0.1 i0.2 ) yv_Im_count k_118 (Nat.le_of_ble_eq_true rfl) (Nat.le_of_ble_eq_true rfl) hP hK hSS hS [1, 2] [0] rfl rfl 1 1 rfl rfl rfl hl rfl rfl (Nat.le_of_ble_eq_true rfl) (Nat.zero_le _) (Nat.zero_le _) d_Co_append_16 ?_
      refine lv_iload_n hx hb d_Co_append_19 rfl (lv_at hl 2 rfl) ?_
      refine zAdd hx hb d_Co_append_20 (nI_iI _) (x_iI hy) ?_
      refine lv_sipush (v := nI 160) hx hb d_Co_append_21 (by decide) ?_
      refine z_icmp_le (tgt := 30) hx hb d_Co_append_24 (iI_toInt (by omega) (by omega)) (tI_n (by omega)) (by decide) (fun g24 => ?_) (fun g24 => ?_)
      · refine lv_iconst (v := nI 0) hx hb d_Co_append_30 (by decide) ?_
        refine lv_istore_n (lv' := [(3, .int (nI 0)), (0, .ref o), (1, .int w0), (2, .int x)]) hx hb d_Co_append_31 rfl hl (Nat.le_of_ble_eq_true rfl) rfl (fun ls hl => ?_)
        have loop32 : ∀ (j : Nat) (k : Nat) (i1 : txT) (ls : Array Slot) (H : Heap) (locs : List Loc), (k + j = y.toNat) → (apS i0 w0 y = apF w0 j k i1) → (i1.2 = i0.2 + k) → lv_has ls 4 [(3, .int (nI k)), (0, .ref o), (1, .int w0), (2, .int x)] → va_P (dC, dI) classes [(o, .inr (4, [.ref h, .ref qe, .int (nI e0.2), .ref w, .ref h2, .ref h3, .ref qm, .int (nI mc)])), (h, .inr (1, [.ref q, .int (nI i1.2)])), (q, .inl (ca, 160, .inl (iN i1.1)))] H → va_D A [(o, .inr (4, [.ref h, .ref qe, .int (nI e0.2), .ref w, .ref h2, .ref h3, .ref qm, .int (nI mc)])), (h, .inr (1, [.ref q, .int (nI i1.2)])), (q, .inl (ca, 160, .inl (iN i1.1)))] → va_S A s.heap H locs → W p l e (rmq 1 21) s m [.ref o, .int w0, .int x].toArray below meth c H locs 0 0 (MQ below (qcU (some (.int (iI (apR i0.2 y)))) (dC, dI) [(o, .inr (4, [.ref h, .ref qe, .int (nI e0.2), .ref w, .ref h2, .ref h3, .ref qm, .int (nI mc)])), (h, .inr (1, [.ref q, .int (nI ((apS i0 w0 y).2))])), (q, .inl (ca, 160, .inl (iN ((apS i0 w0 y).1))))] A) [.ref o, .int w0, .int x].toArray s 0 0 A) (F0 m 32 ls []) := by
          intro j
          induction j with
          | zero =>
            intro k i1 ls H locs hk hR hl1 hl hP hD hS
            have hRe : apS i0 w0 y = i1 := hR
            refine lv_iload_n hx hb d_Co_append_32 rfl (lv_at hl 0 rfl) ?_
            refine lv_iload_n hx hb d_Co_append_33 rfl (lv_at hl 3 rfl) ?_
            refine z_icmp_ge (tgt := 63) hx hb d_Co_append_34 (tI_n (by omega)) hy (by decide) (fun g34 => ?_) (fun g34 => ?_)
            · refine lv_aload_n hx hb d_Co_append_63 rfl (lv_at hl 1 rfl) ?_
              refine va_get (D := (dC, dI)) (ci := 4) (v := .ref h) (C := R_Co) (T := F_Co) (N := 8) hx hb ht in_Co hown hK hP 0 rfl rfl 0 (by decide) (ht _ k_89) (fun _ h9 => h9) rfl d_Co_append_64 ?_
              refine rV (As := []) (rest := []) hx hb hml hown ht (c_Im_count l dC dI z h q ca i1.1 i1.2 ) yv_Im_count k_118 (Nat.le_of_ble_eq_true rfl) (Nat.le_of_ble_eq_true rfl) hP hK hSS hS [1, 2] [0] rfl rfl 1 1 rfl rfl rfl hl rfl rfl (Nat.le_of_ble_eq_true rfl) (Nat.zero_le _) (Nat.zero_le _) d_Co_append_67 ?_
              rw [hRe]
              exact eUi hx hb hr hlocks hP hD hS [0, 1, 2] rfl rfl (by decide) d_Co_append_70 (by rw [nI_iI, apR, if_pos (by omega), if_pos (by omega)]; congr 1; omega)
            · exfalso; omega
          | succ j ih =>
            intro k i1 ls H locs hk hR hl1 hl hP hD hS
            refine lv_iload_n hx hb d_Co_append_32 rfl (lv_at hl 0 rfl) ?_
            refine lv_iload_n hx hb d_Co_append_33 rfl (lv_at hl 3 rfl) ?_
            refine z_icmp_ge (tgt := 63) hx hb d_Co_append_34 (tI_n (by omega)) hy (by decide) (fun g34 => ?_) (fun g34 => ?_)
            · exfalso; omega
            · refine lv_aload_n hx hb d_Co_append_37 rfl (lv_at hl 1 rfl) ?_
              refine va_get (D := (dC, dI)) (ci := 4) (v := .ref h) (C := R_Co) (T := F_Co) (N := 8) hx hb ht in_Co hown hK hP 0 rfl rfl 0 (by decide) (ht _ k_89) (fun _ h9 => h9) rfl d_Co_append_38 ?_
              refine lv_iload_n hx hb d_Co_append_41 rfl (lv_at hl 2 rfl) ?_
              refine lv_bipush (v := nI 24) hx hb d_Co_append_42 (by decide) ?_
              refine lv_bipush (v := nI 8) hx hb d_Co_append_44 (by decide) ?_
              refine lv_iload_n hx hb d_Co_append_46 rfl (lv_at hl 0 rfl) ?_
              refine nMul hx hb d_Co_append_47 ?_
              refine nSub hx hb d_Co_append_48 (by omega) ?_
              refine lv_iushr (v := (w0.toUInt32 >>> ((nI (24 - 8 * k)).toUInt32 &&& Int32.toUInt32 31)).toInt32) hx hb d_Co_append_49 (rfl) ?_
              refine lv_sipush (v := nI 255) hx hb d_Co_append_50 (by decide) ?_
              refine lv_iand hx hb d_Co_append_53 ?_
              refine eqi (y := nI (byW w0 k)) (byW_e w0 k) ?_
              refine uV (As := [.int (nI (byW w0 k))]) (rest := []) (wr := [(o, .inr (4, [.ref h, .ref qe, .int (nI e0.2), .ref w, .ref h2, .ref h3, .ref qm, .int (nI mc)]))]) hx hb hml hown ht (c_Im_add l dC dI z _ h q ca i1.1 i1.2 (byW w0 k) (by first | assumption | omega)) yv_Im_add k_122 (Nat.le_of_ble_eq_true rfl) (Nat.le_of_ble_eq_true rfl) hP hK hSS hD hS hA [1, 2] [0] [0] rfl rfl (by decide) rfl (by decide) (by decide) rfl 1 1 rfl rfl rfl hl rfl rfl (Nat.le_of_ble_eq_true rfl) (Nat.zero_le _) (Nat.zero_le _) d_Co_append_54 (fun H locs hP hD hS => ?_)
              have hP : va_P (dC, dI) classes [(o, .inr (4, [.ref h, .ref qe, .int (nI e0.2), .ref w, .ref h2, .ref h3, .ref qm, .int (nI mc)])), (h, .inr (1, [.ref q, .int (nI (i1.2 + 1))])), (q, .inl (ca, 160, .inl (iN (updN i1.1 i1.2 (byW w0 k)))))] H := hP
              have hD : va_D A [(o, .inr (4, [.ref h, .ref qe, .int (nI e0.2), .ref w, .ref h2, .ref h3, .ref qm, .int (nI mc)])), (h, .inr (1, [.ref q, .int (nI (i1.2 + 1))])), (q, .inl (ca, 160, .inl (iN (updN i1.1 i1.2 (byW w0 k)))))] := hD
              refine stk (st2 := []) rfl ?_
              refine lv_iinc (k := 0) (v := nI (k + 1)) (lv' := [(3, .int (nI (k + 1))), (0, .ref o), (1, .int w0), (2, .int x)]) hx hb d_Co_append_57 hl rfl (nI_inc1 _) (Nat.le_of_ble_eq_true rfl) rfl (fun ls hl => ?_)
              refine lv_goto (tgt := 32) hx hb d_Co_append_60 (by decide) ?_
              exact ih (k + 1) (ap1 i1 (byW w0 k)) _ _ _ (by omega) (by rw [hR, apF]) (by show i1.2 + 1 = _; omega) (lv_sub hl [0, 1, 2, 3] rfl) (hP.sub [0, 1, 2] rfl) (hD.sub [0, 1, 2] (by decide) rfl) hS
        exact loop32 y.toNat 0 i0 _ _ _ (Nat.zero_add _) (by rw [apS, if_pos ⟨by omega, by omega⟩]) (rfl) (lv_sub hl [0, 1, 2, 3] rfl) (hP.sub [0, 1, 2] rfl) (hD.sub [0, 1, 2] (by decide) rfl) hS
      · refine lv_bipush (v := iI (-2)) hx hb d_Co_append_27 (by decide) ?_
        rw [apS, if_neg (by omega)]
        exact eUi hx hb hr hlocks hP hD hS [0, 1, 2] rfl rfl (by decide) d_Co_append_29 (by rw [apR, if_pos (by omega), if_neg (by omega)])
    · refine lv_iconst (v := iI (-1)) hx hb d_Co_append_10 (by decide) ?_
      rw [apS, if_neg (by omega)]
      exact eUi hx hb hr hlocks hP hD hS [0, 1, 2] rfl rfl (by decide) d_Co_append_11 (by rw [apR, if_neg (by omega)])

set_option maxHeartbeats 4000000 in
set_option maxRecDepth 100000 in
theorem c_Co_enter (l : Launch) (dC : Nat → ClassId) (dI : Nat → Nat → Nat) (z : zT) (sz : Nat) (o : Nat) (h : Nat) (qe : Nat) (w : Nat) (h2 : Nat) (h3 : Nat) (qm : Nat) (e0 : txT) (mc : Nat) (q : Nat) (ca : ClassId) (i0 : txT) (ce : ClassId) (x : Int32) (y : Int) (hn : i0.2 ≤ 160) (he : e0.2 ≤ 16) (hen : ∀ k, k < e0.2 → e0.1 k < i0.2) (hy : x.toInt = y) : MU l y_Co_enter b_Co_enter 2 (some .boolean) 1 22 (dC, dI) z [.ref o, .int x] [(o, .inr (4, [.ref h, .ref qe, .int (nI e0.2), .ref w, .ref h2, .ref h3, .ref qm, .int (nI mc)])), (h, .inr (1, [.ref q, .int (nI i0.2)])), (q, .inl (ca, 160, .inl (iN i0.1))), (qe, .inl (ce, 16, .inl (iN e0.1)))] [(ca, .int), (ce, .int)] sz (some (.int (bI (enB i0.2 e0 y)))) [(o, .inr (4, [.ref h, .ref qe, .int (nI ((enS i0.2 e0 y).2)), .ref w, .ref h2, .ref h3, .ref qm, .int (nI mc)])), (h, .inr (1, [.ref q, .int (nI i0.2)])), (q, .inl (ca, 160, .inl (iN i0.1))), (qe, .inl (ce, 16, .inl (iN ((enS i0.2 e0 y).1))))] := by
  refine metU (by decide) (Nat.le_of_ble_eq_true rfl) ?_
  intro p e s m below meth c ls A hx hb hr hlocks hml hown ht hl hP hK hSS hD hS hA
  have hl : lv_has ls 2 [(0, .ref o), (1, .int x)] := hl
  refine lv_aload_n hx hb d_Co_enter_0 rfl (lv_at hl 0 rfl) ?_
  refine va_get (D := (dC, dI)) (ci := 4) (v := .ref h) (C := R_Co) (T := F_Co) (N := 8) hx hb ht in_Co hown hK hP 0 rfl rfl 0 (by decide) (ht _ k_89) (fun _ h9 => h9) rfl d_Co_enter_1 ?_
  refine lv_iload_n hx hb d_Co_enter_4 rfl (lv_at hl 1 rfl) ?_
  refine rV (As := [.int x]) (rest := []) hx hb hml hown ht (c_Im_holds l dC dI z h q ca i0.1 i0.2 x y (by first | assumption | omega) hy) yv_Im_holds k_130 (Nat.le_of_ble_eq_true rfl) (Nat.le_of_ble_eq_true rfl) hP hK hSS hS [1, 2] [0] rfl rfl 1 1 rfl rfl rfl hl rfl rfl (Nat.le_of_ble_eq_true rfl) (Nat.zero_le _) (Nat.zero_le _) d_Co_enter_5 ?_
  refine b_if_eq (tgt := 28) hx hb d_Co_enter_8 (by decide) (fun g8 => ?_) (fun g8 => ?_)
  · refine lv_iconst (v := nI 0) hx hb d_Co_enter_28 (by decide) ?_
    refine eqi (y := bI false) (by decide) ?_
    rw [enS, if_neg (by first | omega | (intro q; exact of_decide_eq_false g8 q.1) | (intro q; rw [g16] at q; exact absurd q.2.1 (by decide)))]
    exact eUz hx hb hr hlocks (bI_narrow _) hP hD hS [0, 1, 2, 3] rfl rfl (by decide) d_Co_enter_29 (bI_zero (by first | omega | (intro q; exact of_decide_eq_false g8 q.1) | (intro q; rw [g16] at q; exact absurd q.2.1 (by decide))))
  · refine lv_aload_n hx hb d_Co_enter_11 rfl (lv_at hl 0 rfl) ?_
    refine lv_iload_n hx hb d_Co_enter_12 rfl (lv_at hl 1 rfl) ?_
    refine rV (As := [.int x]) (rest := []) hx hb hml hown ht (c_Co_isEntry l dC dI z o h qe w h2 h3 qm e0 mc ce x y (by first | assumption | omega) (fun k hk => by have := hen k hk; omega) hy) yv_Co_isEntry k_134 (Nat.le_of_ble_eq_true rfl) (Nat.le_of_ble_eq_true rfl) hP hK hSS hS [0, 3] [1] rfl rfl 0 4 rfl rfl rfl hl rfl rfl (Nat.le_of_ble_eq_true rfl) (Nat.zero_le _) (Nat.zero_le _) d_Co_enter_13 ?_
    refine b_if_ne (tgt := 28) hx hb d_Co_enter_16 (by decide) (fun g16 => ?_) (fun g16 => ?_)
    · refine lv_iconst (v := nI 0) hx hb d_Co_enter_28 (by decide) ?_
      refine eqi (y := bI false) (by decide) ?_
      rw [enS, if_neg (by first | omega | (intro q; exact of_decide_eq_false g8 q.1) | (intro q; rw [g16] at q; exact absurd q.2.1 (by decide)))]
      exact eUz hx hb hr hlocks (bI_narrow _) hP hD hS [0, 1, 2, 3] rfl rfl (by decide) d_Co_enter_29 (bI_zero (by first | omega | (intro q; exact of_decide_eq_false g8 q.1) | (intro q; rw [g16] at q; exact absurd q.2.1 (by decide))))
    · refine lv_aload_n hx hb d_Co_enter_19 rfl (lv_at hl 0 rfl) ?_
      refine va_get (D := (dC, dI)) (ci := 4) (v := .int (nI e0.2)) (C := R_Co) (T := F_Co) (N := 8) hx hb ht in_Co hown hK hP 0 rfl rfl 2 (by decide) (ht _ k_91) (fun _ h9 => h9) rfl d_Co_enter_20 ?_
      refine lv_bipush (v := nI 16) hx hb d_Co_enter_23 (by decide) ?_
      refine z_icmp_lt (tgt := 30) hx hb d_Co_enter_25 (tI_n (by omega)) (tI_n (by omega)) (by decide) (fun g25 => ?_) (fun g25 => ?_)
      · refine lv_aload_n hx hb d_Co_enter_30 rfl (lv_at hl 0 rfl) ?_
        refine va_get (D := (dC, dI)) (ci := 4) (v := .ref qe) (C := R_Co) (T := F_Co) (N := 8) hx hb ht in_Co hown hK hP 0 rfl rfl 1 (by decide) (ht _ k_90) (fun _ h9 => h9) rfl d_Co_enter_31 ?_
        refine lv_aload_n hx hb d_Co_enter_34 rfl (lv_at hl 0 rfl) ?_
        refine va_get (D := (dC, dI)) (ci := 4) (v := .int (nI e0.2)) (C := R_Co) (T := F_Co) (N := 8) hx hb ht in_Co hown hK hP 0 rfl rfl 2 (by decide) (ht _ k_91) (fun _ h9 => h9) rfl d_Co_enter_35 ?_
        refine lv_iload_n hx hb d_Co_enter_38 rfl (lv_at hl 1 rfl) ?_
        refine eqi (y := nI y.toNat) (x_yN hy (of_decide_eq_true g8).1) ?_
        refine stI (q0 := 3) (t0 := 1) (w1 := [(o, .inr (4, [.ref h, .ref qe, .int (nI e0.2), .ref w, .ref h2, .ref h3, .ref qm, .int (nI mc)])), (h, .inr (1, [.ref q, .int (nI i0.2)])), (q, .inl (ca, 160, .inl (iN i0.1))), (qe, .inl (ce, 16, .inl (iN (updN e0.1 e0.2 y.toNat))))]) hx hb d_Co_enter_39 hK hP hD hS rfl rfl (by omega) (by decide) rfl (fun H locs hP hD hS => ?_)
        refine lv_aload_n hx hb d_Co_enter_40 rfl (lv_at hl 0 rfl) ?_
        refine lv_dup hx hb d_Co_enter_41 rfl ?_
        refine va_get (D := (dC, dI)) (ci := 4) (v := .int (nI e0.2)) (C := R_Co) (T := F_Co) (N := 8) hx hb ht in_Co hown hK hP 0 rfl rfl 2 (by decide) (ht _ k_91) (fun _ h9 => h9) rfl d_Co_enter_42 ?_
        refine lv_iconst (v := nI 1) hx hb d_Co_enter_45 (by decide) ?_
        refine nAdd hx hb d_Co_enter_46 ?_
        refine va_put (D := (dC, dI)) (ci := 4) (v := .int (nI (e0.2 + 1))) (ty := .int) (C := R_Co) (T := F_Co) (N := 8) hx hb ht in_Co t_Co t_Co_ok n_Co hown hK hP hD hS 0 rfl rfl 2 (by decide) (ht _ k_91) (fun _ h9 => h9) rfl (by decide +kernel) rfl rfl (Nat.le_of_ble_eq_true rfl) d_Co_enter_47 (fun H locs hP hD hS => ?_)
        have hP : va_P (dC, dI) classes [(o, .inr (4, [.ref h, .ref qe, .int (nI (e0.2 + 1)), .ref w, .ref h2, .ref h3, .ref qm, .int (nI mc)])), (h, .inr (1, [.ref q, .int (nI i0.2)])), (q, .inl (ca, 160, .inl (iN i0.1))), (qe, .inl (ce, 16, .inl (iN (updN e0.1 e0.2 y.toNat))))] H := hP
        have hD : va_D A [(o, .inr (4, [.ref h, .ref qe, .int (nI (e0.2 + 1)), .ref w, .ref h2, .ref h3, .ref qm, .int (nI mc)])), (h, .inr (1, [.ref q, .int (nI i0.2)])), (q, .inl (ca, 160, .inl (iN i0.1))), (qe, .inl (ce, 16, .inl (iN (updN e0.1 e0.2 y.toNat))))] := hD
        refine lv_iconst (v := nI 1) hx hb d_Co_enter_50 (by decide) ?_
        refine eqi (y := bI true) (by decide) ?_
        rw [enS, if_pos ⟨of_decide_eq_true g8, g16, by omega⟩]
        exact eUz hx hb hr hlocks (bI_narrow _) hP hD hS [0, 1, 2, 3] rfl rfl (by decide) d_Co_enter_51 (bI_one ⟨of_decide_eq_true g8, g16, by omega⟩)
      · refine lv_iconst (v := nI 0) hx hb d_Co_enter_28 (by decide) ?_
        refine eqi (y := bI false) (by decide) ?_
        rw [enS, if_neg (by first | omega | (intro q; exact of_decide_eq_false g8 q.1) | (intro q; rw [g16] at q; exact absurd q.2.1 (by decide)))]
        exact eUz hx hb hr hlocks (bI_narrow _) hP hD hS [0, 1, 2, 3] rfl rfl (by decide) d_Co_enter_29 (bI_zero (by first | omega | (intro q; exact of_decide_eq_false g8 q.1) | (intro q; rw [g16] at q; exact absurd q.2.1 (by decide))))

set_option maxHeartbeats 4000000 in
set_option maxRecDepth 100000 in
theorem c_Co_clear (l : Launch) (dC : Nat → ClassId) (dI : Nat → Nat → Nat) (z : zT) (sz : Nat) (o : Nat) (h : Nat) (qe : Nat) (w : Nat) (h2 : Nat) (h3 : Nat) (qm : Nat) (e0 : txT) (mc : Nat) (q : Nat) (ca : ClassId) (i0 : txT) (ce : ClassId) (q2 : Nat) (c2 : ClassId) (s0 : txT) (r0 : rdT) : MU l y_Co_clear b_Co_clear 1 none 1 20 (dC, dI) z [.ref o] [(o, .inr (4, [.ref h, .ref qe, .int (nI e0.2), .ref w, .ref h2, .ref h3, .ref qm, .int (nI mc)])), (h, .inr (1, [.ref q, .int (nI i0.2)])), (q, .inl (ca, 160, .inl (iN i0.1))), (qe, .inl (ce, 16, .inl (iN e0.1))), (h2, .inr (2, [.ref q2, .int (nI s0.2), .int (nI r0.1), .int (bI r0.2)])), (q2, .inl (c2, 2400, .inl (iN s0.1)))] [(ca, .int), (ce, .int), (c2, .char)] sz none [(o, .inr (4, [.ref h, .ref qe, .int (nI ((dr e0).2)), .ref w, .ref h2, .ref h3, .ref qm, .int (nI 0)])), (h, .inr (1, [.ref q, .int (nI ((dr i0).2))])), (q, .inl (ca, 160, .inl (iN ((dr i0).1)))), (qe, .inl (ce, 16, .inl (iN ((dr e0).1)))), (h2, .inr (2, [.ref q2, .int (nI ((dr s0).2)), .int (nI r0.1), .int (bI r0.2)])), (q2, .inl (c2, 2400, .inl (iN ((dr s0).1))))] := by
  refine metU (by decide) (Nat.le_of_ble_eq_true rfl) ?_
  intro p e s m below meth c ls A hx hb hr hlocks hml hown ht hl hP hK hSS hD hS hA
  have hl : lv_has ls 1 [(0, .ref o)] := hl
  refine lv_aload_n hx hb d_Co_clear_0 rfl (lv_at hl 0 rfl) ?_
  refine va_get (D := (dC, dI)) (ci := 4) (v := .ref h) (C := R_Co) (T := F_Co) (N := 8) hx hb ht in_Co hown hK hP 0 rfl rfl 0 (by decide) (ht _ k_89) (fun _ h9 => h9) rfl d_Co_clear_1 ?_
  refine uV (As := []) (rest := []) (wr := [(o, .inr (4, [.ref h, .ref qe, .int (nI e0.2), .ref w, .ref h2, .ref h3, .ref qm, .int (nI mc)])), (qe, .inl (ce, 16, .inl (iN e0.1))), (h2, .inr (2, [.ref q2, .int (nI s0.2), .int (nI r0.1), .int (bI r0.2)])), (q2, .inl (c2, 2400, .inl (iN s0.1)))]) hx hb hml hown ht (c_Im_drop l dC dI z _ h q ca i0.1 i0.2 ) yv_Im_drop k_142 (Nat.le_of_ble_eq_true rfl) (Nat.le_of_ble_eq_true rfl) hP hK hSS hD hS hA [1, 2] [0, 3, 4, 5] [0] rfl rfl (by decide) rfl (by decide) (by decide) rfl 1 1 rfl rfl rfl hl rfl rfl (Nat.le_of_ble_eq_true rfl) (Nat.zero_le _) (Nat.zero_le _) d_Co_clear_4 (fun H locs hP hD hS => ?_)
  have hP : va_P (dC, dI) classes [(o, .inr (4, [.ref h, .ref qe, .int (nI e0.2), .ref w, .ref h2, .ref h3, .ref qm, .int (nI mc)])), (qe, .inl (ce, 16, .inl (iN e0.1))), (h2, .inr (2, [.ref q2, .int (nI s0.2), .int (nI r0.1), .int (bI r0.2)])), (q2, .inl (c2, 2400, .inl (iN s0.1))), (h, .inr (1, [.ref q, .int (nI 0)])), (q, .inl (ca, 160, .inl (iN i0.1)))] H := hP
  have hD : va_D A [(o, .inr (4, [.ref h, .ref qe, .int (nI e0.2), .ref w, .ref h2, .ref h3, .ref qm, .int (nI mc)])), (qe, .inl (ce, 16, .inl (iN e0.1))), (h2, .inr (2, [.ref q2, .int (nI s0.2), .int (nI r0.1), .int (bI r0.2)])), (q2, .inl (c2, 2400, .inl (iN s0.1))), (h, .inr (1, [.ref q, .int (nI 0)])), (q, .inl (ca, 160, .inl (iN i0.1)))] := hD
  refine stk (st2 := []) rfl ?_
  refine lv_aload_n hx hb d_Co_clear_7 rfl (lv_at hl 0 rfl) ?_
  refine lv_iconst (v := nI 0) hx hb d_Co_clear_8 (by decide) ?_
  refine va_put (D := (dC, dI)) (ci := 4) (v := .int (nI 0)) (ty := .int) (C := R_Co) (T := F_Co) (N := 8) hx hb ht in_Co t_Co t_Co_ok n_Co hown hK hP hD hS 0 rfl rfl 2 (by decide) (ht _ k_91) (fun _ h9 => h9) rfl (by decide +kernel) rfl rfl (Nat.le_of_ble_eq_true rfl) d_Co_clear_9 (fun H locs hP hD hS => ?_)
  have hP : va_P (dC, dI) classes [(o, .inr (4, [.ref h, .ref qe, .int (nI 0), .ref w, .ref h2, .ref h3, .ref qm, .int (nI mc)])), (qe, .inl (ce, 16, .inl (iN e0.1))), (h2, .inr (2, [.ref q2, .int (nI s0.2), .int (nI r0.1), .int (bI r0.2)])), (q2, .inl (c2, 2400, .inl (iN s0.1))), (h, .inr (1, [.ref q, .int (nI 0)])), (q, .inl (ca, 160, .inl (iN i0.1)))] H := hP
  have hD : va_D A [(o, .inr (4, [.ref h, .ref qe, .int (nI 0), .ref w, .ref h2, .ref h3, .ref qm, .int (nI mc)])), (qe, .inl (ce, 16, .inl (iN e0.1))), (h2, .inr (2, [.ref q2, .int (nI s0.2), .int (nI r0.1), .int (bI r0.2)])), (q2, .inl (c2, 2400, .inl (iN s0.1))), (h, .inr (1, [.ref q, .int (nI 0)])), (q, .inl (ca, 160, .inl (iN i0.1)))] := hD
  refine lv_aload_n hx hb d_Co_clear_12 rfl (lv_at hl 0 rfl) ?_
  refine va_get (D := (dC, dI)) (ci := 4) (v := .ref h2) (C := R_Co) (T := F_Co) (N := 8) hx hb ht in_Co hown hK hP 0 rfl rfl 4 (by decide) (ht _ k_93) (fun _ h9 => h9) rfl d_Co_clear_13 ?_
  refine uV (As := []) (rest := []) (wr := [(o, .inr (4, [.ref h, .ref qe, .int (nI 0), .ref w, .ref h2, .ref h3, .ref qm, .int (nI mc)])), (qe, .inl (ce, 16, .inl (iN e0.1))), (h, .inr (1, [.ref q, .int (nI 0)])), (q, .inl (ca, 160, .inl (iN i0.1)))]) hx hb hml hown ht (c_Te_drop l dC dI z _ h2 q2 c2 s0 r0 ) yv_Te_drop k_146 (Nat.le_of_ble_eq_true rfl) (Nat.le_of_ble_eq_true rfl) hP hK hSS hD hS hA [2, 3] [0, 1, 4, 5] [2] rfl rfl (by decide) rfl (by decide) (by decide) rfl 2 2 rfl rfl rfl hl rfl rfl (Nat.le_of_ble_eq_true rfl) (Nat.zero_le _) (Nat.zero_le _) d_Co_clear_16 (fun H locs hP hD hS => ?_)
  have hP : va_P (dC, dI) classes [(o, .inr (4, [.ref h, .ref qe, .int (nI 0), .ref w, .ref h2, .ref h3, .ref qm, .int (nI mc)])), (qe, .inl (ce, 16, .inl (iN e0.1))), (h, .inr (1, [.ref q, .int (nI 0)])), (q, .inl (ca, 160, .inl (iN i0.1))), (h2, .inr (2, [.ref q2, .int (nI ((dr s0).2)), .int (nI r0.1), .int (bI r0.2)])), (q2, .inl (c2, 2400, .inl (iN ((dr s0).1))))] H := hP
  have hD : va_D A [(o, .inr (4, [.ref h, .ref qe, .int (nI 0), .ref w, .ref h2, .ref h3, .ref qm, .int (nI mc)])), (qe, .inl (ce, 16, .inl (iN e0.1))), (h, .inr (1, [.ref q, .int (nI 0)])), (q, .inl (ca, 160, .inl (iN i0.1))), (h2, .inr (2, [.ref q2, .int (nI ((dr s0).2)), .int (nI r0.1), .int (bI r0.2)])), (q2, .inl (c2, 2400, .inl (iN ((dr s0).1))))] := hD
  refine stk (st2 := []) rfl ?_
  refine lv_aload_n hx hb d_Co_clear_19 rfl (lv_at hl 0 rfl) ?_
  refine lv_iconst (v := nI 0) hx hb d_Co_clear_20 (by decide) ?_
  refine va_put (D := (dC, dI)) (ci := 4) (v := .int (nI 0)) (ty := .int) (C := R_Co) (T := F_Co) (N := 8) hx hb ht in_Co t_Co t_Co_ok n_Co hown hK hP hD hS 0 rfl rfl 7 (by decide) (ht _ k_96) (fun _ h9 => h9) rfl (by decide +kernel) rfl rfl (Nat.le_of_ble_eq_true rfl) d_Co_clear_21 (fun H locs hP hD hS => ?_)
  have hP : va_P (dC, dI) classes [(o, .inr (4, [.ref h, .ref qe, .int (nI 0), .ref w, .ref h2, .ref h3, .ref qm, .int (nI 0)])), (qe, .inl (ce, 16, .inl (iN e0.1))), (h, .inr (1, [.ref q, .int (nI 0)])), (q, .inl (ca, 160, .inl (iN i0.1))), (h2, .inr (2, [.ref q2, .int (nI ((dr s0).2)), .int (nI r0.1), .int (bI r0.2)])), (q2, .inl (c2, 2400, .inl (iN ((dr s0).1))))] H := hP
  have hD : va_D A [(o, .inr (4, [.ref h, .ref qe, .int (nI 0), .ref w, .ref h2, .ref h3, .ref qm, .int (nI 0)])), (qe, .inl (ce, 16, .inl (iN e0.1))), (h, .inr (1, [.ref q, .int (nI 0)])), (q, .inl (ca, 160, .inl (iN i0.1))), (h2, .inr (2, [.ref q2, .int (nI ((dr s0).2)), .int (nI r0.1), .int (bI r0.2)])), (q2, .inl (c2, 2400, .inl (iN ((dr s0).1))))] := hD
  exact eUv hx hb hr hlocks hP hD hS [0, 2, 3, 1, 4, 5] rfl rfl (by decide) d_Co_clear_24

set_option maxHeartbeats 4000000 in
set_option maxRecDepth 100000 in
theorem c_Co_type (l : Launch) (dC : Nat → ClassId) (dI : Nat → Nat → Nat) (z : zT) (sz : Nat) (o : Nat) (h : Nat) (qe : Nat) (w : Nat) (h2 : Nat) (h3 : Nat) (qm : Nat) (e0 : txT) (mc : Nat) (q2 : Nat) (c2 : ClassId) (s0 : txT) (r0 : rdT) (x : Int32) (y : Int) (v : Int32) (hs : s0.2 ≤ 2400) (hy : x.toInt = y) : MU l y_Co_type b_Co_type 3 (some .boolean) 2 43 (dC, dI) z [.ref o, .int x, .int v] [(o, .inr (4, [.ref h, .ref qe, .int (nI e0.2), .ref w, .ref h2, .ref h3, .ref qm, .int (nI mc)])), (h2, .inr (2, [.ref q2, .int (nI s0.2), .int (nI r0.1), .int (bI r0.2)])), (q2, .inl (c2, 2400, .inl (iN s0.1)))] [(c2, .char)] sz (some (.int (bI (tyB s0 y v.toInt)))) [(o, .inr (4, [.ref h, .ref qe, .int (nI e0.2), .ref w, .ref h2, .ref h3, .ref qm, .int (nI mc)])), (h2, .inr (2, [.ref q2, .int (nI ((tyS s0 y v.toInt).2)), .int (nI r0.1), .int (bI r0.2)])), (q2, .inl (c2, 2400, .inl (iN ((tyS s0 y v.toInt).1))))] := by
  refine metU (by decide) (Nat.le_of_ble_eq_true rfl) ?_
  intro p e s m below meth c ls A hx hb hr hlocks hml hown ht hl hP hK hSS hD hS hA
  have hl : lv_has ls 3 [(0, .ref o), (1, .int x), (2, .int v)] := hl
  refine lv_iload_n hx hb d_Co_type_0 rfl (lv_at hl 1 rfl) ?_
  refine z_if_lt (tgt := 33) hx hb d_Co_type_1 hy (by decide) (fun g1 => ?_) (fun g1 => ?_)
  · refine lv_iconst (v := nI 0) hx hb d_Co_type_33 (by decide) ?_
    refine eqi (y := bI false) (by decide) ?_
    rw [tyS, if_neg (by omega)]
    exact eUz hx hb hr hlocks (bI_narrow _) hP hD hS [0, 1, 2] rfl rfl (by decide) d_Co_type_34 (bI_zero (by omega))
  · refine lv_iload_n hx hb d_Co_type_4 rfl (lv_at hl 1 rfl) ?_
    refine lv_aload_n hx hb d_Co_type_5 rfl (lv_at hl 0 rfl) ?_
    refine va_get (D := (dC, dI)) (ci := 4) (v := .ref h2) (C := R_Co) (T := F_Co) (N := 8) hx hb ht in_Co hown hK hP 0 rfl rfl 4 (by decide) (ht _ k_93) (fun _ h9 => h9) rfl d_Co_type_6 ?_
    refine rV (As := []) (rest := [.int x]) hx hb hml hown ht (c_Te_count l dC dI z h2 q2 c2 s0 r0 ) yv_Te_count k_366 (Nat.le_of_ble_eq_true rfl) (Nat.le_of_ble_eq_true rfl) hP hK hSS hS [1, 2] [0] rfl rfl 1 2 rfl rfl rfl hl rfl rfl (Nat.le_of_ble_eq_true rfl) (Nat.zero_le _) (Nat.zero_le _) d_Co_type_9 ?_
    refine z_icmp_gt (tgt := 33) hx hb d_Co_type_12 hy (tI_n (by omega)) (by decide) (fun g12 => ?_) (fun g12 => ?_)
    · refine lv_iconst (v := nI 0) hx hb d_Co_type_33 (by decide) ?_
      refine eqi (y := bI false) (by decide) ?_
      rw [tyS, if_neg (by omega)]
      exact eUz hx hb hr hlocks (bI_narrow _) hP hD hS [0, 1, 2] rfl rfl (by decide) d_Co_type_34 (bI_zero (by omega))
    · refine lv_iload_n hx hb d_Co_type_15 rfl (lv_at hl 1 rfl) ?_
      refine lv_sipush (v := nI 2400) hx hb d_Co_type_16 (by decide) ?_
      refine z_icmp_ge (tgt := 33) hx hb d_Co_type_19 hy (tI_n (by omega)) (by decide) (fun g19 => ?_) (fun g19 => ?_)
      · refine lv_iconst (v := nI 0) hx hb d_Co_type_33 (by decide) ?_
        refine eqi (y := bI false) (by decide) ?_
        rw [tyS, if_neg (by omega)]
        exact eUz hx hb hr hlocks (bI_narrow _) hP hD hS [0, 1, 2] rfl rfl (by decide) d_Co_type_34 (bI_zero (by omega))
      · refine lv_iload_n hx hb d_Co_type_22 rfl (lv_at hl 2 rfl) ?_
        refine z_if_lt (tgt := 33) hx hb d_Co_type_23 rfl (by decide) (fun g23 => ?_) (fun g23 => ?_)
        · refine lv_iconst (v := nI 0) hx hb d_Co_type_33 (by decide) ?_
          refine eqi (y := bI false) (by decide) ?_
          rw [tyS, if_neg (by omega)]
          exact eUz hx hb hr hlocks (bI_narrow _) hP hD hS [0, 1, 2] rfl rfl (by decide) d_Co_type_34 (bI_zero (by omega))
        · refine lv_iload_n hx hb d_Co_type_26 rfl (lv_at hl 2 rfl) ?_
          refine lv_sipush (v := nI 255) hx hb d_Co_type_27 (by decide) ?_
          refine z_icmp_le (tgt := 35) hx hb d_Co_type_30 rfl (tI_n (by omega)) (by decide) (fun g30 => ?_) (fun g30 => ?_)
          · refine lv_aload_n hx hb d_Co_type_35 rfl (lv_at hl 0 rfl) ?_
            refine va_get (D := (dC, dI)) (ci := 4) (v := .ref h2) (C := R_Co) (T := F_Co) (N := 8) hx hb ht in_Co hown hK hP 0 rfl rfl 4 (by decide) (ht _ k_93) (fun _ h9 => h9) rfl d_Co_type_36 ?_
            refine lv_iload_n hx hb d_Co_type_39 rfl (lv_at hl 1 rfl) ?_
            refine eqi (y := nI y.toNat) (x_yN hy (by omega)) ?_
            refine lv_iload_n hx hb d_Co_type_40 rfl (lv_at hl 2 rfl) ?_
            refine eqi (y := nI v.toInt.toNat) (x_nI (by omega)) ?_
            refine lv_i2c (v := nI v.toInt.toNat) hx hb d_Co_type_41 (i2c_n (by omega)) ?_
            refine uV (As := [.int (nI y.toNat), .int (nI v.toInt.toNat)]) (rest := []) (wr := [(o, .inr (4, [.ref h, .ref qe, .int (nI e0.2), .ref w, .ref h2, .ref h3, .ref qm, .int (nI mc)]))]) hx hb hml hown ht (c_Te_put l dC dI z _ h2 q2 c2 s0 r0 y.toNat v.toInt.toNat (by first | assumption | omega) (by first | assumption | omega) (by first | assumption | omega) (by first | assumption | omega)) yv_Te_put k_387 (Nat.le_of_ble_eq_true rfl) (Nat.le_of_ble_eq_true rfl) hP hK hSS hD hS hA [1, 2] [0] [0] rfl rfl (by decide) rfl (by decide) (by decide) rfl 1 2 rfl rfl rfl hl rfl rfl (Nat.le_of_ble_eq_true rfl) (Nat.zero_le _) (Nat.zero_le _) d_Co_type_42 (fun H locs hP hD hS => ?_)
            have hP : va_P (dC, dI) classes [(o, .inr (4, [.ref h, .ref qe, .int (nI e0.2), .ref w, .ref h2, .ref h3, .ref qm, .int (nI mc)])), (h2, .inr (2, [.ref q2, .int (nI ((pu s0 y.toNat v.toInt.toNat).2)), .int (nI r0.1), .int (bI r0.2)])), (q2, .inl (c2, 2400, .inl (iN ((pu s0 y.toNat v.toInt.toNat).1))))] H := hP
            have hD : va_D A [(o, .inr (4, [.ref h, .ref qe, .int (nI e0.2), .ref w, .ref h2, .ref h3, .ref qm, .int (nI mc)])), (h2, .inr (2, [.ref q2, .int (nI ((pu s0 y.toNat v.toInt.toNat).2)), .int (nI r0.1), .int (bI r0.2)])), (q2, .inl (c2, 2400, .inl (iN ((pu s0 y.toNat v.toInt.toNat).1))))] := hD
            refine stk (st2 := []) rfl ?_
            refine lv_iconst (v := nI 1) hx hb d_Co_type_45 (by decide) ?_
            refine eqi (y := bI true) (by decide) ?_
            rw [tyS, if_pos ⟨by omega, by omega⟩]
            exact eUz hx hb hr hlocks (bI_narrow _) hP hD hS [0, 1, 2] rfl rfl (by decide) d_Co_type_46 (bI_one ⟨by omega, by omega⟩)
          · refine lv_iconst (v := nI 0) hx hb d_Co_type_33 (by decide) ?_
            refine eqi (y := bI false) (by decide) ?_
            rw [tyS, if_neg (by omega)]
            exact eUz hx hb hr hlocks (bI_narrow _) hP hD hS [0, 1, 2] rfl rfl (by decide) d_Co_type_34 (bI_zero (by omega))

set_option maxHeartbeats 4000000 in
set_option maxRecDepth 100000 in
theorem c_Co_sweep (l : Launch) (dC : Nat → ClassId) (dI : Nat → Nat → Nat) (z : zT) (o : Nat) (h : Nat) (qe : Nat) (w : Nat) (h2 : Nat) (h3 : Nat) (qm : Nat) (e0 : txT) (mc : Nat) (q : Nat) (ca : ClassId) (i0 : txT) (hn : i0.2 ≤ 160) (hb8 : ∀ i, i0.1 i < 256) : MR l y_Co_sweep b_Co_sweep 4 (some .int) 4 86 (dC, dI) z [.ref o] [(o, .inr (4, [.ref h, .ref qe, .int (nI e0.2), .ref w, .ref h2, .ref h3, .ref qm, .int (nI mc)])), (h, .inr (1, [.ref q, .int (nI i0.2)])), (q, .inl (ca, 160, .inl (iN i0.1)))] [(ca, .int)] (.int (nI (swF i0.1 i0.2 (i0.2 + 1) 0 0))) := by
  refine metR (by decide) (Nat.le_of_ble_eq_true rfl) ?_
  intro p e s m below meth c ls hx hb hr hlocks hml hown ht hl hP hK hSS
  have hl : lv_has ls 4 [(0, .ref o)] := hl
  have hS : va_S (fun _ => False) s.heap s.heap [] := va_S.rf
  refine lv_iconst (v := nI 0) hx hb d_Co_sweep_0 (by decide) ?_
  refine lv_istore_n (lv' := [(1, .int (nI 0)), (0, .ref o)]) hx hb d_Co_sweep_1 rfl hl (Nat.le_of_ble_eq_true rfl) rfl (fun ls hl => ?_)
  refine lv_iconst (v := nI 0) hx hb d_Co_sweep_2 (by decide) ?_
  refine lv_istore_n (lv' := [(2, .int (nI 0)), (1, .int (nI 0)), (0, .ref o)]) hx hb d_Co_sweep_3 rfl hl (Nat.le_of_ble_eq_true rfl) rfl (fun ls hl => ?_)
  have loop4 : ∀ (j : Nat) (a : Nat) (k : Nat) (ls : Array Slot), (i0.2 < j + a) → (swF i0.1 i0.2 (i0.2 + 1) 0 0 = swF i0.1 i0.2 j a k) → (k ≤ a) → (a ≤ i0.2 + 2) → lv_has ls 4 [(2, .int (nI a)), (1, .int (nI k)), (0, .ref o)] → W p l e (rmq 4 86) s m [.ref o].toArray below meth c s.heap [] 0 0 (MQ below (k2_QcV (.int (nI (swF i0.1 i0.2 (i0.2 + 1) 0 0)))) [.ref o].toArray s 0 0 (fun _ => False)) (F0 m 4 ls []) := by
    intro j
    induction j with
    | zero =>
      intro a k ls hfu hR hka han hl
      refine lv_iload_n hx hb d_Co_sweep_4 rfl (lv_at hl 0 rfl) ?_
      refine lv_aload_n hx hb d_Co_sweep_5 rfl (lv_at hl 2 rfl) ?_
      refine va_get (D := (dC, dI)) (ci := 4) (v := .ref h) (C := R_Co) (T := F_Co) (N := 8) hx hb ht in_Co hown hK hP 0 rfl rfl 0 (by decide) (ht _ k_89) (fun _ h9 => h9) rfl d_Co_sweep_6 ?_
      refine rV (As := []) (rest := [.int (nI a)]) hx hb hml hown ht (c_Im_count l dC dI z h q ca i0.1 i0.2 ) yv_Im_count k_118 (Nat.le_of_ble_eq_true rfl) (Nat.le_of_ble_eq_true rfl) hP hK hSS hS [1, 2] [0] rfl rfl 1 1 rfl rfl rfl hl rfl rfl (Nat.le_of_ble_eq_true rfl) (Nat.zero_le _) (Nat.zero_le _) d_Co_sweep_9 ?_
      refine z_icmp_ge (tgt := 42) hx hb d_Co_sweep_12 (tI_n (by omega)) (tI_n (by omega)) (by decide) (fun g12 => ?_) (fun g12 => ?_)
      · refine lv_iload_n hx hb d_Co_sweep_42 rfl (lv_at hl 1 rfl) ?_
        exact eRi hx hb hr hlocks d_Co_sweep_43 (by rw [hR]; rfl)
      · exfalso; omega
    | succ j ih =>
      intro a k ls hfu hR hka han hl
      have hc3 := cln_le3 i0.1 i0.2 (a : Int)
      refine lv_iload_n hx hb d_Co_sweep_4 rfl (lv_at hl 0 rfl) ?_
      refine lv_aload_n hx hb d_Co_sweep_5 rfl (lv_at hl 2 rfl) ?_
      refine va_get (D := (dC, dI)) (ci := 4) (v := .ref h) (C := R_Co) (T := F_Co) (N := 8) hx hb ht in_Co hown hK hP 0 rfl rfl 0 (by decide) (ht _ k_89) (fun _ h9 => h9) rfl d_Co_sweep_6 ?_
      refine rV (As := []) (rest := [.int (nI a)]) hx hb hml hown ht (c_Im_count l dC dI z h q ca i0.1 i0.2 ) yv_Im_count k_118 (Nat.le_of_ble_eq_true rfl) (Nat.le_of_ble_eq_true rfl) hP hK hSS hS [1, 2] [0] rfl rfl 1 1 rfl rfl rfl hl rfl rfl (Nat.le_of_ble_eq_true rfl) (Nat.zero_le _) (Nat.zero_le _) d_Co_sweep_9 ?_
      refine z_icmp_ge (tgt := 42) hx hb d_Co_sweep_12 (tI_n (by omega)) (tI_n (by omega)) (by decide) (fun g12 => ?_) (fun g12 => ?_)
      · refine lv_iload_n hx hb d_Co_sweep_42 rfl (lv_at hl 1 rfl) ?_
        exact eRi hx hb hr hlocks d_Co_sweep_43 (by rw [hR, swF, if_neg (by omega)])
      · refine lv_aload_n hx hb d_Co_sweep_15 rfl (lv_at hl 2 rfl) ?_
        refine va_get (D := (dC, dI)) (ci := 4) (v := .ref h) (C := R_Co) (T := F_Co) (N := 8) hx hb ht in_Co hown hK hP 0 rfl rfl 0 (by decide) (ht _ k_89) (fun _ h9 => h9) rfl d_Co_sweep_16 ?_
        refine lv_iload_n hx hb d_Co_sweep_19 rfl (lv_at hl 0 rfl) ?_
        refine rV (As := [.int (nI a)]) (rest := []) hx hb hml hown ht (c_Im_codeLength l dC dI z h q ca i0.1 i0.2 (nI a) ((a : Nat) : Int) (by first | assumption | omega) (by first | assumption | omega) (tI_n (by omega))) yv_Im_codeLength k_171 (Nat.le_of_ble_eq_true rfl) (Nat.le_of_ble_eq_true rfl) hP hK hSS hS [1, 2] [0] rfl rfl 1 1 rfl rfl rfl hl rfl rfl (Nat.le_of_ble_eq_true rfl) (Nat.zero_le _) (Nat.zero_le _) d_Co_sweep_20 ?_
        refine lv_istore_n (lv' := [(3, .int (nI (cln i0.1 i0.2 ((a : Nat) : Int)))), (2, .int (nI a)), (1, .int (nI k)), (0, .ref o)]) hx hb d_Co_sweep_23 rfl hl (Nat.le_of_ble_eq_true rfl) rfl (fun ls hl => ?_)
        refine lv_iload_n hx hb d_Co_sweep_24 rfl (lv_at hl 0 rfl) ?_
        refine z_if_le (tgt := 31) hx hb d_Co_sweep_25 (tI_n (by omega)) (by decide) (fun g25 => ?_) (fun g25 => ?_)
        · refine lv_iload_n hx hb d_Co_sweep_31 rfl (lv_at hl 1 rfl) ?_
          refine lv_iconst (v := nI 1) hx hb d_Co_sweep_32 (by decide) ?_
          refine lv_iload_n hx hb d_Co_sweep_33 rfl (lv_at hl 0 rfl) ?_
          refine va_mmax hx hb (by rw [hml]; exact hl.1.symm) hown (ht _ k_252) (ht _ k_253) (ht _ k_8) (ht _ k_254) (Nat.le_of_ble_eq_true rfl) (Nat.le_of_ble_eq_true rfl) (Nat.zero_le _) (Nat.zero_le _) d_Co_sweep_34 ?_
          refine eqi (y := nI (max 1 (cln i0.1 i0.2 (a : Int)))) (max_1 (by omega)) ?_
          refine nAdd hx hb d_Co_sweep_37 ?_
          refine lv_istore_n (lv' := [(2, .int (nI (a + (max 1 (cln i0.1 i0.2 (a : Int)))))), (3, .int (nI (cln i0.1 i0.2 ((a : Nat) : Int)))), (1, .int (nI k)), (0, .ref o)]) hx hb d_Co_sweep_38 rfl hl (Nat.le_of_ble_eq_true rfl) rfl (fun ls hl => ?_)
          refine lv_goto (tgt := 4) hx hb d_Co_sweep_39 (by decide) ?_
          exact ih (a + max 1 (cln i0.1 i0.2 (a : Int))) k _ (by omega) (by rw [hR, swF, if_pos (by omega), if_neg (by omega)]) (by omega) (by omega) (lv_sub hl [0, 2, 3] rfl)
        · refine lv_iinc (k := 2) (v := nI (k + 1)) (lv' := [(1, .int (nI (k + 1))), (3, .int (nI (cln i0.1 i0.2 ((a : Nat) : Int)))), (2, .int (nI a)), (0, .ref o)]) hx hb d_Co_sweep_28 hl rfl (nI_inc1 _) (Nat.le_of_ble_eq_true rfl) rfl (fun ls hl => ?_)
          refine lv_iload_n hx hb d_Co_sweep_31 rfl (lv_at hl 2 rfl) ?_
          refine lv_iconst (v := nI 1) hx hb d_Co_sweep_32 (by decide) ?_
          refine lv_iload_n hx hb d_Co_sweep_33 rfl (lv_at hl 1 rfl) ?_
          refine va_mmax hx hb (by rw [hml]; exact hl.1.symm) hown (ht _ k_252) (ht _ k_253) (ht _ k_8) (ht _ k_254) (Nat.le_of_ble_eq_true rfl) (Nat.le_of_ble_eq_true rfl) (Nat.zero_le _) (Nat.zero_le _) d_Co_sweep_34 ?_
          refine eqi (y := nI (max 1 (cln i0.1 i0.2 (a : Int)))) (max_1 (by omega)) ?_
          refine nAdd hx hb d_Co_sweep_37 ?_
          refine lv_istore_n (lv' := [(2, .int (nI (a + (max 1 (cln i0.1 i0.2 (a : Int)))))), (1, .int (nI (k + 1))), (3, .int (nI (cln i0.1 i0.2 ((a : Nat) : Int)))), (0, .ref o)]) hx hb d_Co_sweep_38 rfl hl (Nat.le_of_ble_eq_true rfl) rfl (fun ls hl => ?_)
          refine lv_goto (tgt := 4) hx hb d_Co_sweep_39 (by decide) ?_
          exact ih (a + max 1 (cln i0.1 i0.2 (a : Int))) (k + 1) _ (by omega) (by rw [hR, swF, if_pos (by omega), if_pos (by omega)]) (by omega) (by omega) (lv_sub hl [0, 1, 3] rfl)
  exact loop4 (i0.2 + 1) 0 0 _ (by omega) (rfl) (Nat.le_refl _) (by omega) (lv_sub hl [0, 1, 2] rfl)
