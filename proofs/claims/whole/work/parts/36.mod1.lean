set_option maxHeartbeats 4000000 in
set_option maxRecDepth 100000 in
theorem c_Mo_has (l : Launch) (dC : Nat → ClassId) (dI : Nat → Nat → Nat) (z : zT) (o : Nat) (gi : Nat) (ge : Nat) (gt : Nat) (go : Nat) (gb : Nat) (gm : Nat) (gl : Nat) (i0 : txT) (e0 : txT) (t0 : txT) (mk : Nat) (L0 : txT) (x : Int32) (y : Int) (hn : i0.2 ≤ 160) (hy : x.toInt = y) : MR l y_Mo_has b_Mo_has 2 (some .boolean) 0 0 (dC, dI) z [.ref o, .int x] [(o, .inr (5, [.ref gi, .ref ge, .ref gt, .ref go, .ref gb, .ref gm, .ref gl, .int (nI i0.2), .int (nI e0.2), .int (nI t0.2), .int (nI mk), .int (nI L0.2)]))] [] (.int (bI (decide (0 ≤ y ∧ y < (i0.2 : Int))))) := by
  refine metR (by decide) (Nat.le_of_ble_eq_true rfl) ?_
  intro p e s m below meth c ls hx hb hr hlocks hml hown ht hl hP hK hSS
  have hl : lv_has ls 2 [(0, .ref o), (1, .int x)] := hl
  have hS : va_S (fun _ => False) s.heap s.heap [] := va_S.rf
  refine lv_iload_n hx hb d_Mo_has_0 rfl (lv_at hl 1 rfl) ?_
  refine z_if_lt (tgt := 16) hx hb d_Mo_has_1 hy (by decide) (fun g1 => ?_) (fun g1 => ?_)
  · refine lv_iconst (v := nI 0) hx hb d_Mo_has_16 (by decide) ?_
    refine eqi (y := bI false) (by decide) ?_
    exact eRz hx hb hr hlocks (bI_narrow _) d_Mo_has_17 (bI_zero (by omega))
  · refine lv_iload_n hx hb d_Mo_has_4 rfl (lv_at hl 1 rfl) ?_
    refine lv_aload_n hx hb d_Mo_has_5 rfl (lv_at hl 0 rfl) ?_
    refine va_get (D := (dC, dI)) (ci := 5) (v := .int (nI i0.2)) (C := R_Mo) (T := F_Mo) (N := 12) hx hb ht in_Mo hown hK hP 0 rfl rfl 7 (by decide) (ht _ k_498) (fun _ h9 => h9) rfl d_Mo_has_6 ?_
    refine z_icmp_ge (tgt := 16) hx hb d_Mo_has_9 hy (tI_n (by omega)) (by decide) (fun g9 => ?_) (fun g9 => ?_)
    · refine lv_iconst (v := nI 0) hx hb d_Mo_has_16 (by decide) ?_
      refine eqi (y := bI false) (by decide) ?_
      exact eRz hx hb hr hlocks (bI_narrow _) d_Mo_has_17 (bI_zero (by omega))
    · refine lv_iconst (v := nI 1) hx hb d_Mo_has_12 (by decide) ?_
      refine lv_goto (tgt := 17) hx hb d_Mo_has_13 (by decide) ?_
      refine eqi (y := bI true) (by decide) ?_
      exact eRz hx hb hr hlocks (bI_narrow _) d_Mo_has_17 (bI_one (by omega))

set_option maxHeartbeats 4000000 in
set_option maxRecDepth 100000 in
theorem c_Mo_size (l : Launch) (dC : Nat → ClassId) (dI : Nat → Nat → Nat) (z : zT) (o : Nat) (gi : Nat) (ge : Nat) (gt : Nat) (go : Nat) (gb : Nat) (gm : Nat) (gl : Nat) (i0 : txT) (e0 : txT) (t0 : txT) (mk : Nat) (L0 : txT) : MR l y_Mo_size b_Mo_size 1 (some .int) 0 0 (dC, dI) z [.ref o] [(o, .inr (5, [.ref gi, .ref ge, .ref gt, .ref go, .ref gb, .ref gm, .ref gl, .int (nI i0.2), .int (nI e0.2), .int (nI t0.2), .int (nI mk), .int (nI L0.2)]))] [] (.int (nI i0.2)) := by
  refine metR (by decide) (Nat.le_of_ble_eq_true rfl) ?_
  intro p e s m below meth c ls hx hb hr hlocks hml hown ht hl hP hK hSS
  have hl : lv_has ls 1 [(0, .ref o)] := hl
  have hS : va_S (fun _ => False) s.heap s.heap [] := va_S.rf
  refine lv_aload_n hx hb d_Mo_size_0 rfl (lv_at hl 0 rfl) ?_
  refine va_get (D := (dC, dI)) (ci := 5) (v := .int (nI i0.2)) (C := R_Mo) (T := F_Mo) (N := 12) hx hb ht in_Mo hown hK hP 0 rfl rfl 7 (by decide) (ht _ k_498) (fun _ h9 => h9) rfl d_Mo_size_1 ?_
  exact eRi hx hb hr hlocks d_Mo_size_4 (rfl)

set_option maxHeartbeats 4000000 in
set_option maxRecDepth 100000 in
theorem c_Mo_textLength (l : Launch) (dC : Nat → ClassId) (dI : Nat → Nat → Nat) (z : zT) (o : Nat) (gi : Nat) (ge : Nat) (gt : Nat) (go : Nat) (gb : Nat) (gm : Nat) (gl : Nat) (i0 : txT) (e0 : txT) (t0 : txT) (mk : Nat) (L0 : txT) : MR l y_Mo_textLength b_Mo_textLength 1 (some .int) 0 0 (dC, dI) z [.ref o] [(o, .inr (5, [.ref gi, .ref ge, .ref gt, .ref go, .ref gb, .ref gm, .ref gl, .int (nI i0.2), .int (nI e0.2), .int (nI t0.2), .int (nI mk), .int (nI L0.2)]))] [] (.int (nI t0.2)) := by
  refine metR (by decide) (Nat.le_of_ble_eq_true rfl) ?_
  intro p e s m below meth c ls hx hb hr hlocks hml hown ht hl hP hK hSS
  have hl : lv_has ls 1 [(0, .ref o)] := hl
  have hS : va_S (fun _ => False) s.heap s.heap [] := va_S.rf
  refine lv_aload_n hx hb d_Mo_textLength_0 rfl (lv_at hl 0 rfl) ?_
  refine va_get (D := (dC, dI)) (ci := 5) (v := .int (nI t0.2)) (C := R_Mo) (T := F_Mo) (N := 12) hx hb ht in_Mo hown hK hP 0 rfl rfl 9 (by decide) (ht _ k_500) (fun _ h9 => h9) rfl d_Mo_textLength_1 ?_
  exact eRi hx hb hr hlocks d_Mo_textLength_4 (rfl)

set_option maxHeartbeats 4000000 in
set_option maxRecDepth 100000 in
theorem c_Mo_byteAt (l : Launch) (dC : Nat → ClassId) (dI : Nat → Nat → Nat) (z : zT) (o : Nat) (gi : Nat) (ge : Nat) (gt : Nat) (go : Nat) (gb : Nat) (gm : Nat) (gl : Nat) (i0 : txT) (e0 : txT) (t0 : txT) (mk : Nat) (L0 : txT) (ci : ClassId) (x : Int32) (y : Int) (hn : i0.2 ≤ 160) (hy : x.toInt = y) : MR l y_Mo_byteAt b_Mo_byteAt 2 (some .int) 1 21 (dC, dI) z [.ref o, .int x] [(o, .inr (5, [.ref gi, .ref ge, .ref gt, .ref go, .ref gb, .ref gm, .ref gl, .int (nI i0.2), .int (nI e0.2), .int (nI t0.2), .int (nI mk), .int (nI L0.2)])), (gi, .inl (ci, 160, .inl (iN i0.1)))] [(ci, .int)] (.int (iI (atZ i0.1 i0.2 y))) := by
  refine metR (by decide) (Nat.le_of_ble_eq_true rfl) ?_
  intro p e s m below meth c ls hx hb hr hlocks hml hown ht hl hP hK hSS
  have hl : lv_has ls 2 [(0, .ref o), (1, .int x)] := hl
  have hS : va_S (fun _ => False) s.heap s.heap [] := va_S.rf
  refine lv_aload_n hx hb d_Mo_byteAt_0 rfl (lv_at hl 0 rfl) ?_
  refine lv_iload_n hx hb d_Mo_byteAt_1 rfl (lv_at hl 1 rfl) ?_
  refine rV (As := [.int x]) (rest := []) hx hb hml hown ht (c_Mo_has l dC dI z o gi ge gt go gb gm gl i0 e0 t0 mk L0 x y (by first | assumption | omega) hy) yv_Mo_has k_536 (Nat.le_of_ble_eq_true rfl) (Nat.le_of_ble_eq_true rfl) hP hK hSS hS [0] [] rfl rfl 0 5 rfl rfl rfl hl rfl rfl (Nat.le_of_ble_eq_true rfl) (Nat.zero_le _) (Nat.zero_le _) d_Mo_byteAt_2 ?_
  refine b_if_eq (tgt := 17) hx hb d_Mo_byteAt_5 (by decide) (fun g5 => ?_) (fun g5 => ?_)
  · have g := of_decide_eq_false g5
    refine lv_iconst (v := iI (-1)) hx hb d_Mo_byteAt_17 (by decide) ?_
    exact eRi hx hb hr hlocks d_Mo_byteAt_18 (by rw [atZ, if_neg (by omega)])
  · have g := of_decide_eq_true g5
    refine lv_aload_n hx hb d_Mo_byteAt_8 rfl (lv_at hl 0 rfl) ?_
    refine va_get (D := (dC, dI)) (ci := 5) (v := .ref gi) (C := R_Mo) (T := F_Mo) (N := 12) hx hb ht in_Mo hown hK hP 0 rfl rfl 0 (by decide) (ht _ k_491) (fun _ h9 => h9) rfl d_Mo_byteAt_9 ?_
    refine lv_iload_n hx hb d_Mo_byteAt_12 rfl (lv_at hl 1 rfl) ?_
    refine eqi (y := nI y.toNat) (x_yN hy (by omega)) ?_
    refine ldI (q0 := 1) (t0 := 0) hx hb d_Mo_byteAt_13 hK hP rfl rfl (by omega) (by decide) ?_
    refine lv_goto (tgt := 18) hx hb d_Mo_byteAt_14 (by decide) ?_
    exact eRi hx hb hr hlocks d_Mo_byteAt_18 (by rw [nI_iI, atZ, if_pos (by omega)])

set_option maxHeartbeats 4000000 in
set_option maxRecDepth 100000 in
theorem c_Mo_entry (l : Launch) (dC : Nat → ClassId) (dI : Nat → Nat → Nat) (z : zT) (o : Nat) (gi : Nat) (ge : Nat) (gt : Nat) (go : Nat) (gb : Nat) (gm : Nat) (gl : Nat) (i0 : txT) (e0 : txT) (t0 : txT) (mk : Nat) (L0 : txT) (ce : ClassId) (x : Int32) (y : Int) (he : e0.2 ≤ 16) (hy : x.toInt = y) : MR l y_Mo_entry b_Mo_entry 2 (some .int) 0 0 (dC, dI) z [.ref o, .int x] [(o, .inr (5, [.ref gi, .ref ge, .ref gt, .ref go, .ref gb, .ref gm, .ref gl, .int (nI i0.2), .int (nI e0.2), .int (nI t0.2), .int (nI mk), .int (nI L0.2)])), (ge, .inl (ce, 16, .inl (iN e0.1)))] [(ce, .int)] (.int (iI (atZ e0.1 e0.2 y))) := by
  refine metR (by decide) (Nat.le_of_ble_eq_true rfl) ?_
  intro p e s m below meth c ls hx hb hr hlocks hml hown ht hl hP hK hSS
  have hl : lv_has ls 2 [(0, .ref o), (1, .int x)] := hl
  have hS : va_S (fun _ => False) s.heap s.heap [] := va_S.rf
  refine lv_iload_n hx hb d_Mo_entry_0 rfl (lv_at hl 1 rfl) ?_
  refine z_if_lt (tgt := 21) hx hb d_Mo_entry_1 hy (by decide) (fun g1 => ?_) (fun g1 => ?_)
  · refine lv_iconst (v := iI (-1)) hx hb d_Mo_entry_21 (by decide) ?_
    exact eRi hx hb hr hlocks d_Mo_entry_22 (by rw [atZ, if_neg (by omega)])
  · refine lv_iload_n hx hb d_Mo_entry_4 rfl (lv_at hl 1 rfl) ?_
    refine lv_aload_n hx hb d_Mo_entry_5 rfl (lv_at hl 0 rfl) ?_
    refine va_get (D := (dC, dI)) (ci := 5) (v := .int (nI e0.2)) (C := R_Mo) (T := F_Mo) (N := 12) hx hb ht in_Mo hown hK hP 0 rfl rfl 8 (by decide) (ht _ k_499) (fun _ h9 => h9) rfl d_Mo_entry_6 ?_
    refine z_icmp_ge (tgt := 21) hx hb d_Mo_entry_9 hy (tI_n (by omega)) (by decide) (fun g9 => ?_) (fun g9 => ?_)
    · refine lv_iconst (v := iI (-1)) hx hb d_Mo_entry_21 (by decide) ?_
      exact eRi hx hb hr hlocks d_Mo_entry_22 (by rw [atZ, if_neg (by omega)])
    · refine lv_aload_n hx hb d_Mo_entry_12 rfl (lv_at hl 0 rfl) ?_
      refine va_get (D := (dC, dI)) (ci := 5) (v := .ref ge) (C := R_Mo) (T := F_Mo) (N := 12) hx hb ht in_Mo hown hK hP 0 rfl rfl 1 (by decide) (ht _ k_492) (fun _ h9 => h9) rfl d_Mo_entry_13 ?_
      refine lv_iload_n hx hb d_Mo_entry_16 rfl (lv_at hl 1 rfl) ?_
      refine eqi (y := nI y.toNat) (x_yN hy (by omega)) ?_
      refine ldI (q0 := 1) (t0 := 0) hx hb d_Mo_entry_17 hK hP rfl rfl (by omega) (by decide) ?_
      refine lv_goto (tgt := 22) hx hb d_Mo_entry_18 (by decide) ?_
      exact eRi hx hb hr hlocks d_Mo_entry_22 (by rw [nI_iI, atZ, if_pos (by omega)])

set_option maxHeartbeats 4000000 in
set_option maxRecDepth 100000 in
theorem c_Mo_charAt (l : Launch) (dC : Nat → ClassId) (dI : Nat → Nat → Nat) (z : zT) (o : Nat) (gi : Nat) (ge : Nat) (gt : Nat) (go : Nat) (gb : Nat) (gm : Nat) (gl : Nat) (i0 : txT) (e0 : txT) (t0 : txT) (mk : Nat) (L0 : txT) (ct : ClassId) (x : Int32) (y : Int) (hs : t0.2 ≤ 2400) (hy : x.toInt = y) : MR l y_Mo_charAt b_Mo_charAt 2 (some .int) 0 0 (dC, dI) z [.ref o, .int x] [(o, .inr (5, [.ref gi, .ref ge, .ref gt, .ref go, .ref gb, .ref gm, .ref gl, .int (nI i0.2), .int (nI e0.2), .int (nI t0.2), .int (nI mk), .int (nI L0.2)])), (gt, .inl (ct, 2400, .inl (iN t0.1)))] [(ct, .int)] (.int (iI (atZ t0.1 t0.2 y))) := by
  refine metR (by decide) (Nat.le_of_ble_eq_true rfl) ?_
  intro p e s m below meth c ls hx hb hr hlocks hml hown ht hl hP hK hSS
  have hl : lv_has ls 2 [(0, .ref o), (1, .int x)] := hl
  have hS : va_S (fun _ => False) s.heap s.heap [] := va_S.rf
  refine lv_iload_n hx hb d_Mo_charAt_0 rfl (lv_at hl 1 rfl) ?_
  refine z_if_lt (tgt := 21) hx hb d_Mo_charAt_1 hy (by decide) (fun g1 => ?_) (fun g1 => ?_)
  · refine lv_iconst (v := iI (-1)) hx hb d_Mo_charAt_21 (by decide) ?_
    exact eRi hx hb hr hlocks d_Mo_charAt_22 (by rw [atZ, if_neg (by omega)])
  · refine lv_iload_n hx hb d_Mo_charAt_4 rfl (lv_at hl 1 rfl) ?_
    refine lv_aload_n hx hb d_Mo_charAt_5 rfl (lv_at hl 0 rfl) ?_
    refine va_get (D := (dC, dI)) (ci := 5) (v := .int (nI t0.2)) (C := R_Mo) (T := F_Mo) (N := 12) hx hb ht in_Mo hown hK hP 0 rfl rfl 9 (by decide) (ht _ k_500) (fun _ h9 => h9) rfl d_Mo_charAt_6 ?_
    refine z_icmp_ge (tgt := 21) hx hb d_Mo_charAt_9 hy (tI_n (by omega)) (by decide) (fun g9 => ?_) (fun g9 => ?_)
    · refine lv_iconst (v := iI (-1)) hx hb d_Mo_charAt_21 (by decide) ?_
      exact eRi hx hb hr hlocks d_Mo_charAt_22 (by rw [atZ, if_neg (by omega)])
    · refine lv_aload_n hx hb d_Mo_charAt_12 rfl (lv_at hl 0 rfl) ?_
      refine va_get (D := (dC, dI)) (ci := 5) (v := .ref gt) (C := R_Mo) (T := F_Mo) (N := 12) hx hb ht in_Mo hown hK hP 0 rfl rfl 2 (by decide) (ht _ k_493) (fun _ h9 => h9) rfl d_Mo_charAt_13 ?_
      refine lv_iload_n hx hb d_Mo_charAt_16 rfl (lv_at hl 1 rfl) ?_
      refine eqi (y := nI y.toNat) (x_yN hy (by omega)) ?_
      refine ldI (q0 := 1) (t0 := 0) hx hb d_Mo_charAt_17 hK hP rfl rfl (by omega) (by decide) ?_
      refine lv_goto (tgt := 22) hx hb d_Mo_charAt_18 (by decide) ?_
      exact eRi hx hb hr hlocks d_Mo_charAt_22 (by rw [nI_iI, atZ, if_pos (by omega)])

set_option maxHeartbeats 4000000 in
set_option maxRecDepth 100000 in
theorem c_Mo_made (l : Launch) (dC : Nat → ClassId) (dI : Nat → Nat → Nat) (z : zT) (o : Nat) (gi : Nat) (ge : Nat) (gt : Nat) (go : Nat) (gb : Nat) (gm : Nat) (gl : Nat) (i0 : txT) (e0 : txT) (t0 : txT) (mk : Nat) (L0 : txT) (co : ClassId) (md : Nat → Int32) (x : Int32) (y : Int) (hm : mk ≤ 160) (hy : x.toInt = y) : MR l y_Mo_made b_Mo_made 2 (some .int) 0 0 (dC, dI) z [.ref o, .int x] [(o, .inr (5, [.ref gi, .ref ge, .ref gt, .ref go, .ref gb, .ref gm, .ref gl, .int (nI i0.2), .int (nI e0.2), .int (nI t0.2), .int (nI mk), .int (nI L0.2)])), (go, .inl (co, 160, .inl md))] [(co, .int)] (.int (mdZ md mk y)) := by
  refine metR (by decide) (Nat.le_of_ble_eq_true rfl) ?_
  intro p e s m below meth c ls hx hb hr hlocks hml hown ht hl hP hK hSS
  have hl : lv_has ls 2 [(0, .ref o), (1, .int x)] := hl
  have hS : va_S (fun _ => False) s.heap s.heap [] := va_S.rf
  refine lv_iload_n hx hb d_Mo_made_0 rfl (lv_at hl 1 rfl) ?_
  refine z_if_lt (tgt := 21) hx hb d_Mo_made_1 hy (by decide) (fun g1 => ?_) (fun g1 => ?_)
  · refine lv_iconst (v := iI (-1)) hx hb d_Mo_made_21 (by decide) ?_
    exact eRi hx hb hr hlocks d_Mo_made_22 (by rw [mdZ, if_neg (by omega)])
  · refine lv_iload_n hx hb d_Mo_made_4 rfl (lv_at hl 1 rfl) ?_
    refine lv_aload_n hx hb d_Mo_made_5 rfl (lv_at hl 0 rfl) ?_
    refine va_get (D := (dC, dI)) (ci := 5) (v := .int (nI mk)) (C := R_Mo) (T := F_Mo) (N := 12) hx hb ht in_Mo hown hK hP 0 rfl rfl 10 (by decide) (ht _ k_501) (fun _ h9 => h9) rfl d_Mo_made_6 ?_
    refine z_icmp_ge (tgt := 21) hx hb d_Mo_made_9 hy (tI_n (by omega)) (by decide) (fun g9 => ?_) (fun g9 => ?_)
    · refine lv_iconst (v := iI (-1)) hx hb d_Mo_made_21 (by decide) ?_
      exact eRi hx hb hr hlocks d_Mo_made_22 (by rw [mdZ, if_neg (by omega)])
    · refine lv_aload_n hx hb d_Mo_made_12 rfl (lv_at hl 0 rfl) ?_
      refine va_get (D := (dC, dI)) (ci := 5) (v := .ref go) (C := R_Mo) (T := F_Mo) (N := 12) hx hb ht in_Mo hown hK hP 0 rfl rfl 3 (by decide) (ht _ k_494) (fun _ h9 => h9) rfl d_Mo_made_13 ?_
      refine lv_iload_n hx hb d_Mo_made_16 rfl (lv_at hl 1 rfl) ?_
      refine eqi (y := nI y.toNat) (x_yN hy (by omega)) ?_
      refine ldX (q0 := 1) (t0 := 0) hx hb d_Mo_made_17 hK hP rfl rfl (by omega) (by decide) ?_
      refine lv_goto (tgt := 22) hx hb d_Mo_made_18 (by decide) ?_
      exact eRi hx hb hr hlocks d_Mo_made_22 (by rw [mdZ, if_pos (by omega)])

set_option maxHeartbeats 4000000 in
set_option maxRecDepth 100000 in
theorem c_Mo_append (l : Launch) (dC : Nat → ClassId) (dI : Nat → Nat → Nat) (z : zT) (sz : Nat) (o : Nat) (gi : Nat) (ge : Nat) (gt : Nat) (go : Nat) (gb : Nat) (gm : Nat) (gl : Nat) (i0 : txT) (e0 : txT) (t0 : txT) (mk : Nat) (L0 : txT) (ci : ClassId) (w0 : Int32) (x : Int32) (y : Int) (hn : i0.2 ≤ 160) (hy : x.toInt = y) : MU l y_Mo_append b_Mo_append 4 (some .int) 0 0 (dC, dI) z [.ref o, .int w0, .int x] [(o, .inr (5, [.ref gi, .ref ge, .ref gt, .ref go, .ref gb, .ref gm, .ref gl, .int (nI i0.2), .int (nI e0.2), .int (nI t0.2), .int (nI mk), .int (nI L0.2)])), (gi, .inl (ci, 160, .inl (iN i0.1)))] [(ci, .int)] sz (some (.int (iI (apR i0.2 y)))) [(o, .inr (5, [.ref gi, .ref ge, .ref gt, .ref go, .ref gb, .ref gm, .ref gl, .int (nI ((apS i0 w0 y).2)), .int (nI e0.2), .int (nI t0.2), .int (nI mk), .int (nI L0.2)])), (gi, .inl (ci, 160, .inl (iN ((apS i0 w0 y).1))))] := by
  refine metU (by decide) (Nat.le_of_ble_eq_true rfl) ?_
  intro p e s m below meth c ls A hx hb hr hlocks hml hown ht hl hP hK hSS hD hS hA
  have hl : lv_has ls 4 [(0, .ref o), (1, .int w0), (2, .int x)] := hl
  refine lv_iload_n hx hb d_Mo_append_0 rfl (lv_at hl 2 rfl) ?_
  refine lv_iconst (v := nI 1) hx hb d_Mo_append_1 (by decide) ?_
  refine z_icmp_lt (tgt := 10) hx hb d_Mo_append_2 hy (tI_n (by omega)) (by decide) (fun g2 => ?_) (fun g2 => ?_)
  · refine lv_iconst (v := iI (-1)) hx hb d_Mo_append_10 (by decide) ?_
    rw [apS, if_neg (by omega)]
    exact eUi hx hb hr hlocks hP hD hS [0, 1] rfl rfl (by decide) d_Mo_append_11 (by rw [apR, if_neg (by omega)])
  · refine lv_iload_n hx hb d_Mo_append_5 rfl (lv_at hl 2 rfl) ?_
    refine lv_iconst (v := nI 4) hx hb d_Mo_append_6 (by decide) ?_
    refine z_icmp_le (tgt := 12) hx hb d_Mo_append_7 hy (tI_n (by omega)) (by decide) (fun g7 => ?_) (fun g7 => ?_)
    · refine lv_aload_n hx hb d_Mo_append_12 rfl (lv_at hl 0 rfl) ?_
      refine va_get (D := (dC, dI)) (ci := 5) (v := .int (nI i0.2)) (C := R_Mo) (T := F_Mo) (N := 12) hx hb ht in_Mo hown hK hP 0 rfl rfl 7 (by decide) (ht _ k_498) (fun _ h9 => h9) rfl d_Mo_append_13 ?_
      refine lv_iload_n hx hb d_Mo_append_16 rfl (lv_at hl 2 rfl) ?_
      refine zAdd hx hb d_Mo_append_17 (nI_iI _) (x_iI hy) ?_
      refine lv_sipush (v := nI 160) hx hb d_Mo_append_18 (by decide) ?_
      refine z_icmp_le (tgt := 27) hx hb d_Mo_append_21 (iI_toInt (by omega) (by omega)) (tI_n (by omega)) (by decide) (fun g21 => ?_) (fun g21 => ?_)
      · refine lv_iconst (v := nI 0) hx hb d_Mo_append_27 (by decide) ?_
        refine lv_istore_n (lv' := [(3, .int (nI 0)), (0, .ref o), (1, .int w0), (2, .int x)]) hx hb d_Mo_append_28 rfl hl (Nat.le_of_ble_eq_true rfl) rfl (fun ls hl => ?_)
        have loop29 : ∀ (j : Nat) (k : Nat) (i1 : txT) (ls : Array Slot) (H : Heap) (locs : List Loc), (k + j = y.toNat) → (apS i0 w0 y = apF w0 j k i1) → (i1.2 = i0.2 + k) → lv_has ls 4 [(3, .int (nI k)), (0, .ref o), (1, .int w0), (2, .int x)] → va_P (dC, dI) classes [(o, .inr (5, [.ref gi, .ref ge, .ref gt, .ref go, .ref gb, .ref gm, .ref gl, .int (nI i0.2), .int (nI e0.2), .int (nI t0.2), .int (nI mk), .int (nI L0.2)])), (gi, .inl (ci, 160, .inl (iN i1.1)))] H → va_D A [(o, .inr (5, [.ref gi, .ref ge, .ref gt, .ref go, .ref gb, .ref gm, .ref gl, .int (nI i0.2), .int (nI e0.2), .int (nI t0.2), .int (nI mk), .int (nI L0.2)])), (gi, .inl (ci, 160, .inl (iN i1.1)))] → va_S A s.heap H locs → W p l e (rmq 0 0) s m [.ref o, .int w0, .int x].toArray below meth c H locs 0 0 (MQ below (qcU (some (.int (iI (apR i0.2 y)))) (dC, dI) [(o, .inr (5, [.ref gi, .ref ge, .ref gt, .ref go, .ref gb, .ref gm, .ref gl, .int (nI ((apS i0 w0 y).2)), .int (nI e0.2), .int (nI t0.2), .int (nI mk), .int (nI L0.2)])), (gi, .inl (ci, 160, .inl (iN ((apS i0 w0 y).1))))] A) [.ref o, .int w0, .int x].toArray s 0 0 A) (F0 m 29 ls []) := by
          intro j
          induction j with
          | zero =>
            intro k i1 ls H locs hk hR hl1 hl hP hD hS
            have hRe : apS i0 w0 y = i1 := hR
            refine lv_iload_n hx hb d_Mo_append_29 rfl (lv_at hl 0 rfl) ?_
            refine lv_iload_n hx hb d_Mo_append_30 rfl (lv_at hl 3 rfl) ?_
            refine z_icmp_ge (tgt := 64) hx hb d_Mo_append_31 (tI_n (by omega)) hy (by decide) (fun g31 => ?_) (fun g31 => ?_)
            · refine lv_aload_n hx hb d_Mo_append_64 rfl (lv_at hl 1 rfl) ?_
              refine lv_aload_n hx hb d_Mo_append_65 rfl (lv_at hl 1 rfl) ?_
              refine va_get (D := (dC, dI)) (ci := 5) (v := .int (nI i0.2)) (C := R_Mo) (T := F_Mo) (N := 12) hx hb ht in_Mo hown hK hP 0 rfl rfl 7 (by decide) (ht _ k_498) (fun _ h9 => h9) rfl d_Mo_append_66 ?_
              refine lv_iload_n hx hb d_Mo_append_69 rfl (lv_at hl 3 rfl) ?_
              refine zAdd hx hb d_Mo_append_70 (nI_iI _) (x_iI hy) ?_
              refine eqi (y := nI i1.2) (by rw [nI_iI]; congr 1; omega) ?_
              refine va_put (D := (dC, dI)) (ci := 5) (v := .int (nI i1.2)) (ty := .int) (C := R_Mo) (T := F_Mo) (N := 12) hx hb ht in_Mo t_Mo t_Mo_ok n_Mo hown hK hP hD hS 0 rfl rfl 7 (by decide) (ht _ k_498) (fun _ h9 => h9) rfl (by decide +kernel) rfl rfl (Nat.le_of_ble_eq_true rfl) d_Mo_append_71 (fun H locs hP hD hS => ?_)
              have hP : va_P (dC, dI) classes [(o, .inr (5, [.ref gi, .ref ge, .ref gt, .ref go, .ref gb, .ref gm, .ref gl, .int (nI i1.2), .int (nI e0.2), .int (nI t0.2), .int (nI mk), .int (nI L0.2)])), (gi, .inl (ci, 160, .inl (iN i1.1)))] H := hP
              have hD : va_D A [(o, .inr (5, [.ref gi, .ref ge, .ref gt, .ref go, .ref gb, .ref gm, .ref gl, .int (nI i1.2), .int (nI e0.2), .int (nI t0.2), .int (nI mk), .int (nI L0.2)])), (gi, .inl (ci, 160, .inl (iN i1.1)))] := hD
              refine lv_aload_n hx hb d_Mo_append_74 rfl (lv_at hl 1 rfl) ?_
              refine va_get (D := (dC, dI)) (ci := 5) (v := .int (nI i1.2)) (C := R_Mo) (T := F_Mo) (N := 12) hx hb ht in_Mo hown hK hP 0 rfl rfl 7 (by decide) (ht _ k_498) (fun _ h9 => h9) rfl d_Mo_append_75 ?_
              rw [hRe]
              exact eUi hx hb hr hlocks hP hD hS [0, 1] rfl rfl (by decide) d_Mo_append_78 (by rw [nI_iI, apR, if_pos (by omega), if_pos (by omega)]; congr 1; omega)
            · exfalso; omega
          | succ j ih =>
            intro k i1 ls H locs hk hR hl1 hl hP hD hS
            refine lv_iload_n hx hb d_Mo_append_29 rfl (lv_at hl 0 rfl) ?_
            refine lv_iload_n hx hb d_Mo_append_30 rfl (lv_at hl 3 rfl) ?_
            refine z_icmp_ge (tgt := 64) hx hb d_Mo_append_31 (tI_n (by omega)) hy (by decide) (fun g31 => ?_) (fun g31 => ?_)
            · exfalso; omega
            · refine lv_aload_n hx hb d_Mo_append_34 rfl (lv_at hl 1 rfl) ?_
              refine va_get (D := (dC, dI)) (ci := 5) (v := .ref gi) (C := R_Mo) (T := F_Mo) (N := 12) hx hb ht in_Mo hown hK hP 0 rfl rfl 0 (by decide) (ht _ k_491) (fun _ h9 => h9) rfl d_Mo_append_35 ?_
              refine lv_aload_n hx hb d_Mo_append_38 rfl (lv_at hl 1 rfl) ?_
              refine va_get (D := (dC, dI)) (ci := 5) (v := .int (nI i0.2)) (C := R_Mo) (T := F_Mo) (N := 12) hx hb ht in_Mo hown hK hP 0 rfl rfl 7 (by decide) (ht _ k_498) (fun _ h9 => h9) rfl d_Mo_append_39 ?_
              refine lv_iload_n hx hb d_Mo_append_42 rfl (lv_at hl 0 rfl) ?_
              refine nAdd hx hb d_Mo_append_43 ?_
              refine eqi (y := nI i1.2) (by rw [hl1]) ?_
              refine lv_iload_n hx hb d_Mo_append_44 rfl (lv_at hl 2 rfl) ?_
              refine lv_bipush (v := nI 24) hx hb d_Mo_append_45 (by decide) ?_
              refine lv_bipush (v := nI 8) hx hb d_Mo_append_47 (by decide) ?_
              refine lv_iload_n hx hb d_Mo_append_49 rfl (lv_at hl 0 rfl) ?_
              refine nMul hx hb d_Mo_append_50 ?_
              refine nSub hx hb d_Mo_append_51 (by omega) ?_
              refine lv_ishr hx hb d_Mo_append_52 ?_
              refine lv_sipush (v := nI 255) hx hb d_Mo_append_53 (by decide) ?_
              refine lv_iand hx hb d_Mo_append_56 ?_
              refine eqi (y := nI (byW w0 k)) (byW_s w0 k (by omega)) ?_
              refine stI (q0 := 1) (t0 := 0) (w1 := [(o, .inr (5, [.ref gi, .ref ge, .ref gt, .ref go, .ref gb, .ref gm, .ref gl, .int (nI i0.2), .int (nI e0.2), .int (nI t0.2), .int (nI mk), .int (nI L0.2)])), (gi, .inl (ci, 160, .inl (iN (updN i1.1 i1.2 (byW w0 k)))))]) hx hb d_Mo_append_57 hK hP hD hS rfl rfl (by omega) (by decide) rfl (fun H locs hP hD hS => ?_)
              refine lv_iinc (k := 0) (v := nI (k + 1)) (lv' := [(3, .int (nI (k + 1))), (0, .ref o), (1, .int w0), (2, .int x)]) hx hb d_Mo_append_58 hl rfl (nI_inc1 _) (Nat.le_of_ble_eq_true rfl) rfl (fun ls hl => ?_)
              refine lv_goto (tgt := 29) hx hb d_Mo_append_61 (by decide) ?_
              exact ih (k + 1) (ap1 i1 (byW w0 k)) _ _ _ (by omega) (by rw [hR, apF]) (by show i1.2 + 1 = _; omega) (lv_sub hl [0, 1, 2, 3] rfl) (hP.sub [0, 1] rfl) (hD.sub [0, 1] (by decide) rfl) hS
        exact loop29 y.toNat 0 i0 _ _ _ (Nat.zero_add _) (by rw [apS, if_pos ⟨by omega, by omega⟩]) (rfl) (lv_sub hl [0, 1, 2, 3] rfl) (hP.sub [0, 1] rfl) (hD.sub [0, 1] (by decide) rfl) hS
      · refine lv_bipush (v := iI (-2)) hx hb d_Mo_append_24 (by decide) ?_
        rw [apS, if_neg (by omega)]
        exact eUi hx hb hr hlocks hP hD hS [0, 1] rfl rfl (by decide) d_Mo_append_26 (by rw [apR, if_pos (by omega), if_neg (by omega)])
    · refine lv_iconst (v := iI (-1)) hx hb d_Mo_append_10 (by decide) ?_
      rw [apS, if_neg (by omega)]
      exact eUi hx hb hr hlocks hP hD hS [0, 1] rfl rfl (by decide) d_Mo_append_11 (by rw [apR, if_neg (by omega)])

set_option maxHeartbeats 4000000 in
set_option maxRecDepth 100000 in
theorem c_Mo_enter (l : Launch) (dC : Nat → ClassId) (dI : Nat → Nat → Nat) (z : zT) (sz : Nat) (o : Nat) (gi : Nat) (ge : Nat) (gt : Nat) (go : Nat) (gb : Nat) (gm : Nat) (gl : Nat) (i0 : txT) (e0 : txT) (t0 : txT) (mk : Nat) (L0 : txT) (ce : ClassId) (x : Int32) (y : Int) (hn : i0.2 ≤ 160) (he : e0.2 ≤ 16) (hen : ∀ k, k < e0.2 → e0.1 k < i0.2) (hy : x.toInt = y) : MU l y_Mo_enter b_Mo_enter 3 (some .boolean) 1 21 (dC, dI) z [.ref o, .int x] [(o, .inr (5, [.ref gi, .ref ge, .ref gt, .ref go, .ref gb, .ref gm, .ref gl, .int (nI i0.2), .int (nI e0.2), .int (nI t0.2), .int (nI mk), .int (nI L0.2)])), (ge, .inl (ce, 16, .inl (iN e0.1)))] [(ce, .int)] sz (some (.int (bI (enB i0.2 e0 y)))) [(o, .inr (5, [.ref gi, .ref ge, .ref gt, .ref go, .ref gb, .ref gm, .ref gl, .int (nI i0.2), .int (nI ((enS i0.2 e0 y).2)), .int (nI t0.2), .int (nI mk), .int (nI L0.2)])), (ge, .inl (ce, 16, .inl (iN ((enS i0.2 e0 y).1))))] := by
  refine metU (by decide) (Nat.le_of_ble_eq_true rfl) ?_
  intro p e s m below meth c ls A hx hb hr hlocks hml hown ht hl hP hK hSS hD hS hA
  have hl : lv_has ls 3 [(0, .ref o), (1, .int x)] := hl
  refine lv_aload_n hx hb d_Mo_enter_0 rfl (lv_at hl 0 rfl) ?_
  refine lv_iload_n hx hb d_Mo_enter_1 rfl (lv_at hl 1 rfl) ?_
  refine rV (As := [.int x]) (rest := []) hx hb hml hown ht (c_Mo_has l dC dI z o gi ge gt go gb gm gl i0 e0 t0 mk L0 x y (by first | assumption | omega) hy) yv_Mo_has k_536 (Nat.le_of_ble_eq_true rfl) (Nat.le_of_ble_eq_true rfl) hP hK hSS hS [0] [] rfl rfl 0 5 rfl rfl rfl hl rfl rfl (Nat.le_of_ble_eq_true rfl) (Nat.zero_le _) (Nat.zero_le _) d_Mo_enter_2 ?_
  refine b_if_eq (tgt := 17) hx hb d_Mo_enter_5 (by decide) (fun g5 => ?_) (fun g5 => ?_)
  · refine lv_iconst (v := nI 0) hx hb d_Mo_enter_17 (by decide) ?_
    refine eqi (y := bI false) (by decide) ?_
    rw [enS, if_neg (by first | omega | (intro q; exact of_decide_eq_false g5 q.1) | (intro q; rw [hRt] at q; exact absurd q.2.1 (by decide)))]
    exact eUz hx hb hr hlocks (bI_narrow _) hP hD hS [0, 1] rfl rfl (by decide) d_Mo_enter_18 (bI_zero (by first | omega | (intro q; exact of_decide_eq_false g5 q.1) | (intro q; rw [hRt] at q; exact absurd q.2.1 (by decide))))
  · refine lv_aload_n hx hb d_Mo_enter_8 rfl (lv_at hl 0 rfl) ?_
    refine va_get (D := (dC, dI)) (ci := 5) (v := .int (nI e0.2)) (C := R_Mo) (T := F_Mo) (N := 12) hx hb ht in_Mo hown hK hP 0 rfl rfl 8 (by decide) (ht _ k_499) (fun _ h9 => h9) rfl d_Mo_enter_9 ?_
    refine lv_bipush (v := nI 16) hx hb d_Mo_enter_12 (by decide) ?_
    refine z_icmp_ne (tgt := 19) hx hb d_Mo_enter_14 (tI_n (by omega)) (tI_n (by omega)) (by decide) (fun g14 => ?_) (fun g14 => ?_)
    · refine lv_iconst (v := nI 0) hx hb d_Mo_enter_19 (by decide) ?_
      refine lv_istore_n (lv' := [(2, .int (nI 0)), (0, .ref o), (1, .int x)]) hx hb d_Mo_enter_20 rfl hl (Nat.le_of_ble_eq_true rfl) rfl (fun ls hl => ?_)
      have loop21 : ∀ (j : Nat) (k : Nat) (ls : Array Slot) (H : Heap) (locs : List Loc), (k + j = e0.2) → (isE e0 y = isEF e0.1 y j k) → lv_has ls 3 [(2, .int (nI k)), (0, .ref o), (1, .int x)] → va_P (dC, dI) classes [(o, .inr (5, [.ref gi, .ref ge, .ref gt, .ref go, .ref gb, .ref gm, .ref gl, .int (nI i0.2), .int (nI e0.2), .int (nI t0.2), .int (nI mk), .int (nI L0.2)])), (ge, .inl (ce, 16, .inl (iN e0.1)))] H → va_D A [(o, .inr (5, [.ref gi, .ref ge, .ref gt, .ref go, .ref gb, .ref gm, .ref gl, .int (nI i0.2), .int (nI e0.2), .int (nI t0.2), .int (nI mk), .int (nI L0.2)])), (ge, .inl (ce, 16, .inl (iN e0.1)))] → va_S A s.heap H locs → W p l e (rmq 1 21) s m [.ref o, .int x].toArray below meth c H locs 0 0 (MQ below (qcU (some (.int (bI (enB i0.2 e0 y)))) (dC, dI) [(o, .inr (5, [.ref gi, .ref ge, .ref gt, .ref go, .ref gb, .ref gm, .ref gl, .int (nI i0.2), .int (nI ((enS i0.2 e0 y).2)), .int (nI t0.2), .int (nI mk), .int (nI L0.2)])), (ge, .inl (ce, 16, .inl (iN ((enS i0.2 e0 y).1))))] A) [.ref o, .int x].toArray s 0 0 A) (F0 m 21 ls []) := by
        intro j
        induction j with
        | zero =>
          intro k ls H locs hk hR hl hP hD hS
          have hRe : isE e0 y = false := hR
          refine lv_iload_n hx hb d_Mo_enter_21 rfl (lv_at hl 0 rfl) ?_
          refine lv_aload_n hx hb d_Mo_enter_22 rfl (lv_at hl 1 rfl) ?_
          refine va_get (D := (dC, dI)) (ci := 5) (v := .int (nI e0.2)) (C := R_Mo) (T := F_Mo) (N := 12) hx hb ht in_Mo hown hK hP 0 rfl rfl 8 (by decide) (ht _ k_499) (fun _ h9 => h9) rfl d_Mo_enter_23 ?_
          refine z_icmp_ge (tgt := 47) hx hb d_Mo_enter_26 (tI_n (by omega)) (tI_n (by omega)) (by decide) (fun g26 => ?_) (fun g26 => ?_)
          · refine lv_aload_n hx hb d_Mo_enter_47 rfl (lv_at hl 1 rfl) ?_
            refine va_get (D := (dC, dI)) (ci := 5) (v := .ref ge) (C := R_Mo) (T := F_Mo) (N := 12) hx hb ht in_Mo hown hK hP 0 rfl rfl 1 (by decide) (ht _ k_492) (fun _ h9 => h9) rfl d_Mo_enter_48 ?_
            refine lv_aload_n hx hb d_Mo_enter_51 rfl (lv_at hl 1 rfl) ?_
            refine va_get (D := (dC, dI)) (ci := 5) (v := .int (nI e0.2)) (C := R_Mo) (T := F_Mo) (N := 12) hx hb ht in_Mo hown hK hP 0 rfl rfl 8 (by decide) (ht _ k_499) (fun _ h9 => h9) rfl d_Mo_enter_52 ?_
            refine lv_iload_n hx hb d_Mo_enter_55 rfl (lv_at hl 2 rfl) ?_
            refine eqi (y := nI y.toNat) (x_yN hy (of_decide_eq_true g5).1) ?_
            refine stI (q0 := 1) (t0 := 0) (w1 := [(o, .inr (5, [.ref gi, .ref ge, .ref gt, .ref go, .ref gb, .ref gm, .ref gl, .int (nI i0.2), .int (nI e0.2), .int (nI t0.2), .int (nI mk), .int (nI L0.2)])), (ge, .inl (ce, 16, .inl (iN (updN e0.1 e0.2 y.toNat))))]) hx hb d_Mo_enter_56 hK hP hD hS rfl rfl (by omega) (by decide) rfl (fun H locs hP hD hS => ?_)
            refine lv_aload_n hx hb d_Mo_enter_57 rfl (lv_at hl 1 rfl) ?_
            refine lv_aload_n hx hb d_Mo_enter_58 rfl (lv_at hl 1 rfl) ?_
            refine va_get (D := (dC, dI)) (ci := 5) (v := .int (nI e0.2)) (C := R_Mo) (T := F_Mo) (N := 12) hx hb ht in_Mo hown hK hP 0 rfl rfl 8 (by decide) (ht _ k_499) (fun _ h9 => h9) rfl d_Mo_enter_59 ?_
            refine lv_iconst (v := nI 1) hx hb d_Mo_enter_62 (by decide) ?_
            refine nAdd hx hb d_Mo_enter_63 ?_
            refine va_put (D := (dC, dI)) (ci := 5) (v := .int (nI (e0.2 + 1))) (ty := .int) (C := R_Mo) (T := F_Mo) (N := 12) hx hb ht in_Mo t_Mo t_Mo_ok n_Mo hown hK hP hD hS 0 rfl rfl 8 (by decide) (ht _ k_499) (fun _ h9 => h9) rfl (by decide +kernel) rfl rfl (Nat.le_of_ble_eq_true rfl) d_Mo_enter_64 (fun H locs hP hD hS => ?_)
            have hP : va_P (dC, dI) classes [(o, .inr (5, [.ref gi, .ref ge, .ref gt, .ref go, .ref gb, .ref gm, .ref gl, .int (nI i0.2), .int (nI (e0.2 + 1)), .int (nI t0.2), .int (nI mk), .int (nI L0.2)])), (ge, .inl (ce, 16, .inl (iN (updN e0.1 e0.2 y.toNat))))] H := hP
            have hD : va_D A [(o, .inr (5, [.ref gi, .ref ge, .ref gt, .ref go, .ref gb, .ref gm, .ref gl, .int (nI i0.2), .int (nI (e0.2 + 1)), .int (nI t0.2), .int (nI mk), .int (nI L0.2)])), (ge, .inl (ce, 16, .inl (iN (updN e0.1 e0.2 y.toNat))))] := hD
            refine lv_iconst (v := nI 1) hx hb d_Mo_enter_67 (by decide) ?_
            refine eqi (y := bI true) (by decide) ?_
            rw [enS, if_pos ⟨of_decide_eq_true g5, hRe, by omega⟩]
            exact eUz hx hb hr hlocks (bI_narrow _) hP hD hS [0, 1] rfl rfl (by decide) d_Mo_enter_68 (bI_one ⟨of_decide_eq_true g5, hRe, by omega⟩)
          · exfalso; omega
        | succ j ih =>
          intro k ls H locs hk hR hl hP hD hS
          have hek := hen k (by omega)
          refine lv_iload_n hx hb d_Mo_enter_21 rfl (lv_at hl 0 rfl) ?_
          refine lv_aload_n hx hb d_Mo_enter_22 rfl (lv_at hl 1 rfl) ?_
          refine va_get (D := (dC, dI)) (ci := 5) (v := .int (nI e0.2)) (C := R_Mo) (T := F_Mo) (N := 12) hx hb ht in_Mo hown hK hP 0 rfl rfl 8 (by decide) (ht _ k_499) (fun _ h9 => h9) rfl d_Mo_enter_23 ?_
          refine z_icmp_ge (tgt := 47) hx hb d_Mo_enter_26 (tI_n (by omega)) (tI_n (by omega)) (by decide) (fun g26 => ?_) (fun g26 => ?_)
          · exfalso; omega
          · refine lv_aload_n hx hb d_Mo_enter_29 rfl (lv_at hl 1 rfl) ?_
            refine va_get (D := (dC, dI)) (ci := 5) (v := .ref ge) (C := R_Mo) (T := F_Mo) (N := 12) hx hb ht in_Mo hown hK hP 0 rfl rfl 1 (by decide) (ht _ k_492) (fun _ h9 => h9) rfl d_Mo_enter_30 ?_
            refine lv_iload_n hx hb d_Mo_enter_33 rfl (lv_at hl 0 rfl) ?_
            refine ldI (q0 := 1) (t0 := 0) hx hb d_Mo_enter_34 hK hP rfl rfl (by omega) (by decide) ?_
            refine lv_iload_n hx hb d_Mo_enter_35 rfl (lv_at hl 2 rfl) ?_
            refine z_icmp_ne (tgt := 41) hx hb d_Mo_enter_36 (tI_n (by omega)) hy (by decide) (fun g36 => ?_) (fun g36 => ?_)
            · refine lv_iinc (k := 0) (v := nI (k + 1)) (lv' := [(2, .int (nI (k + 1))), (0, .ref o), (1, .int x)]) hx hb d_Mo_enter_41 hl rfl (nI_inc1 _) (Nat.le_of_ble_eq_true rfl) rfl (fun ls hl => ?_)
              refine lv_goto (tgt := 21) hx hb d_Mo_enter_44 (by decide) ?_
              exact ih (k + 1) _ _ _ (by omega) (by rw [hR, isEF, if_neg g36]) (lv_sub hl [0, 1, 2] rfl) (hP.sub [0, 1] rfl) (hD.sub [0, 1] (by decide) rfl) hS
            · have hRt : isE e0 y = true := by rw [hR, isEF, if_pos g36]
              refine lv_iconst (v := nI 0) hx hb d_Mo_enter_39 (by decide) ?_
              refine eqi (y := bI false) (by decide) ?_
              rw [enS, if_neg (by first | omega | (intro q; exact of_decide_eq_false g5 q.1) | (intro q; rw [hRt] at q; exact absurd q.2.1 (by decide)))]
              exact eUz hx hb hr hlocks (bI_narrow _) hP hD hS [0, 1] rfl rfl (by decide) d_Mo_enter_40 (bI_zero (by first | omega | (intro q; exact of_decide_eq_false g5 q.1) | (intro q; rw [hRt] at q; exact absurd q.2.1 (by decide))))
      exact loop21 e0.2 0 _ _ _ (Nat.zero_add _) (rfl) (lv_sub hl [0, 1, 2] rfl) (hP.sub [0, 1] rfl) (hD.sub [0, 1] (by decide) rfl) hS
    · refine lv_iconst (v := nI 0) hx hb d_Mo_enter_17 (by decide) ?_
      refine eqi (y := bI false) (by decide) ?_
      rw [enS, if_neg (by first | omega | (intro q; exact of_decide_eq_false g5 q.1) | (intro q; rw [hRt] at q; exact absurd q.2.1 (by decide)))]
      exact eUz hx hb hr hlocks (bI_narrow _) hP hD hS [0, 1] rfl rfl (by decide) d_Mo_enter_18 (bI_zero (by first | omega | (intro q; exact of_decide_eq_false g5 q.1) | (intro q; rw [hRt] at q; exact absurd q.2.1 (by decide))))

set_option maxHeartbeats 4000000 in
set_option maxRecDepth 100000 in
theorem c_Mo_clear (l : Launch) (dC : Nat → ClassId) (dI : Nat → Nat → Nat) (z : zT) (sz : Nat) (o : Nat) (gi : Nat) (ge : Nat) (gt : Nat) (go : Nat) (gb : Nat) (gm : Nat) (gl : Nat) (i0 : txT) (e0 : txT) (t0 : txT) (mk : Nat) (L0 : txT) : MU l y_Mo_clear b_Mo_clear 1 none 0 0 (dC, dI) z [.ref o] [(o, .inr (5, [.ref gi, .ref ge, .ref gt, .ref go, .ref gb, .ref gm, .ref gl, .int (nI i0.2), .int (nI e0.2), .int (nI t0.2), .int (nI mk), .int (nI L0.2)]))] [] sz none [(o, .inr (5, [.ref gi, .ref ge, .ref gt, .ref go, .ref gb, .ref gm, .ref gl, .int (nI ((dr i0).2)), .int (nI ((dr e0).2)), .int (nI ((dr t0).2)), .int (nI 0), .int (nI L0.2)]))] := by
  refine metU (by decide) (Nat.le_of_ble_eq_true rfl) ?_
  intro p e s m below meth c ls A hx hb hr hlocks hml hown ht hl hP hK hSS hD hS hA
  have hl : lv_has ls 1 [(0, .ref o)] := hl
  refine lv_aload_n hx hb d_Mo_clear_0 rfl (lv_at hl 0 rfl) ?_
  refine lv_iconst (v := nI 0) hx hb d_Mo_clear_1 (by decide) ?_
  refine va_put (D := (dC, dI)) (ci := 5) (v := .int (nI 0)) (ty := .int) (C := R_Mo) (T := F_Mo) (N := 12) hx hb ht in_Mo t_Mo t_Mo_ok n_Mo hown hK hP hD hS 0 rfl rfl 7 (by decide) (ht _ k_498) (fun _ h9 => h9) rfl (by decide +kernel) rfl rfl (Nat.le_of_ble_eq_true rfl) d_Mo_clear_2 (fun H locs hP hD hS => ?_)
  have hP : va_P (dC, dI) classes [(o, .inr (5, [.ref gi, .ref ge, .ref gt, .ref go, .ref gb, .ref gm, .ref gl, .int (nI 0), .int (nI e0.2), .int (nI t0.2), .int (nI mk), .int (nI L0.2)]))] H := hP
  have hD : va_D A [(o, .inr (5, [.ref gi, .ref ge, .ref gt, .ref go, .ref gb, .ref gm, .ref gl, .int (nI 0), .int (nI e0.2), .int (nI t0.2), .int (nI mk), .int (nI L0.2)]))] := hD
  refine lv_aload_n hx hb d_Mo_clear_5 rfl (lv_at hl 0 rfl) ?_
  refine lv_iconst (v := nI 0) hx hb d_Mo_clear_6 (by decide) ?_
  refine va_put (D := (dC, dI)) (ci := 5) (v := .int (nI 0)) (ty := .int) (C := R_Mo) (T := F_Mo) (N := 12) hx hb ht in_Mo t_Mo t_Mo_ok n_Mo hown hK hP hD hS 0 rfl rfl 8 (by decide) (ht _ k_499) (fun _ h9 => h9) rfl (by decide +kernel) rfl rfl (Nat.le_of_ble_eq_true rfl) d_Mo_clear_7 (fun H locs hP hD hS => ?_)
  have hP : va_P (dC, dI) classes [(o, .inr (5, [.ref gi, .ref ge, .ref gt, .ref go, .ref gb, .ref gm, .ref gl, .int (nI 0), .int (nI 0), .int (nI t0.2), .int (nI mk), .int (nI L0.2)]))] H := hP
  have hD : va_D A [(o, .inr (5, [.ref gi, .ref ge, .ref gt, .ref go, .ref gb, .ref gm, .ref gl, .int (nI 0), .int (nI 0), .int (nI t0.2), .int (nI mk), .int (nI L0.2)]))] := hD
  refine lv_aload_n hx hb d_Mo_clear_10 rfl (lv_at hl 0 rfl) ?_
  refine lv_iconst (v := nI 0) hx hb d_Mo_clear_11 (by decide) ?_
  refine va_put (D := (dC, dI)) (ci := 5) (v := .int (nI 0)) (ty := .int) (C := R_Mo) (T := F_Mo) (N := 12) hx hb ht in_Mo t_Mo t_Mo_ok n_Mo hown hK hP hD hS 0 rfl rfl 9 (by decide) (ht _ k_500) (fun _ h9 => h9) rfl (by decide +kernel) rfl rfl (Nat.le_of_ble_eq_true rfl) d_Mo_clear_12 (fun H locs hP hD hS => ?_)
  have hP : va_P (dC, dI) classes [(o, .inr (5, [.ref gi, .ref ge, .ref gt, .ref go, .ref gb, .ref gm, .ref gl, .int (nI 0), .int (nI 0), .int (nI 0), .int (nI mk), .int (nI L0.2)]))] H := hP
  have hD : va_D A [(o, .inr (5, [.ref gi, .ref ge, .ref gt, .ref go, .ref gb, .ref gm, .ref gl, .int (nI 0), .int (nI 0), .int (nI 0), .int (nI mk), .int (nI L0.2)]))] := hD
  refine lv_aload_n hx hb d_Mo_clear_15 rfl (lv_at hl 0 rfl) ?_
  refine lv_iconst (v := nI 0) hx hb d_Mo_clear_16 (by decide) ?_
  refine va_put (D := (dC, dI)) (ci := 5) (v := .int (nI 0)) (ty := .int) (C := R_Mo) (T := F_Mo) (N := 12) hx hb ht in_Mo t_Mo t_Mo_ok n_Mo hown hK hP hD hS 0 rfl rfl 10 (by decide) (ht _ k_501) (fun _ h9 => h9) rfl (by decide +kernel) rfl rfl (Nat.le_of_ble_eq_true rfl) d_Mo_clear_17 (fun H locs hP hD hS => ?_)
  have hP : va_P (dC, dI) classes [(o, .inr (5, [.ref gi, .ref ge, .ref gt, .ref go, .ref gb, .ref gm, .ref gl, .int (nI 0), .int (nI 0), .int (nI 0), .int (nI 0), .int (nI L0.2)]))] H := hP
  have hD : va_D A [(o, .inr (5, [.ref gi, .ref ge, .ref gt, .ref go, .ref gb, .ref gm, .ref gl, .int (nI 0), .int (nI 0), .int (nI 0), .int (nI 0), .int (nI L0.2)]))] := hD
  exact eUv hx hb hr hlocks hP hD hS [0] rfl rfl (by decide) d_Mo_clear_20

set_option maxHeartbeats 4000000 in
set_option maxRecDepth 100000 in
theorem c_Mo_type (l : Launch) (dC : Nat → ClassId) (dI : Nat → Nat → Nat) (z : zT) (sz : Nat) (o : Nat) (gi : Nat) (ge : Nat) (gt : Nat) (go : Nat) (gb : Nat) (gm : Nat) (gl : Nat) (i0 : txT) (e0 : txT) (t0 : txT) (mk : Nat) (L0 : txT) (ct : ClassId) (x : Int32) (y : Int) (v : Int32) (hs : t0.2 ≤ 2400) (hy : x.toInt = y) : MU l y_Mo_type b_Mo_type 3 (some .boolean) 0 0 (dC, dI) z [.ref o, .int x, .int v] [(o, .inr (5, [.ref gi, .ref ge, .ref gt, .ref go, .ref gb, .ref gm, .ref gl, .int (nI i0.2), .int (nI e0.2), .int (nI t0.2), .int (nI mk), .int (nI L0.2)])), (gt, .inl (ct, 2400, .inl (iN t0.1)))] [(ct, .int)] sz (some (.int (bI (tyB t0 y v.toInt)))) [(o, .inr (5, [.ref gi, .ref ge, .ref gt, .ref go, .ref gb, .ref gm, .ref gl, .int (nI i0.2), .int (nI e0.2), .int (nI ((tyS t0 y v.toInt).2)), .int (nI mk), .int (nI L0.2)])), (gt, .inl (ct, 2400, .inl (iN ((tyS t0 y v.toInt).1))))] := by
  refine metU (by decide) (Nat.le_of_ble_eq_true rfl) ?_
  intro p e s m below meth c ls A hx hb hr hlocks hml hown ht hl hP hK hSS hD hS hA
  have hl : lv_has ls 3 [(0, .ref o), (1, .int x), (2, .int v)] := hl
  refine lv_iload_n hx hb d_Mo_type_0 rfl (lv_at hl 1 rfl) ?_
  refine z_if_lt (tgt := 30) hx hb d_Mo_type_1 hy (by decide) (fun g1 => ?_) (fun g1 => ?_)
  · refine lv_iconst (v := nI 0) hx hb d_Mo_type_30 (by decide) ?_
    refine eqi (y := bI false) (by decide) ?_
    rw [tyS, if_neg (by omega)]
    exact eUz hx hb hr hlocks (bI_narrow _) hP hD hS [0, 1] rfl rfl (by decide) d_Mo_type_31 (bI_zero (by omega))
  · refine lv_iload_n hx hb d_Mo_type_4 rfl (lv_at hl 1 rfl) ?_
    refine lv_aload_n hx hb d_Mo_type_5 rfl (lv_at hl 0 rfl) ?_
    refine va_get (D := (dC, dI)) (ci := 5) (v := .int (nI t0.2)) (C := R_Mo) (T := F_Mo) (N := 12) hx hb ht in_Mo hown hK hP 0 rfl rfl 9 (by decide) (ht _ k_500) (fun _ h9 => h9) rfl d_Mo_type_6 ?_
    refine z_icmp_gt (tgt := 30) hx hb d_Mo_type_9 hy (tI_n (by omega)) (by decide) (fun g9 => ?_) (fun g9 => ?_)
    · refine lv_iconst (v := nI 0) hx hb d_Mo_type_30 (by decide) ?_
      refine eqi (y := bI false) (by decide) ?_
      rw [tyS, if_neg (by omega)]
      exact eUz hx hb hr hlocks (bI_narrow _) hP hD hS [0, 1] rfl rfl (by decide) d_Mo_type_31 (bI_zero (by omega))
    · refine lv_iload_n hx hb d_Mo_type_12 rfl (lv_at hl 1 rfl) ?_
      refine lv_sipush (v := nI 2400) hx hb d_Mo_type_13 (by decide) ?_
      refine z_icmp_ge (tgt := 30) hx hb d_Mo_type_16 hy (tI_n (by omega)) (by decide) (fun g16 => ?_) (fun g16 => ?_)
      · refine lv_iconst (v := nI 0) hx hb d_Mo_type_30 (by decide) ?_
        refine eqi (y := bI false) (by decide) ?_
        rw [tyS, if_neg (by omega)]
        exact eUz hx hb hr hlocks (bI_narrow _) hP hD hS [0, 1] rfl rfl (by decide) d_Mo_type_31 (bI_zero (by omega))
      · refine lv_iload_n hx hb d_Mo_type_19 rfl (lv_at hl 2 rfl) ?_
        refine z_if_lt (tgt := 30) hx hb d_Mo_type_20 rfl (by decide) (fun g20 => ?_) (fun g20 => ?_)
        · refine lv_iconst (v := nI 0) hx hb d_Mo_type_30 (by decide) ?_
          refine eqi (y := bI false) (by decide) ?_
          rw [tyS, if_neg (by omega)]
          exact eUz hx hb hr hlocks (bI_narrow _) hP hD hS [0, 1] rfl rfl (by decide) d_Mo_type_31 (bI_zero (by omega))
        · refine lv_iload_n hx hb d_Mo_type_23 rfl (lv_at hl 2 rfl) ?_
          refine lv_sipush (v := nI 255) hx hb d_Mo_type_24 (by decide) ?_
          refine z_icmp_le (tgt := 32) hx hb d_Mo_type_27 rfl (tI_n (by omega)) (by decide) (fun g27 => ?_) (fun g27 => ?_)
          · refine lv_aload_n hx hb d_Mo_type_32 rfl (lv_at hl 0 rfl) ?_
            refine va_get (D := (dC, dI)) (ci := 5) (v := .ref gt) (C := R_Mo) (T := F_Mo) (N := 12) hx hb ht in_Mo hown hK hP 0 rfl rfl 2 (by decide) (ht _ k_493) (fun _ h9 => h9) rfl d_Mo_type_33 ?_
            refine lv_iload_n hx hb d_Mo_type_36 rfl (lv_at hl 1 rfl) ?_
            refine eqi (y := nI y.toNat) (x_yN hy (by omega)) ?_
            refine lv_iload_n hx hb d_Mo_type_37 rfl (lv_at hl 2 rfl) ?_
            refine eqi (y := nI v.toInt.toNat) (x_nI (by omega)) ?_
            refine stI (q0 := 1) (t0 := 0) (w1 := [(o, .inr (5, [.ref gi, .ref ge, .ref gt, .ref go, .ref gb, .ref gm, .ref gl, .int (nI i0.2), .int (nI e0.2), .int (nI t0.2), .int (nI mk), .int (nI L0.2)])), (gt, .inl (ct, 2400, .inl (iN (updN t0.1 y.toNat v.toInt.toNat))))]) hx hb d_Mo_type_38 hK hP hD hS rfl rfl (by omega) (by decide) rfl (fun H locs hP hD hS => ?_)
            refine lv_iload_n hx hb d_Mo_type_39 rfl (lv_at hl 1 rfl) ?_
            refine lv_aload_n hx hb d_Mo_type_40 rfl (lv_at hl 0 rfl) ?_
            refine va_get (D := (dC, dI)) (ci := 5) (v := .int (nI t0.2)) (C := R_Mo) (T := F_Mo) (N := 12) hx hb ht in_Mo hown hK hP 0 rfl rfl 9 (by decide) (ht _ k_500) (fun _ h9 => h9) rfl d_Mo_type_41 ?_
            refine z_icmp_ne (tgt := 57) hx hb d_Mo_type_44 hy (tI_n (by omega)) (by decide) (fun g44 => ?_) (fun g44 => ?_)
            · refine lv_iconst (v := nI 1) hx hb d_Mo_type_57 (by decide) ?_
              refine eqi (y := bI true) (by decide) ?_
              rw [tyS, if_pos ⟨by omega, by omega⟩, pu, Nat.max_eq_left (by omega)]
              exact eUz hx hb hr hlocks (bI_narrow _) hP hD hS [0, 1] rfl rfl (by decide) d_Mo_type_58 (bI_one ⟨by omega, by omega⟩)
            · refine lv_aload_n hx hb d_Mo_type_47 rfl (lv_at hl 0 rfl) ?_
              refine lv_aload_n hx hb d_Mo_type_48 rfl (lv_at hl 0 rfl) ?_
              refine va_get (D := (dC, dI)) (ci := 5) (v := .int (nI t0.2)) (C := R_Mo) (T := F_Mo) (N := 12) hx hb ht in_Mo hown hK hP 0 rfl rfl 9 (by decide) (ht _ k_500) (fun _ h9 => h9) rfl d_Mo_type_49 ?_
              refine lv_iconst (v := nI 1) hx hb d_Mo_type_52 (by decide) ?_
              refine nAdd hx hb d_Mo_type_53 ?_
              refine va_put (D := (dC, dI)) (ci := 5) (v := .int (nI (t0.2 + 1))) (ty := .int) (C := R_Mo) (T := F_Mo) (N := 12) hx hb ht in_Mo t_Mo t_Mo_ok n_Mo hown hK hP hD hS 0 rfl rfl 9 (by decide) (ht _ k_500) (fun _ h9 => h9) rfl (by decide +kernel) rfl rfl (Nat.le_of_ble_eq_true rfl) d_Mo_type_54 (fun H locs hP hD hS => ?_)
              have hP : va_P (dC, dI) classes [(o, .inr (5, [.ref gi, .ref ge, .ref gt, .ref go, .ref gb, .ref gm, .ref gl, .int (nI i0.2), .int (nI e0.2), .int (nI (t0.2 + 1)), .int (nI mk), .int (nI L0.2)])), (gt, .inl (ct, 2400, .inl (iN (updN t0.1 y.toNat v.toInt.toNat))))] H := hP
              have hD : va_D A [(o, .inr (5, [.ref gi, .ref ge, .ref gt, .ref go, .ref gb, .ref gm, .ref gl, .int (nI i0.2), .int (nI e0.2), .int (nI (t0.2 + 1)), .int (nI mk), .int (nI L0.2)])), (gt, .inl (ct, 2400, .inl (iN (updN t0.1 y.toNat v.toInt.toNat))))] := hD
              refine lv_iconst (v := nI 1) hx hb d_Mo_type_57 (by decide) ?_
              refine eqi (y := bI true) (by decide) ?_
              rw [tyS, if_pos ⟨by omega, by omega⟩, pu, Nat.max_eq_right (by omega), show y.toNat + 1 = t0.2 + 1 by omega]
              exact eUz hx hb hr hlocks (bI_narrow _) hP hD hS [0, 1] rfl rfl (by decide) d_Mo_type_58 (bI_one ⟨by omega, by omega⟩)
          · refine lv_iconst (v := nI 0) hx hb d_Mo_type_30 (by decide) ?_
            refine eqi (y := bI false) (by decide) ?_
            rw [tyS, if_neg (by omega)]
            exact eUz hx hb hr hlocks (bI_narrow _) hP hD hS [0, 1] rfl rfl (by decide) d_Mo_type_31 (bI_zero (by omega))

set_option maxHeartbeats 4000000 in
set_option maxRecDepth 100000 in
theorem c_Mo_longOf (l : Launch) (dC : Nat → ClassId) (dI : Nat → Nat → Nat) (z : zT) (f : Nat) (hf : f < 100000) : MR l y_Mo_longOf b_Mo_longOf 2 (some .int) 0 0 (dC, dI) z [.int (nI f)] [] [] (.int (nI (lgO f))) := by
  refine metR (by decide) (Nat.le_of_ble_eq_true rfl) ?_
  intro p e s m below meth c ls hx hb hr hlocks hml hown ht hl hP hK hSS
  have hl : lv_has ls 2 [(0, .int (nI f))] := hl
  have hS : va_S (fun _ => False) s.heap s.heap [] := va_S.rf
  refine lv_iload_n hx hb d_Mo_longOf_0 rfl (lv_at hl 0 rfl) ?_
  refine z_if_lt (tgt := 10) hx hb d_Mo_longOf_1 (tI_n (by omega)) (by decide) (fun g1 => ?_) (fun g1 => ?_)
  · refine lv_iconst (v := nI 0) hx hb d_Mo_longOf_10 (by decide) ?_
    exact eRi hx hb hr hlocks d_Mo_longOf_11 (by congr 1; unfold lgO; (repeat' split) <;> omega)
  · refine lv_iload_n hx hb d_Mo_longOf_4 rfl (lv_at hl 0 rfl) ?_
    refine lv_bipush (v := nI 119) hx hb d_Mo_longOf_5 (by decide) ?_
    refine z_icmp_le (tgt := 12) hx hb d_Mo_longOf_7 (tI_n (by omega)) (tI_n (by omega)) (by decide) (fun g7 => ?_) (fun g7 => ?_)
    · refine lv_iload_n hx hb d_Mo_longOf_12 rfl (lv_at hl 0 rfl) ?_
      refine lv_bipush (v := nI 16) hx hb d_Mo_longOf_13 (by decide) ?_
      refine nDiv hx hb d_Mo_longOf_15 (by omega) (by omega) (by omega) ?_
      refine lv_istore_n (lv' := [(1, .int (nI (f / 16))), (0, .int (nI f))]) hx hb d_Mo_longOf_16 rfl hl (Nat.le_of_ble_eq_true rfl) rfl (fun ls hl => ?_)
      refine lv_iload_n hx hb d_Mo_longOf_17 rfl (lv_at hl 0 rfl) ?_
      refine z_if_ne (tgt := 32) hx hb d_Mo_longOf_18 (tI_n (by omega)) (by decide) (fun g18 => ?_) (fun g18 => ?_)
      · refine lv_iload_n hx hb d_Mo_longOf_32 rfl (lv_at hl 0 rfl) ?_
        refine lv_iconst (v := nI 3) hx hb d_Mo_longOf_33 (by decide) ?_
        refine z_icmp_eq (tgt := 42) hx hb d_Mo_longOf_34 (tI_n (by omega)) (tI_n (by omega)) (by decide) (fun g34 => ?_) (fun g34 => ?_)
        · refine lv_iconst (v := nI 1) hx hb d_Mo_longOf_42 (by decide) ?_
          exact eRi hx hb hr hlocks d_Mo_longOf_43 (by congr 1; unfold lgO; (repeat' split) <;> omega)
        · refine lv_iload_n hx hb d_Mo_longOf_37 rfl (lv_at hl 0 rfl) ?_
          refine lv_iconst (v := nI 4) hx hb d_Mo_longOf_38 (by decide) ?_
          refine z_icmp_ne (tgt := 44) hx hb d_Mo_longOf_39 (tI_n (by omega)) (tI_n (by omega)) (by decide) (fun g39 => ?_) (fun g39 => ?_)
          · refine lv_iload_n hx hb d_Mo_longOf_44 rfl (lv_at hl 0 rfl) ?_
            refine lv_iconst (v := nI 5) hx hb d_Mo_longOf_45 (by decide) ?_
            refine z_icmp_ne (tgt := 61) hx hb d_Mo_longOf_46 (tI_n (by omega)) (tI_n (by omega)) (by decide) (fun g46 => ?_) (fun g46 => ?_)
            · refine lv_iload_n hx hb d_Mo_longOf_61 rfl (lv_at hl 0 rfl) ?_
              refine lv_bipush (v := nI 7) hx hb d_Mo_longOf_62 (by decide) ?_
              refine z_icmp_ne (tgt := 69) hx hb d_Mo_longOf_64 (tI_n (by omega)) (tI_n (by omega)) (by decide) (fun g64 => ?_) (fun g64 => ?_)
              · refine lv_iload_n hx hb d_Mo_longOf_69 rfl (lv_at hl 1 rfl) ?_
                refine lv_bipush (v := nI 16) hx hb d_Mo_longOf_70 (by decide) ?_
                refine nRem hx hb d_Mo_longOf_72 (by omega) (by omega) (by omega) ?_
                refine lv_iconst (v := nI 3) hx hb d_Mo_longOf_73 (by decide) ?_
                refine z_icmp_le (tgt := 79) hx hb d_Mo_longOf_74 (tI_n (by omega)) (tI_n (by omega)) (by decide) (fun g74 => ?_) (fun g74 => ?_)
                · refine lv_iload_n hx hb d_Mo_longOf_79 rfl (lv_at hl 0 rfl) ?_
                  refine lv_iconst (v := nI 1) hx hb d_Mo_longOf_80 (by decide) ?_
                  refine z_icmp_ne (tgt := 88) hx hb d_Mo_longOf_81 (tI_n (by omega)) (tI_n (by omega)) (by decide) (fun g81 => ?_) (fun g81 => ?_)
                  · refine lv_iconst (v := nI 2) hx hb d_Mo_longOf_88 (by decide) ?_
                    exact eRi hx hb hr hlocks d_Mo_longOf_89 (by congr 1; unfold lgO; (repeat' split) <;> omega)
                  · refine lv_iconst (v := nI 1) hx hb d_Mo_longOf_84 (by decide) ?_
                    refine lv_goto (tgt := 89) hx hb d_Mo_longOf_85 (by decide) ?_
                    exact eRi hx hb hr hlocks d_Mo_longOf_89 (by congr 1; unfold lgO; (repeat' split) <;> omega)
                · refine lv_iconst (v := nI 0) hx hb d_Mo_longOf_77 (by decide) ?_
                  exact eRi hx hb hr hlocks d_Mo_longOf_78 (by congr 1; unfold lgO; (repeat' split) <;> omega)
              · refine lv_iconst (v := nI 3) hx hb d_Mo_longOf_67 (by decide) ?_
                exact eRi hx hb hr hlocks d_Mo_longOf_68 (by congr 1; unfold lgO; (repeat' split) <;> omega)
            · refine lv_iload_n hx hb d_Mo_longOf_49 rfl (lv_at hl 1 rfl) ?_
              refine lv_bipush (v := nI 85) hx hb d_Mo_longOf_50 (by decide) ?_
              refine z_icmp_gt (tgt := 59) hx hb d_Mo_longOf_52 (tI_n (by omega)) (tI_n (by omega)) (by decide) (fun g52 => ?_) (fun g52 => ?_)
              · refine lv_iconst (v := nI 0) hx hb d_Mo_longOf_59 (by decide) ?_
                exact eRi hx hb hr hlocks d_Mo_longOf_60 (by congr 1; unfold lgO; (repeat' split) <;> omega)
              · refine lv_iconst (v := nI 3) hx hb d_Mo_longOf_55 (by decide) ?_
                refine lv_goto (tgt := 60) hx hb d_Mo_longOf_56 (by decide) ?_
                exact eRi hx hb hr hlocks d_Mo_longOf_60 (by congr 1; unfold lgO; (repeat' split) <;> omega)
          · refine lv_iconst (v := nI 1) hx hb d_Mo_longOf_42 (by decide) ?_
            exact eRi hx hb hr hlocks d_Mo_longOf_43 (by congr 1; unfold lgO; (repeat' split) <;> omega)
      · refine lv_iload_n hx hb d_Mo_longOf_21 rfl (lv_at hl 1 rfl) ?_
        refine lv_iconst (v := nI 2) hx hb d_Mo_longOf_22 (by decide) ?_
        refine z_icmp_gt (tgt := 30) hx hb d_Mo_longOf_23 (tI_n (by omega)) (tI_n (by omega)) (by decide) (fun g23 => ?_) (fun g23 => ?_)
        · refine lv_iconst (v := nI 0) hx hb d_Mo_longOf_30 (by decide) ?_
          exact eRi hx hb hr hlocks d_Mo_longOf_31 (by congr 1; unfold lgO; (repeat' split) <;> omega)
        · refine lv_iconst (v := nI 1) hx hb d_Mo_longOf_26 (by decide) ?_
          refine lv_goto (tgt := 31) hx hb d_Mo_longOf_27 (by decide) ?_
          exact eRi hx hb hr hlocks d_Mo_longOf_31 (by congr 1; unfold lgO; (repeat' split) <;> omega)
    · refine lv_iconst (v := nI 0) hx hb d_Mo_longOf_10 (by decide) ?_
      exact eRi hx hb hr hlocks d_Mo_longOf_11 (by congr 1; unfold lgO; (repeat' split) <;> omega)

set_option maxHeartbeats 4000000 in
set_option maxRecDepth 100000 in
theorem c_Mo_length (l : Launch) (dC : Nat → ClassId) (dI : Nat → Nat → Nat) (z : zT) (o : Nat) (gi : Nat) (ge : Nat) (gt : Nat) (go : Nat) (gb : Nat) (gm : Nat) (gl : Nat) (i0 : txT) (e0 : txT) (t0 : txT) (mk : Nat) (L0 : txT) (ci : ClassId) (x : Int32) (y : Int) (hn : i0.2 ≤ 160) (hb8 : ∀ i, i0.1 i < 256) (hy : x.toInt = y) : MR l y_Mo_length b_Mo_length 3 (some .int) 1 21 (dC, dI) z [.ref o, .int x] [(o, .inr (5, [.ref gi, .ref ge, .ref gt, .ref go, .ref gb, .ref gm, .ref gl, .int (nI i0.2), .int (nI e0.2), .int (nI t0.2), .int (nI mk), .int (nI L0.2)])), (gi, .inl (ci, 160, .inl (iN i0.1)))] [(ci, .int)] (.int (nI (mLen i0.1 i0.2 y))) := by
  refine metR (by decide) (Nat.le_of_ble_eq_true rfl) ?_
  intro p e s m below meth c ls hx hb hr hlocks hml hown ht hl hP hK hSS
  have hl : lv_has ls 3 [(0, .ref o), (1, .int x)] := hl
  have hS : va_S (fun _ => False) s.heap s.heap [] := va_S.rf
  refine lv_aload_n hx hb d_Mo_length_0 rfl (lv_at hl 0 rfl) ?_
  refine lv_iload_n hx hb d_Mo_length_1 rfl (lv_at hl 1 rfl) ?_
  refine rV (As := [.int x]) (rest := []) hx hb hml hown ht (c_Mo_has l dC dI z o gi ge gt go gb gm gl i0 e0 t0 mk L0 x y (by first | assumption | omega) hy) yv_Mo_has k_536 (Nat.le_of_ble_eq_true rfl) (Nat.le_of_ble_eq_true rfl) hP hK hSS hS [0] [] rfl rfl 0 5 rfl rfl rfl hl rfl rfl (Nat.le_of_ble_eq_true rfl) (Nat.zero_le _) (Nat.zero_le _) d_Mo_length_2 ?_
  refine b_if_ne (tgt := 10) hx hb d_Mo_length_5 (by decide) (fun g5 => ?_) (fun g5 => ?_)
  · have g := of_decide_eq_true g5
    have hlg := lgO_le (i0.1 y.toNat)
    have hby := hb8 y.toNat
    refine lv_aload_n hx hb d_Mo_length_10 rfl (lv_at hl 0 rfl) ?_
    refine va_get (D := (dC, dI)) (ci := 5) (v := .ref gi) (C := R_Mo) (T := F_Mo) (N := 12) hx hb ht in_Mo hown hK hP 0 rfl rfl 0 (by decide) (ht _ k_491) (fun _ h9 => h9) rfl d_Mo_length_11 ?_
    refine lv_iload_n hx hb d_Mo_length_14 rfl (lv_at hl 1 rfl) ?_
    refine eqi (y := nI y.toNat) (x_yN hy (of_decide_eq_true g5).1) ?_
    refine ldI (q0 := 1) (t0 := 0) hx hb d_Mo_length_15 hK hP rfl rfl (by omega) (by decide) ?_
    refine rS (As := [.int (nI (i0.1 y.toNat))]) (rest := []) hx hb hml hown ht (c_Mo_longOf l dC dI z (i0.1 y.toNat) (by first | assumption | omega)) ys_Mo_longOf k_560 (Nat.le_of_ble_eq_true rfl) (Nat.le_of_ble_eq_true rfl) hP hK hSS hS [] [] rfl rfl hl rfl rfl (Nat.le_of_ble_eq_true rfl) (Nat.zero_le _) (Nat.zero_le _) d_Mo_length_16 ?_
    refine lv_istore_n (lv' := [(2, .int (nI (lgO (i0.1 y.toNat)))), (0, .ref o), (1, .int x)]) hx hb d_Mo_length_19 rfl hl (Nat.le_of_ble_eq_true rfl) rfl (fun ls hl => ?_)
    refine lv_iload_n hx hb d_Mo_length_20 rfl (lv_at hl 2 rfl) ?_
    refine lv_iload_n hx hb d_Mo_length_21 rfl (lv_at hl 0 rfl) ?_
    refine zAdd hx hb d_Mo_length_22 (x_iI hy) (nI_iI _) ?_
    refine lv_aload_n hx hb d_Mo_length_23 rfl (lv_at hl 1 rfl) ?_
    refine va_get (D := (dC, dI)) (ci := 5) (v := .int (nI i0.2)) (C := R_Mo) (T := F_Mo) (N := 12) hx hb ht in_Mo hown hK hP 0 rfl rfl 7 (by decide) (ht _ k_498) (fun _ h9 => h9) rfl d_Mo_length_24 ?_
    refine z_icmp_gt (tgt := 34) hx hb d_Mo_length_27 (iI_toInt (by omega) (by omega)) (tI_n (by omega)) (by decide) (fun g27 => ?_) (fun g27 => ?_)
    · refine lv_iconst (v := nI 0) hx hb d_Mo_length_34 (by decide) ?_
      exact eRi hx hb hr hlocks d_Mo_length_35 (by rw [mLen, if_pos g, if_neg (by omega)])
    · refine lv_iload_n hx hb d_Mo_length_30 rfl (lv_at hl 0 rfl) ?_
      refine lv_goto (tgt := 35) hx hb d_Mo_length_31 (by decide) ?_
      exact eRi hx hb hr hlocks d_Mo_length_35 (by rw [mLen, if_pos g, if_pos (by omega)])
  · have g := of_decide_eq_false g5
    refine lv_iconst (v := nI 0) hx hb d_Mo_length_8 (by decide) ?_
    exact eRi hx hb hr hlocks d_Mo_length_9 (by rw [mLen, if_neg g])

set_option maxHeartbeats 4000000 in
set_option maxRecDepth 100000 in
theorem c_Mo_set (l : Launch) (dC : Nat → ClassId) (dI : Nat → Nat → Nat) (z : zT) (sz : Nat) (o : Nat) (gi : Nat) (ge : Nat) (gt : Nat) (go : Nat) (gb : Nat) (gm : Nat) (gl : Nat) (i0 : txT) (e0 : txT) (t0 : txT) (mk : Nat) (L0 : txT) (cm1 : ClassId) (m0 : Nat → Bool) (x : Int32) (y : Int) (hn : i0.2 ≤ 160) (hy : x.toInt = y) : MU l y_Mo_set b_Mo_set 2 (some .boolean) 1 21 (dC, dI) z [.ref o, .int x] [(o, .inr (5, [.ref gi, .ref ge, .ref gt, .ref go, .ref gb, .ref gm, .ref gl, .int (nI i0.2), .int (nI e0.2), .int (nI t0.2), .int (nI mk), .int (nI L0.2)])), (gm, .inl (cm1, 160, .inl (zN m0)))] [(cm1, .boolean)] sz (some (.int (bI (msN i0.2 m0 y)))) [(o, .inr (5, [.ref gi, .ref ge, .ref gt, .ref go, .ref gb, .ref gm, .ref gl, .int (nI i0.2), .int (nI e0.2), .int (nI t0.2), .int (nI mk), .int (nI L0.2)])), (gm, .inl (cm1, 160, .inl (zN (msM i0.2 m0 y))))] := by
  refine metU (by decide) (Nat.le_of_ble_eq_true rfl) ?_
  intro p e s m below meth c ls A hx hb hr hlocks hml hown ht hl hP hK hSS hD hS hA
  have hl : lv_has ls 2 [(0, .ref o), (1, .int x)] := hl
  refine lv_aload_n hx hb d_Mo_set_0 rfl (lv_at hl 0 rfl) ?_
  refine lv_iload_n hx hb d_Mo_set_1 rfl (lv_at hl 1 rfl) ?_
  refine rV (As := [.int x]) (rest := []) hx hb hml hown ht (c_Mo_has l dC dI z o gi ge gt go gb gm gl i0 e0 t0 mk L0 x y (by first | assumption | omega) hy) yv_Mo_has k_536 (Nat.le_of_ble_eq_true rfl) (Nat.le_of_ble_eq_true rfl) hP hK hSS hS [0] [] rfl rfl 0 5 rfl rfl rfl hl rfl rfl (Nat.le_of_ble_eq_true rfl) (Nat.zero_le _) (Nat.zero_le _) d_Mo_set_2 ?_
  refine b_if_eq (tgt := 17) hx hb d_Mo_set_5 (by decide) (fun g5 => ?_) (fun g5 => ?_)
  · refine lv_iconst (v := nI 0) hx hb d_Mo_set_17 (by decide) ?_
    refine eqi (y := bI false) (by decide) ?_
    rw [msM, if_neg (by first | (intro q; exact of_decide_eq_false g5 ⟨q.1, q.2.1⟩) | (intro q; rw [g14] at q; exact absurd q.2.2 (by decide)))]
    exact eUz hx hb hr hlocks (bI_narrow _) hP hD hS [0, 1] rfl rfl (by decide) d_Mo_set_18 (bI_zero (by first | (intro q; exact of_decide_eq_false g5 ⟨q.1, q.2.1⟩) | (intro q; rw [g14] at q; exact absurd q.2.2 (by decide))))
  · have g := of_decide_eq_true g5
    refine lv_aload_n hx hb d_Mo_set_8 rfl (lv_at hl 0 rfl) ?_
    refine va_get (D := (dC, dI)) (ci := 5) (v := .ref gm) (C := R_Mo) (T := F_Mo) (N := 12) hx hb ht in_Mo hown hK hP 0 rfl rfl 5 (by decide) (ht _ k_496) (fun _ h9 => h9) rfl d_Mo_set_9 ?_
    refine lv_iload_n hx hb d_Mo_set_12 rfl (lv_at hl 1 rfl) ?_
    refine eqi (y := nI y.toNat) (x_yN hy (of_decide_eq_true g5).1) ?_
    refine ldZ (q0 := 1) (t0 := 0) hx hb d_Mo_set_13 hK hP rfl rfl (by omega) (by decide) ?_
    refine b_if_eq (tgt := 19) hx hb d_Mo_set_14 (by decide) (fun g14 => ?_) (fun g14 => ?_)
    · refine lv_aload_n hx hb d_Mo_set_19 rfl (lv_at hl 0 rfl) ?_
      refine va_get (D := (dC, dI)) (ci := 5) (v := .ref gm) (C := R_Mo) (T := F_Mo) (N := 12) hx hb ht in_Mo hown hK hP 0 rfl rfl 5 (by decide) (ht _ k_496) (fun _ h9 => h9) rfl d_Mo_set_20 ?_
      refine lv_iload_n hx hb d_Mo_set_23 rfl (lv_at hl 1 rfl) ?_
      refine eqi (y := nI y.toNat) (x_yN hy (of_decide_eq_true g5).1) ?_
      refine lv_iconst (v := nI 1) hx hb d_Mo_set_24 (by decide) ?_
      refine eqi (y := bI true) (by decide) ?_
      refine stZ (q0 := 1) (t0 := 0) (w1 := [(o, .inr (5, [.ref gi, .ref ge, .ref gt, .ref go, .ref gb, .ref gm, .ref gl, .int (nI i0.2), .int (nI e0.2), .int (nI t0.2), .int (nI mk), .int (nI L0.2)])), (gm, .inl (cm1, 160, .inl (zN (updB m0 y.toNat true))))]) hx hb d_Mo_set_25 hK hP hD hS rfl rfl (by omega) (by decide) rfl (fun H locs hP hD hS => ?_)
      refine lv_iconst (v := nI 1) hx hb d_Mo_set_26 (by decide) ?_
      refine eqi (y := bI true) (by decide) ?_
      rw [msM, if_pos ⟨g.1, g.2, g14⟩]
      exact eUz hx hb hr hlocks (bI_narrow _) hP hD hS [0, 1] rfl rfl (by decide) d_Mo_set_27 (bI_one ⟨g.1, g.2, g14⟩)
    · refine lv_iconst (v := nI 0) hx hb d_Mo_set_17 (by decide) ?_
      refine eqi (y := bI false) (by decide) ?_
      rw [msM, if_neg (by first | (intro q; exact of_decide_eq_false g5 ⟨q.1, q.2.1⟩) | (intro q; rw [g14] at q; exact absurd q.2.2 (by decide)))]
      exact eUz hx hb hr hlocks (bI_narrow _) hP hD hS [0, 1] rfl rfl (by decide) d_Mo_set_18 (bI_zero (by first | (intro q; exact of_decide_eq_false g5 ⟨q.1, q.2.1⟩) | (intro q; rw [g14] at q; exact absurd q.2.2 (by decide))))
