set_option maxHeartbeats 4000000 in
set_option maxRecDepth 100000 in
theorem c_St_coder (l : Launch) (dC : Nat → ClassId) (dI : Nat → Nat → Nat) (z : zT) (i : Nat) (hi : i < 14) : MR l y_St_coder b_St_coder 1 (some .byte) 0 0 (dC, dI) z [.ref (z.2.2.2.1 i)] [] [] (.int (nI 0)) := by
  refine metR (by decide) (Nat.le_of_ble_eq_true rfl) ?_
  intro p e s m below meth c ls hx hb hr hlocks hml hown ht hl hP hK hSS
  have hl : lv_has ls 1 [(0, .ref (z.2.2.2.1 i))] := hl
  have hS : va_S (fun _ => False) s.heap s.heap [] := va_S.rf
  refine va_gets hx hb (hSS.2.2.2.1) hS hown (ht _ k_293) (fun _ h9 => h9) d_St_coder_0 ?_
  refine eqi (y := bI true) (by decide) ?_
  refine b_if_eq (tgt := 13) hx hb d_St_coder_3 (by decide) (fun g3 => ?_) (fun g3 => ?_)
  · cases g3
  · refine lv_aload_n hx hb d_St_coder_6 rfl (lv_at hl 0 rfl) ?_
    refine vk_getf hx hb (hSS.2.2.2.2.2.1.1 i hi).2.1 hS hown (ht _ k_664) (fun _ h9 => h9) d_St_coder_7 ?_
    refine eqi (y := nI 0) (by decide) ?_
    refine lv_goto (tgt := 14) hx hb d_St_coder_10 (by decide) ?_
    exact eRz hx hb hr hlocks (by decide) d_St_coder_14 (rfl)

set_option maxHeartbeats 4000000 in
set_option maxRecDepth 100000 in
theorem c_St_isLatin1 (l : Launch) (dC : Nat → ClassId) (dI : Nat → Nat → Nat) (z : zT) (i : Nat) (hi : i < 14) : MR l y_St_isLatin1 b_St_isLatin1 1 (some .boolean) 0 0 (dC, dI) z [.ref (z.2.2.2.1 i)] [] [] (.int (bI true)) := by
  refine metR (by decide) (Nat.le_of_ble_eq_true rfl) ?_
  intro p e s m below meth c ls hx hb hr hlocks hml hown ht hl hP hK hSS
  have hl : lv_has ls 1 [(0, .ref (z.2.2.2.1 i))] := hl
  have hS : va_S (fun _ => False) s.heap s.heap [] := va_S.rf
  refine va_gets hx hb (hSS.2.2.2.1) hS hown (ht _ k_293) (fun _ h9 => h9) d_St_isLatin1_0 ?_
  refine eqi (y := bI true) (by decide) ?_
  refine b_if_eq (tgt := 17) hx hb d_St_isLatin1_3 (by decide) (fun g3 => ?_) (fun g3 => ?_)
  · cases g3
  · refine lv_aload_n hx hb d_St_isLatin1_6 rfl (lv_at hl 0 rfl) ?_
    refine vk_getf hx hb (hSS.2.2.2.2.2.1.1 i hi).2.1 hS hown (ht _ k_664) (fun _ h9 => h9) d_St_isLatin1_7 ?_
    refine eqi (y := nI 0) (by decide) ?_
    refine z_if_ne (tgt := 17) hx hb d_St_isLatin1_10 (tI_n (by omega)) (by decide) (fun g10 => ?_) (fun g10 => ?_)
    · exfalso; omega
    · refine lv_iconst (v := nI 1) hx hb d_St_isLatin1_13 (by decide) ?_
      refine lv_goto (tgt := 18) hx hb d_St_isLatin1_14 (by decide) ?_
      refine eqi (y := bI true) (by decide) ?_
      exact eRz hx hb hr hlocks (bI_narrow _) d_St_isLatin1_18 (rfl)

set_option maxHeartbeats 4000000 in
set_option maxRecDepth 100000 in
theorem c_St_length (l : Launch) (dC : Nat → ClassId) (dI : Nat → Nat → Nat) (z : zT) (i : Nat) (hi : i < 14) : MR l y_St_length b_St_length 1 (some .int) 1 20 (dC, dI) z [.ref (z.2.2.2.1 i)] [] [] (.int (nI ((opL i).length))) := by
  refine metR (by decide) (Nat.le_of_ble_eq_true rfl) ?_
  intro p e s m below meth c ls hx hb hr hlocks hml hown ht hl hP hK hSS
  have hl : lv_has ls 1 [(0, .ref (z.2.2.2.1 i))] := hl
  have hS : va_S (fun _ => False) s.heap s.heap [] := va_S.rf
  refine lv_aload_n hx hb d_St_length_0 rfl (lv_at hl 0 rfl) ?_
  refine vk_getf hx hb (hSS.2.2.2.2.2.1.1 i hi).2.2.1 hS hown (ht _ k_663) (fun _ h9 => h9) d_St_length_1 ?_
  refine va_tlen hx hb (hSS.2.2.2.2.2.1.1 i hi).2.2.2 hS (v := nI (opL i).length) (by rw [lenK_op hi]; rfl) d_St_length_4 ?_
  refine lv_aload_n hx hb d_St_length_5 rfl (lv_at hl 0 rfl) ?_
  refine rVK (As := []) (rest := [.int (nI ((opL i).length))]) hx hb hml hown ht (c_St_coder l dC dI z i (by first | assumption | omega)) yv_St_coder k_289 (Nat.le_of_ble_eq_true rfl) (Nat.le_of_ble_eq_true rfl) hP hK hSS hS [] [] rfl rfl (vk_recv hSS.2.2.2.2.2.1 hi hS) hl rfl rfl (Nat.le_of_ble_eq_true rfl) (Nat.zero_le _) (Nat.zero_le _) d_St_length_6 ?_
  refine lv_ishr hx hb d_St_length_9 ?_
  refine eqi (y := nI ((opL i).length)) (sc_shr0 (by have := (op_bd i hi).2.1; omega)) ?_
  exact eRi hx hb hr hlocks d_St_length_10 (rfl)

set_option maxHeartbeats 4000000 in
set_option maxRecDepth 100000 in
theorem c_Pr_checkIndex (l : Launch) (dC : Nat → ClassId) (dI : Nat → Nat → Nat) (z : zT) (k : Nat) (n : Nat) (q : Nat) (hk : k < n) (hn : n < 2147483648) : MR l y_Pr_checkIndex b_Pr_checkIndex 3 (some .int) 0 0 (dC, dI) z [.int (nI k), .int (nI n), .ref q] [] [] (.int (nI k)) := by
  refine metR (by decide) (Nat.le_of_ble_eq_true rfl) ?_
  intro p e s m below meth c ls hx hb hr hlocks hml hown ht hl hP hK hSS
  have hl : lv_has ls 3 [(0, .int (nI k)), (1, .int (nI n)), (2, .ref q)] := hl
  have hS : va_S (fun _ => False) s.heap s.heap [] := va_S.rf
  refine lv_iload_n hx hb d_Pr_checkIndex_0 rfl (lv_at hl 0 rfl) ?_
  refine z_if_lt (tgt := 9) hx hb d_Pr_checkIndex_1 (tI_n (by omega)) (by decide) (fun g1 => ?_) (fun g1 => ?_)
  · exfalso; omega
  · refine lv_iload_n hx hb d_Pr_checkIndex_4 rfl (lv_at hl 0 rfl) ?_
    refine lv_iload_n hx hb d_Pr_checkIndex_5 rfl (lv_at hl 1 rfl) ?_
    refine z_icmp_lt (tgt := 16) hx hb d_Pr_checkIndex_6 (tI_n (by omega)) (tI_n (by omega)) (by decide) (fun g6 => ?_) (fun g6 => ?_)
    · refine lv_iload_n hx hb d_Pr_checkIndex_16 rfl (lv_at hl 0 rfl) ?_
      exact eRi hx hb hr hlocks d_Pr_checkIndex_17 (rfl)
    · exfalso; omega

set_option maxHeartbeats 4000000 in
set_option maxRecDepth 100000 in
theorem c_Pr_checkIndexN (l : Launch) (dC : Nat → ClassId) (dI : Nat → Nat → Nat) (z : zT) (k : Nat) (n : Nat) (hk : k < n) (hn : n < 2147483648) : MR l y_Pr_checkIndex b_Pr_checkIndex 3 (some .int) 0 0 (dC, dI) z [.int (nI k), .int (nI n), .null] [] [] (.int (nI k)) := by
  refine metR (by decide) (Nat.le_of_ble_eq_true rfl) ?_
  intro p e s m below meth c ls hx hb hr hlocks hml hown ht hl hP hK hSS
  have hl : lv_has ls 3 [(0, .int (nI k)), (1, .int (nI n)), (2, .null)] := hl
  have hS : va_S (fun _ => False) s.heap s.heap [] := va_S.rf
  refine lv_iload_n hx hb d_Pr_checkIndex_0 rfl (lv_at hl 0 rfl) ?_
  refine z_if_lt (tgt := 9) hx hb d_Pr_checkIndex_1 (tI_n (by omega)) (by decide) (fun g1 => ?_) (fun g1 => ?_)
  · exfalso; omega
  · refine lv_iload_n hx hb d_Pr_checkIndex_4 rfl (lv_at hl 0 rfl) ?_
    refine lv_iload_n hx hb d_Pr_checkIndex_5 rfl (lv_at hl 1 rfl) ?_
    refine z_icmp_lt (tgt := 16) hx hb d_Pr_checkIndex_6 (tI_n (by omega)) (tI_n (by omega)) (by decide) (fun g6 => ?_) (fun g6 => ?_)
    · refine lv_iload_n hx hb d_Pr_checkIndex_16 rfl (lv_at hl 0 rfl) ?_
      exact eRi hx hb hr hlocks d_Pr_checkIndex_17 (rfl)
    · exfalso; omega

set_option maxHeartbeats 4000000 in
set_option maxRecDepth 100000 in
theorem c_St_checkIndex (l : Launch) (dC : Nat → ClassId) (dI : Nat → Nat → Nat) (z : zT) (k : Nat) (n : Nat) (hk : k < n) (hn : n < 2147483648) : MN l y_St_checkIndex b_St_checkIndex 2 none 1 22 (dC, dI) z [.int (nI k), .int (nI n)] [] [] := by
  refine metN (by decide) (Nat.le_of_ble_eq_true rfl) ?_
  intro p e s m below meth c ls hx hb hr hlocks hml hown ht hl hP hK hSS
  have hl : lv_has ls 2 [(0, .int (nI k)), (1, .int (nI n))] := hl
  have hS : va_S (fun _ => False) s.heap s.heap [] := va_S.rf
  refine lv_iload_n hx hb d_St_checkIndex_0 rfl (lv_at hl 0 rfl) ?_
  refine lv_iload_n hx hb d_St_checkIndex_1 rfl (lv_at hl 1 rfl) ?_
  rcases hSS.2.2.2.2.1 with hz | ⟨qz, hz⟩
  · refine va_gets hx hb hz hS hown (ht _ k_309) (fun _ h9 => h9) d_St_checkIndex_2 ?_
    refine rS (As := [.int (nI k), .int (nI n), .null]) (rest := []) hx hb hml hown ht (c_Pr_checkIndexN l dC dI z k n (by first | assumption | omega) (by first | assumption | omega)) ys_Pr_checkIndex k_311 (Nat.le_of_ble_eq_true rfl) (Nat.le_of_ble_eq_true rfl) hP hK hSS hS [] [] rfl rfl hl rfl rfl (Nat.le_of_ble_eq_true rfl) (Nat.zero_le _) (Nat.zero_le _) d_St_checkIndex_5 ?_
    refine lv_pop hx hb d_St_checkIndex_8 rfl ?_
    exact eNv hx hb hr hlocks d_St_checkIndex_9
  · refine va_gets hx hb hz hS hown (ht _ k_309) (fun _ h9 => h9) d_St_checkIndex_2 ?_
    refine rS (As := [.int (nI k), .int (nI n), .ref qz]) (rest := []) hx hb hml hown ht (c_Pr_checkIndex l dC dI z k n qz (by first | assumption | omega) (by first | assumption | omega)) ys_Pr_checkIndex k_311 (Nat.le_of_ble_eq_true rfl) (Nat.le_of_ble_eq_true rfl) hP hK hSS hS [] [] rfl rfl hl rfl rfl (Nat.le_of_ble_eq_true rfl) (Nat.zero_le _) (Nat.zero_le _) d_St_checkIndex_5 ?_
    refine lv_pop hx hb d_St_checkIndex_8 rfl ?_
    exact eNv hx hb hr hlocks d_St_checkIndex_9

set_option maxHeartbeats 4000000 in
set_option maxRecDepth 100000 in
theorem c_Sl_charAt (l : Launch) (dC : Nat → ClassId) (dI : Nat → Nat → Nat) (z : zT) (i : Nat) (k : Nat) (hi : i < 14) (hk : k < (opL i).length) : MR l y_Sl_charAt b_Sl_charAt 2 (some .char) 2 43 (dC, dI) z [.ref (z.2.2.2.2 i), .int (nI k)] [] [] (.int (nI ((opL i).getD k 0))) := by
  have hop := (op_bd i hi).2.1
  have hch := (op_bd i hi).2.2 k (by omega)
  refine metR (by decide) (Nat.le_of_ble_eq_true rfl) ?_
  intro p e s m below meth c ls hx hb hr hlocks hml hown ht hl hP hK hSS
  have hl : lv_has ls 2 [(0, .ref (z.2.2.2.2 i)), (1, .int (nI k))] := hl
  have hS : va_S (fun _ => False) s.heap s.heap [] := va_S.rf
  refine lv_iload_n hx hb d_Sl_charAt_0 rfl (lv_at hl 1 rfl) ?_
  refine lv_aload_n hx hb d_Sl_charAt_1 rfl (lv_at hl 0 rfl) ?_
  refine va_tlen hx hb (hSS.2.2.2.2.2.1.1 i hi).2.2.2 hS (v := nI (opL i).length) (by rw [lenK_op hi]; rfl) d_Sl_charAt_2 ?_
  refine nS (As := [.int (nI k), .int (nI ((opL i).length))]) (rest := []) hx hb hml hown ht (c_St_checkIndex l dC dI z k ((opL i).length) (by first | assumption | omega) (by first | assumption | omega)) ys_St_checkIndex k_306 (Nat.le_of_ble_eq_true rfl) (Nat.le_of_ble_eq_true rfl) hP hK hSS hS [] [] rfl rfl hl rfl rfl (Nat.le_of_ble_eq_true rfl) (Nat.zero_le _) (Nat.zero_le _) d_Sl_charAt_3 ?_
  refine lv_aload_n hx hb d_Sl_charAt_6 rfl (lv_at hl 0 rfl) ?_
  refine lv_iload_n hx hb d_Sl_charAt_7 rfl (lv_at hl 1 rfl) ?_
  refine va_tb hx hb (hSS.2.2.2.2.2.1.1 i hi).2.2.2 hS (vin (by rw [lenK_op hi]; exact hk) (by rw [lenK_op hi]; omega)) (v := .int (nI ((opL i).getD k 0))) (by show Value.int ((bytK.getD i []).getD (nI k).toNatClampNeg 0) = _; rw [clp (by omega), byt_op hi (by omega)]) d_Sl_charAt_8 ?_
  refine lv_sipush (v := nI 255) hx hb d_Sl_charAt_9 (by decide) ?_
  refine lv_iand hx hb d_Sl_charAt_12 ?_
  refine eqi (y := nI ((opL i).getD k 0)) (and255 hch) ?_
  refine lv_i2c (v := nI ((opL i).getD k 0)) hx hb d_Sl_charAt_13 (i2c_n (by omega)) ?_
  exact eRz hx hb hr hlocks (pk_charN (by omega)).1 d_Sl_charAt_14 (rfl)

set_option maxHeartbeats 4000000 in
set_option maxRecDepth 100000 in
theorem c_St_charAt (l : Launch) (dC : Nat → ClassId) (dI : Nat → Nat → Nat) (z : zT) (i : Nat) (k : Nat) (hi : i < 14) (hk : k < (opL i).length) : MR l y_St_charAt b_St_charAt 2 (some .char) 3 64 (dC, dI) z [.ref (z.2.2.2.1 i), .int (nI k)] [] [] (.int (nI ((opL i).getD k 0))) := by
  have hop := (op_bd i hi).2.1
  have hch := (op_bd i hi).2.2 k (by omega)
  refine metR (by decide) (Nat.le_of_ble_eq_true rfl) ?_
  intro p e s m below meth c ls hx hb hr hlocks hml hown ht hl hP hK hSS
  have hl : lv_has ls 2 [(0, .ref (z.2.2.2.1 i)), (1, .int (nI k))] := hl
  have hS : va_S (fun _ => False) s.heap s.heap [] := va_S.rf
  refine lv_aload_n hx hb d_St_charAt_0 rfl (lv_at hl 0 rfl) ?_
  refine rVK (As := []) (rest := []) hx hb hml hown ht (c_St_isLatin1 l dC dI z i (by first | assumption | omega)) yv_St_isLatin1 k_299 (Nat.le_of_ble_eq_true rfl) (Nat.le_of_ble_eq_true rfl) hP hK hSS hS [] [] rfl rfl (vk_recv hSS.2.2.2.2.2.1 hi hS) hl rfl rfl (Nat.le_of_ble_eq_true rfl) (Nat.zero_le _) (Nat.zero_le _) d_St_charAt_1 ?_
  refine b_if_eq (tgt := 16) hx hb d_St_charAt_4 (by decide) (fun g4 => ?_) (fun g4 => ?_)
  · cases g4
  · refine lv_aload_n hx hb d_St_charAt_7 rfl (lv_at hl 0 rfl) ?_
    refine vk_getf hx hb (hSS.2.2.2.2.2.1.1 i hi).2.2.1 hS hown (ht _ k_663) (fun _ h9 => h9) d_St_charAt_8 ?_
    refine lv_iload_n hx hb d_St_charAt_11 rfl (lv_at hl 1 rfl) ?_
    refine rS (As := [.ref (z.2.2.2.2 i), .int (nI k)]) (rest := []) hx hb hml hown ht (c_Sl_charAt l dC dI z i k (by first | assumption | omega) (by first | assumption | omega)) ys_Sl_charAt k_303 (Nat.le_of_ble_eq_true rfl) (Nat.le_of_ble_eq_true rfl) hP hK hSS hS [] [] rfl rfl hl rfl rfl (Nat.le_of_ble_eq_true rfl) (Nat.zero_le _) (Nat.zero_le _) d_St_charAt_12 ?_
    exact eRz hx hb hr hlocks (pk_charN (by omega)).1 d_St_charAt_15 (rfl)
