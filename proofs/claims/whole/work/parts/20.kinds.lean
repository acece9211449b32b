set_option maxHeartbeats 4000000 in
set_option maxRecDepth 100000 in
theorem c_Ki_ofFirst (l : Launch) (dC : Nat → ClassId) (dI : Nat → Nat → Nat) (z : zT) (x : Int32) (y : Int) (hy : x.toInt = y) : MR l y_Ki_ofFirst b_Ki_ofFirst 3 (some .int) 0 0 (dC, dI) z [.int x] [] [] (.int (oI (kd y))) := by
  refine metR (by decide) (Nat.le_of_ble_eq_true rfl) ?_
  intro p e s m below meth c ls hx hb hr hlocks hml hown ht hl hP hK hSS
  have hl : lv_has ls 3 [(0, .int x)] := hl
  have hS : va_S (fun _ => False) s.heap s.heap [] := va_S.rf
  refine lv_iconst (v := nI 0) hx hb d_Ki_ofFirst_0 (by decide) ?_
  refine lv_istore_n (lv' := [(1, .int (nI 0)), (0, .int x)]) hx hb d_Ki_ofFirst_1 rfl hl (Nat.le_of_ble_eq_true rfl) rfl (fun ls hl => ?_)
  have loop2 : ∀ (j : Nat) (k : Nat) (ls : Array Slot), (k + j = 13) → (kd y = kFind y j k) → lv_has ls 3 [(1, .int (nI k)), (0, .int x)] → W p l e (rmq 0 0) s m [.int x].toArray below meth c s.heap [] 0 0 (MQ below (k2_QcV (.int (oI (kd y)))) [.int x].toArray s 0 0 (fun _ => False)) (F0 m 2 ls []) := by
    intro j
    induction j with
    | zero =>
      intro k ls hk hR hl
      refine lv_iload_n hx hb d_Ki_ofFirst_2 rfl (lv_at hl 0 rfl) ?_
      refine lv_bipush (v := nI 13) hx hb d_Ki_ofFirst_3 (by decide) ?_
      refine z_icmp_ge (tgt := 46) hx hb d_Ki_ofFirst_5 (tI_n (by omega)) (tI_n (by omega)) (by decide) (fun g5 => ?_) (fun g5 => ?_)
      · refine lv_iconst (v := iI (-1)) hx hb d_Ki_ofFirst_46 (by decide) ?_
        exact eRi hx hb hr hlocks d_Ki_ofFirst_47 (by rw [hR]; rfl)
      · exfalso; omega
    | succ j ih =>
      intro k ls hk hR hl
      have hF := kF_lt k
      have hC := kC_lt k
      refine lv_iload_n hx hb d_Ki_ofFirst_2 rfl (lv_at hl 0 rfl) ?_
      refine lv_bipush (v := nI 13) hx hb d_Ki_ofFirst_3 (by decide) ?_
      refine z_icmp_ge (tgt := 46) hx hb d_Ki_ofFirst_5 (tI_n (by omega)) (tI_n (by omega)) (by decide) (fun g5 => ?_) (fun g5 => ?_)
      · exfalso; omega
      · refine lv_iconst (v := nI 1) hx hb d_Ki_ofFirst_8 (by decide) ?_
        refine lv_iconst (v := nI 2) hx hb d_Ki_ofFirst_9 (by decide) ?_
        refine va_gets hx hb (hSS.2.1.1) hS hown (ht _ k_183) (fun _ h9 => h9) d_Ki_ofFirst_10 ?_
        refine lv_iload_n hx hb d_Ki_ofFirst_13 rfl (lv_at hl 0 rfl) ?_
        refine va_ti hx hb (hSS.2.1.2) hS (vin (by omega) (by decide)) (v := .int (nI (kR k))) (by rw [clp (by omega)]) d_Ki_ofFirst_14 ?_
        refine nMul hx hb d_Ki_ofFirst_15 ?_
        refine lv_ishl hx hb d_Ki_ofFirst_16 ?_
        refine eqi (y := nI (kC k)) (shl_kC k (by omega)) ?_
        refine lv_istore_n (lv' := [(2, .int (nI (kC k))), (1, .int (nI k)), (0, .int x)]) hx hb d_Ki_ofFirst_17 rfl hl (Nat.le_of_ble_eq_true rfl) rfl (fun ls hl => ?_)
        refine lv_iload_n hx hb d_Ki_ofFirst_18 rfl (lv_at hl 2 rfl) ?_
        refine va_gets hx hb (hSS.1.1) hS hown (ht _ k_185) (fun _ h9 => h9) d_Ki_ofFirst_19 ?_
        refine lv_iload_n hx hb d_Ki_ofFirst_22 rfl (lv_at hl 1 rfl) ?_
        refine va_ti hx hb (hSS.1.2) hS (vin (by omega) (by decide)) (v := .int (nI (kF k))) (by rw [clp (by omega)]) d_Ki_ofFirst_23 ?_
        refine z_icmp_lt (tgt := 40) hx hb d_Ki_ofFirst_24 hy (tI_n (by omega)) (by decide) (fun g24 => ?_) (fun g24 => ?_)
        · refine lv_iinc (k := 1) (v := nI (k + 1)) (lv' := [(1, .int (nI (k + 1))), (2, .int (nI (kC k))), (0, .int x)]) hx hb d_Ki_ofFirst_40 hl rfl (nI_inc1 _) (Nat.le_of_ble_eq_true rfl) rfl (fun ls hl => ?_)
          refine lv_goto (tgt := 2) hx hb d_Ki_ofFirst_43 (by decide) ?_
          exact ih (k + 1) _ (by omega) (by rw [hR, kFind, if_neg (by omega)]) (lv_sub hl [0, 2] rfl)
        · refine lv_iload_n hx hb d_Ki_ofFirst_27 rfl (lv_at hl 2 rfl) ?_
          refine va_gets hx hb (hSS.1.1) hS hown (ht _ k_185) (fun _ h9 => h9) d_Ki_ofFirst_28 ?_
          refine lv_iload_n hx hb d_Ki_ofFirst_31 rfl (lv_at hl 1 rfl) ?_
          refine va_ti hx hb (hSS.1.2) hS (vin (by omega) (by decide)) (v := .int (nI (kF k))) (by rw [clp (by omega)]) d_Ki_ofFirst_32 ?_
          refine lv_iload_n hx hb d_Ki_ofFirst_33 rfl (lv_at hl 0 rfl) ?_
          refine nAdd hx hb d_Ki_ofFirst_34 ?_
          refine z_icmp_ge (tgt := 40) hx hb d_Ki_ofFirst_35 hy (tI_n (by omega)) (by decide) (fun g35 => ?_) (fun g35 => ?_)
          · refine lv_iinc (k := 1) (v := nI (k + 1)) (lv' := [(1, .int (nI (k + 1))), (2, .int (nI (kC k))), (0, .int x)]) hx hb d_Ki_ofFirst_40 hl rfl (nI_inc1 _) (Nat.le_of_ble_eq_true rfl) rfl (fun ls hl => ?_)
            refine lv_goto (tgt := 2) hx hb d_Ki_ofFirst_43 (by decide) ?_
            exact ih (k + 1) _ (by omega) (by rw [hR, kFind, if_neg (by omega)]) (lv_sub hl [0, 2] rfl)
          · refine lv_iload_n hx hb d_Ki_ofFirst_38 rfl (lv_at hl 1 rfl) ?_
            exact eRi hx hb hr hlocks d_Ki_ofFirst_39 (by rw [hR, kFind, if_pos (by omega)]; rfl)
  exact loop2 13 0 _ (rfl) (rfl) (lv_sub hl [0, 1] rfl)

set_option maxHeartbeats 4000000 in
set_option maxRecDepth 100000 in
theorem c_Ki_first (l : Launch) (dC : Nat → ClassId) (dI : Nat → Nat → Nat) (z : zT) (k : Nat) (hk : k < 14) : MR l y_Ki_first b_Ki_first 1 (some .int) 0 0 (dC, dI) z [.int (nI k)] [] [] (.int (nI (kF k))) := by
  refine metR (by decide) (Nat.le_of_ble_eq_true rfl) ?_
  intro p e s m below meth c ls hx hb hr hlocks hml hown ht hl hP hK hSS
  have hl : lv_has ls 1 [(0, .int (nI k))] := hl
  have hS : va_S (fun _ => False) s.heap s.heap [] := va_S.rf
  refine va_gets hx hb (hSS.1.1) hS hown (ht _ k_185) (fun _ h9 => h9) d_Ki_first_0 ?_
  refine lv_iload_n hx hb d_Ki_first_3 rfl (lv_at hl 0 rfl) ?_
  refine va_ti hx hb (hSS.1.2) hS (vin (by omega) (by decide)) (v := .int (nI (kF k))) (by rw [clp (by omega)]) d_Ki_first_4 ?_
  exact eRi hx hb hr hlocks d_Ki_first_5 (rfl)

set_option maxHeartbeats 4000000 in
set_option maxRecDepth 100000 in
theorem c_Ki_registers (l : Launch) (dC : Nat → ClassId) (dI : Nat → Nat → Nat) (z : zT) (k : Nat) (hk : k < 14) : MR l y_Ki_registers b_Ki_registers 1 (some .int) 0 0 (dC, dI) z [.int (nI k)] [] [] (.int (nI (kR k))) := by
  refine metR (by decide) (Nat.le_of_ble_eq_true rfl) ?_
  intro p e s m below meth c ls hx hb hr hlocks hml hown ht hl hP hK hSS
  have hl : lv_has ls 1 [(0, .int (nI k))] := hl
  have hS : va_S (fun _ => False) s.heap s.heap [] := va_S.rf
  refine va_gets hx hb (hSS.2.1.1) hS hown (ht _ k_183) (fun _ h9 => h9) d_Ki_registers_0 ?_
  refine lv_iload_n hx hb d_Ki_registers_3 rfl (lv_at hl 0 rfl) ?_
  refine va_ti hx hb (hSS.2.1.2) hS (vin (by omega) (by decide)) (v := .int (nI (kR k))) (by rw [clp (by omega)]) d_Ki_registers_4 ?_
  exact eRi hx hb hr hlocks d_Ki_registers_5 (rfl)

set_option maxHeartbeats 4000000 in
set_option maxRecDepth 100000 in
theorem c_Ki_number (l : Launch) (dC : Nat → ClassId) (dI : Nat → Nat → Nat) (z : zT) (k : Nat) (hk : k < 14) : MR l y_Ki_number b_Ki_number 1 (some .int) 0 0 (dC, dI) z [.int (nI k)] [] [] (.int (nI (kN k))) := by
  refine metR (by decide) (Nat.le_of_ble_eq_true rfl) ?_
  intro p e s m below meth c ls hx hb hr hlocks hml hown ht hl hP hK hSS
  have hl : lv_has ls 1 [(0, .int (nI k))] := hl
  have hS : va_S (fun _ => False) s.heap s.heap [] := va_S.rf
  refine va_gets hx hb (hSS.2.2.1.1) hS hown (ht _ k_190) (fun _ h9 => h9) d_Ki_number_0 ?_
  refine lv_iload_n hx hb d_Ki_number_3 rfl (lv_at hl 0 rfl) ?_
  refine va_ti hx hb (hSS.2.2.1.2) hS (vin (by omega) (by decide)) (v := .int (nI (kN k))) (by rw [clp (by omega)]) d_Ki_number_4 ?_
  exact eRi hx hb hr hlocks d_Ki_number_5 (rfl)

set_option maxHeartbeats 4000000 in
set_option maxRecDepth 100000 in
theorem c_Ki_bytes (l : Launch) (dC : Nat → ClassId) (dI : Nat → Nat → Nat) (z : zT) (k : Nat) (hk : k < 14) : MR l y_Ki_bytes b_Ki_bytes 1 (some .int) 0 0 (dC, dI) z [.int (nI k)] [] [] (.int (nI (kB k))) := by
  refine metR (by decide) (Nat.le_of_ble_eq_true rfl) ?_
  intro p e s m below meth c ls hx hb hr hlocks hml hown ht hl hP hK hSS
  have hl : lv_has ls 1 [(0, .int (nI k))] := hl
  have hS : va_S (fun _ => False) s.heap s.heap [] := va_S.rf
  refine va_gets hx hb (hSS.2.2.1.1) hS hown (ht _ k_190) (fun _ h9 => h9) d_Ki_bytes_0 ?_
  refine lv_iload_n hx hb d_Ki_bytes_3 rfl (lv_at hl 0 rfl) ?_
  refine va_ti hx hb (hSS.2.2.1.2) hS (vin (by omega) (by decide)) (v := .int (nI (kN k))) (by rw [clp (by omega)]) d_Ki_bytes_4 ?_
  rcases kN_cases k hk with e | e | e | e
  · refine eqi (y := nI 0) (by rw [e]) ?_
    refine lv_lookup (off := 27) (tgt := 32) hx hb d_Ki_bytes_5 (by decide) (by decide) (by decide) ?_
    refine lv_iconst (v := nI 1) hx hb d_Ki_bytes_32 (by decide) ?_
    exact eRi hx hb hr hlocks d_Ki_bytes_33 (by simp [kB, e])
  · refine eqi (y := nI 1) (by rw [e]) ?_
    refine lv_lookup (off := 31) (tgt := 36) hx hb d_Ki_bytes_5 (by decide) (by decide) (by decide) ?_
    refine lv_iconst (v := nI 2) hx hb d_Ki_bytes_36 (by decide) ?_
    exact eRi hx hb hr hlocks d_Ki_bytes_37 (by simp [kB, e])
  · refine eqi (y := nI 2) (by rw [e]) ?_
    refine lv_lookup (off := 31) (tgt := 36) hx hb d_Ki_bytes_5 (by decide) (by decide) (by decide) ?_
    refine lv_iconst (v := nI 2) hx hb d_Ki_bytes_36 (by decide) ?_
    exact eRi hx hb hr hlocks d_Ki_bytes_37 (by simp [kB, e])
  · refine eqi (y := nI 3) (by rw [e]) ?_
    refine lv_lookup (off := 29) (tgt := 34) hx hb d_Ki_bytes_5 (by decide) (by decide) (by decide) ?_
    refine lv_iconst (v := nI 3) hx hb d_Ki_bytes_34 (by decide) ?_
    exact eRi hx hb hr hlocks d_Ki_bytes_35 (by simp [kB, e])

set_option maxHeartbeats 4000000 in
set_option maxRecDepth 100000 in
theorem c_Ki_lowest (l : Launch) (dC : Nat → ClassId) (dI : Nat → Nat → Nat) (z : zT) (n : Nat) (hn : n < 4) : MR l y_Ki_lowest b_Ki_lowest 1 (some .int) 0 0 (dC, dI) z [.int (nI n)] [] [] (.int (iI (loN n))) := by
  refine metR (by decide) (Nat.le_of_ble_eq_true rfl) ?_
  intro p e s m below meth c ls hx hb hr hlocks hml hown ht hl hP hK hSS
  have hl : lv_has ls 1 [(0, .int (nI n))] := hl
  have hS : va_S (fun _ => False) s.heap s.heap [] := va_S.rf
  refine lv_iload_n hx hb d_Ki_lowest_0 rfl (lv_at hl 0 rfl) ?_
  refine lv_iconst (v := nI 2) hx hb d_Ki_lowest_1 (by decide) ?_
  refine z_icmp_ne (tgt := 10) hx hb d_Ki_lowest_2 (tI_n (by omega)) (tI_n (by omega)) (by decide) (fun g2 => ?_) (fun g2 => ?_)
  · refine lv_iconst (v := nI 0) hx hb d_Ki_lowest_10 (by decide) ?_
    exact eRi hx hb hr hlocks d_Ki_lowest_11 (by unfold loN; first | rw [if_pos (by omega)] | (rw [if_neg (by omega)]; rfl))
  · refine lv_bipush (v := iI (-128)) hx hb d_Ki_lowest_5 (by decide) ?_
    refine lv_goto (tgt := 11) hx hb d_Ki_lowest_7 (by decide) ?_
    exact eRi hx hb hr hlocks d_Ki_lowest_11 (by unfold loN; first | rw [if_pos (by omega)] | (rw [if_neg (by omega)]; rfl))

set_option maxHeartbeats 4000000 in
set_option maxRecDepth 100000 in
theorem c_Ki_highest (l : Launch) (dC : Nat → ClassId) (dI : Nat → Nat → Nat) (z : zT) (n : Nat) (hn : n < 4) : MR l y_Ki_highest b_Ki_highest 1 (some .int) 0 0 (dC, dI) z [.int (nI n)] [] [] (.int (iI (hiN n))) := by
  refine metR (by decide) (Nat.le_of_ble_eq_true rfl) ?_
  intro p e s m below meth c ls hx hb hr hlocks hml hown ht hl hP hK hSS
  have hl : lv_has ls 1 [(0, .int (nI n))] := hl
  have hS : va_S (fun _ => False) s.heap s.heap [] := va_S.rf
  refine lv_iload_n hx hb d_Ki_highest_0 rfl (lv_at hl 0 rfl) ?_
  rcases (show n = 0 ∨ n = 1 ∨ n = 2 ∨ n = 3 by omega) with e | e | e | e
  · subst e
    refine lv_lookup (off := 33) (tgt := 34) hx hb d_Ki_highest_1 (by decide) (by decide) (by decide) ?_
    refine lv_sipush (v := nI 255) hx hb d_Ki_highest_34 (by decide) ?_
    exact eRi hx hb hr hlocks d_Ki_highest_37 (by rfl)
  · subst e
    refine lv_lookup (off := 33) (tgt := 34) hx hb d_Ki_highest_1 (by decide) (by decide) (by decide) ?_
    refine lv_sipush (v := nI 255) hx hb d_Ki_highest_34 (by decide) ?_
    exact eRi hx hb hr hlocks d_Ki_highest_37 (by rfl)
  · subst e
    refine lv_lookup (off := 27) (tgt := 28) hx hb d_Ki_highest_1 (by decide) (by decide) (by decide) ?_
    refine lv_bipush (v := nI 127) hx hb d_Ki_highest_28 (by decide) ?_
    exact eRi hx hb hr hlocks d_Ki_highest_30 (by rfl)
  · subst e
    refine lv_lookup (off := 30) (tgt := 31) hx hb d_Ki_highest_1 (by decide) (by decide) (by decide) ?_
    refine lv_ldc (v := 65535) hx hb hown (ht _ k_443) d_Ki_highest_31 ?_
    refine eqi (y := nI 65535) (by decide) ?_
    exact eRi hx hb hr hlocks d_Ki_highest_33 (by rfl)

set_option maxHeartbeats 4000000 in
set_option maxRecDepth 100000 in
theorem c_Ki_fallsThrough (l : Launch) (dC : Nat → ClassId) (dI : Nat → Nat → Nat) (z : zT) (k : Nat) (hk : k < 14) : MR l y_Ki_fallsThrough b_Ki_fallsThrough 1 (some .boolean) 0 0 (dC, dI) z [.int (nI k)] [] [] (.int (bI (fallsB k))) := by
  refine metR (by decide) (Nat.le_of_ble_eq_true rfl) ?_
  intro p e s m below meth c ls hx hb hr hlocks hml hown ht hl hP hK hSS
  have hl : lv_has ls 1 [(0, .int (nI k))] := hl
  have hS : va_S (fun _ => False) s.heap s.heap [] := va_S.rf
  refine lv_iload_n hx hb d_Ki_fallsThrough_0 rfl (lv_at hl 0 rfl) ?_
  refine lv_iconst (v := nI 1) hx hb d_Ki_fallsThrough_1 (by decide) ?_
  refine z_icmp_eq (tgt := 20) hx hb d_Ki_fallsThrough_2 (tI_n (by omega)) (tI_n (by omega)) (by decide) (fun g2 => ?_) (fun g2 => ?_)
  · refine lv_iconst (v := nI 0) hx hb d_Ki_fallsThrough_20 (by decide) ?_
    refine eqi (y := bI false) (by decide) ?_
    exact eRz hx hb hr hlocks (bI_narrow _) d_Ki_fallsThrough_21 (bI_zero (by omega))
  · refine lv_iload_n hx hb d_Ki_fallsThrough_5 rfl (lv_at hl 0 rfl) ?_
    refine lv_iconst (v := nI 2) hx hb d_Ki_fallsThrough_6 (by decide) ?_
    refine z_icmp_eq (tgt := 20) hx hb d_Ki_fallsThrough_7 (tI_n (by omega)) (tI_n (by omega)) (by decide) (fun g7 => ?_) (fun g7 => ?_)
    · refine lv_iconst (v := nI 0) hx hb d_Ki_fallsThrough_20 (by decide) ?_
      refine eqi (y := bI false) (by decide) ?_
      exact eRz hx hb hr hlocks (bI_narrow _) d_Ki_fallsThrough_21 (bI_zero (by omega))
    · refine lv_iload_n hx hb d_Ki_fallsThrough_10 rfl (lv_at hl 0 rfl) ?_
      refine lv_bipush (v := nI 7) hx hb d_Ki_fallsThrough_11 (by decide) ?_
      refine z_icmp_eq (tgt := 20) hx hb d_Ki_fallsThrough_13 (tI_n (by omega)) (tI_n (by omega)) (by decide) (fun g13 => ?_) (fun g13 => ?_)
      · refine lv_iconst (v := nI 0) hx hb d_Ki_fallsThrough_20 (by decide) ?_
        refine eqi (y := bI false) (by decide) ?_
        exact eRz hx hb hr hlocks (bI_narrow _) d_Ki_fallsThrough_21 (bI_zero (by omega))
      · refine lv_iconst (v := nI 1) hx hb d_Ki_fallsThrough_16 (by decide) ?_
        refine lv_goto (tgt := 21) hx hb d_Ki_fallsThrough_17 (by decide) ?_
        refine eqi (y := bI true) (by decide) ?_
        exact eRz hx hb hr hlocks (bI_narrow _) d_Ki_fallsThrough_21 (bI_one (by omega))
