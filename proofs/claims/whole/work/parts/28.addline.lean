set_option maxHeartbeats 4000000 in
set_option maxRecDepth 100000 in
theorem c_Te_addLine (l : Launch) (dC : Nat → ClassId) (dI : Nat → Nat → Nat) (z : zT) (sz : Nat) (h : Nat) (q : Nat) (cc : ClassId) (s0 : txT) (r0 : rdT) (k : Nat) (g : Nat) (v : Int) (hs : s0.2 + 20 ≤ 2400) (hk : k < 14) (hg : g < 16) (hv1 : -65536 ≤ v) (hv2 : v ≤ 65536) : MU l y_Te_addLine b_Te_addLine 7 none 5 108 (dC, dI) z [.ref h, .int (nI k), .int (nI g), .int (iI v)] [(h, .inr (2, [.ref q, .int (nI s0.2), .int (nI r0.1), .int (bI r0.2)])), (q, .inl (cc, 2400, .inl (iN s0.1)))] [(cc, .char)] sz none [(h, .inr (2, [.ref q, .int (nI ((ap s0 (lnL k g v)).2)), .int (nI r0.1), .int (bI r0.2)])), (q, .inl (cc, 2400, .inl (iN ((ap s0 (lnL k g v)).1))))] := by
  have hop := op_bd k hk
  have hkr := kR_le k
  have hkn := kN_cases k hk
  have hcm2 := cm_len (kR k)
  refine metU (by decide) (Nat.le_of_ble_eq_true rfl) ?_
  intro p e s m below meth c ls A hx hb hr hlocks hml hown ht hl hP hK hSS hD hS hA
  have hl : lv_has ls 7 [(0, .ref h), (1, .int (nI k)), (2, .int (nI g)), (3, .int (iI v))] := hl
  refine lv_iload_n hx hb d_Te_addLine_0 rfl (lv_at hl 1 rfl) ?_
  refine rS (As := [.int (nI k)]) (rest := []) hx hb hml hown ht (c_Ki_opening l dC dI z k (by first | assumption | omega)) ys_Ki_opening k_268 (Nat.le_of_ble_eq_true rfl) (Nat.le_of_ble_eq_true rfl) hP hK hSS hS [] [] rfl rfl hl rfl rfl (Nat.le_of_ble_eq_true rfl) (Nat.zero_le _) (Nat.zero_le _) d_Te_addLine_1 ?_
  refine lv_astore (lv' := [(4, .ref (z.2.2.2.1 k)), (0, .ref h), (1, .int (nI k)), (2, .int (nI g)), (3, .int (iI v))]) hx hb d_Te_addLine_4 hl (Nat.le_of_ble_eq_true rfl) rfl (fun ls hl => ?_)
  refine lv_iconst (v := nI 0) hx hb d_Te_addLine_6 (by decide) ?_
  refine lv_istore (lv' := [(5, .int (nI 0)), (4, .ref (z.2.2.2.1 k)), (0, .ref h), (1, .int (nI k)), (2, .int (nI g)), (3, .int (iI v))]) hx hb d_Te_addLine_7 hl (Nat.le_of_ble_eq_true rfl) rfl (fun ls hl => ?_)
  have loop9 : ∀ (j : Nat) (i : Nat) (s1 : txT) (ls : Array Slot) (H : Heap) (locs : List Loc), (i + j = (opL k).length) → (ap s0 (opL k) = ap s1 ((opL k).drop i)) → (s1.2 = s0.2 + i) → lv_has ls 7 [(5, .int (nI i)), (4, .ref (z.2.2.2.1 k)), (0, .ref h), (1, .int (nI k)), (2, .int (nI g)), (3, .int (iI v))] → va_P (dC, dI) classes [(h, .inr (2, [.ref q, .int (nI s1.2), .int (nI r0.1), .int (bI r0.2)])), (q, .inl (cc, 2400, .inl (iN s1.1)))] H → va_D A [(h, .inr (2, [.ref q, .int (nI s1.2), .int (nI r0.1), .int (bI r0.2)])), (q, .inl (cc, 2400, .inl (iN s1.1)))] → va_S A s.heap H locs → W p l e (rmq 5 108) s m [.ref h, .int (nI k), .int (nI g), .int (iI v)].toArray below meth c H locs 0 0 (MQ below (qcU none (dC, dI) [(h, .inr (2, [.ref q, .int (nI ((ap s0 (lnL k g v)).2)), .int (nI r0.1), .int (bI r0.2)])), (q, .inl (cc, 2400, .inl (iN ((ap s0 (lnL k g v)).1))))] A) [.ref h, .int (nI k), .int (nI g), .int (iI v)].toArray s 0 0 A) (F0 m 9 ls []) := by
    intro j
    induction j with
    | zero =>
      intro i s1 ls H locs hi hR1 hl1 hl hP hD hS
      rw [List.drop_eq_nil_of_le (by omega)] at hR1
      have hR1 : ap s0 (opL k) = s1 := hR1
      refine lv_iload hx hb d_Te_addLine_9 (lv_at hl 0 rfl) ?_
      refine lv_aload hx hb d_Te_addLine_11 (lv_at hl 1 rfl) ?_
      refine rVK (As := []) (rest := [.int (nI i)]) hx hb hml hown ht (c_St_length l dC dI z k (by first | assumption | omega)) yv_St_length k_285 (Nat.le_of_ble_eq_true rfl) (Nat.le_of_ble_eq_true rfl) hP hK hSS hS [] [] rfl rfl (vk_recv hSS.2.2.2.2.2.1 hk hS) hl rfl rfl (Nat.le_of_ble_eq_true rfl) (Nat.zero_le _) (Nat.zero_le _) d_Te_addLine_13 ?_
      refine z_icmp_ge (tgt := 36) hx hb d_Te_addLine_16 (tI_n (by omega)) (tI_n (by omega)) (by decide) (fun g16 => ?_) (fun g16 => ?_)
      · refine lv_iload_n hx hb d_Te_addLine_36 rfl (lv_at hl 3 rfl) ?_
        refine rS (As := [.int (nI k)]) (rest := []) hx hb hml hown ht (c_Ki_registers l dC dI z k (by first | assumption | omega)) ys_Ki_registers k_342 (Nat.le_of_ble_eq_true rfl) (Nat.le_of_ble_eq_true rfl) hP hK hSS hS [] [] rfl rfl hl rfl rfl (Nat.le_of_ble_eq_true rfl) (Nat.zero_le _) (Nat.zero_le _) d_Te_addLine_37 ?_
        refine lv_istore (lv' := [(5, .int (nI (kR k))), (4, .ref (z.2.2.2.1 k)), (0, .ref h), (1, .int (nI k)), (2, .int (nI g)), (3, .int (iI v))]) hx hb d_Te_addLine_40 hl (Nat.le_of_ble_eq_true rfl) rfl (fun ls hl => ?_)
        refine lv_iconst (v := nI 0) hx hb d_Te_addLine_42 (by decide) ?_
        refine lv_istore (lv' := [(6, .int (nI 0)), (5, .int (nI (kR k))), (4, .ref (z.2.2.2.1 k)), (0, .ref h), (1, .int (nI k)), (2, .int (nI g)), (3, .int (iI v))]) hx hb d_Te_addLine_43 hl (Nat.le_of_ble_eq_true rfl) rfl (fun ls hl => ?_)
        have loop45 : ∀ (j : Nat) (i2 : Nat) (s2 : txT) (ls : Array Slot) (H : Heap) (locs : List Loc), (i2 + j = kR k) → (ap s1 (rgL k g) = ap s2 (rgF (kR k) g j i2)) → (s2.2 + 3 * j ≤ s1.2 + 6) → lv_has ls 7 [(6, .int (nI i2)), (5, .int (nI (kR k))), (4, .ref (z.2.2.2.1 k)), (0, .ref h), (1, .int (nI k)), (2, .int (nI g)), (3, .int (iI v))] → va_P (dC, dI) classes [(h, .inr (2, [.ref q, .int (nI s2.2), .int (nI r0.1), .int (bI r0.2)])), (q, .inl (cc, 2400, .inl (iN s2.1)))] H → va_D A [(h, .inr (2, [.ref q, .int (nI s2.2), .int (nI r0.1), .int (bI r0.2)])), (q, .inl (cc, 2400, .inl (iN s2.1)))] → va_S A s.heap H locs → W p l e (rmq 5 108) s m [.ref h, .int (nI k), .int (nI g), .int (iI v)].toArray below meth c H locs 0 0 (MQ below (qcU none (dC, dI) [(h, .inr (2, [.ref q, .int (nI ((ap s0 (lnL k g v)).2)), .int (nI r0.1), .int (bI r0.2)])), (q, .inl (cc, 2400, .inl (iN ((ap s0 (lnL k g v)).1))))] A) [.ref h, .int (nI k), .int (nI g), .int (iI v)].toArray s 0 0 A) (F0 m 45 ls []) := by
          intro j
          induction j with
          | zero =>
            intro i2 s2 ls H locs hi2 hR2 hl2 hl hP hD hS
            have hR2 : ap s1 (rgL k g) = s2 := hR2
            refine lv_iload hx hb d_Te_addLine_45 (lv_at hl 0 rfl) ?_
            refine lv_iload hx hb d_Te_addLine_47 (lv_at hl 1 rfl) ?_
            refine z_icmp_ge (tgt := 87) hx hb d_Te_addLine_49 (tI_n (by omega)) (tI_n (by omega)) (by decide) (fun g49 => ?_) (fun g49 => ?_)
            · have cut105 : ∀  (s3 : txT) (ls : Array Slot) (H : Heap) (locs : List Loc), (ap s2 (if kN k = 0 then [] else cmL (kR k) ++ nuL v) = s3) → (s3.2 ≤ s2.2 + 7) → lv_has ls 7 [(6, .int (nI i2)), (5, .int (nI (kR k))), (4, .ref (z.2.2.2.1 k)), (0, .ref h), (1, .int (nI k)), (2, .int (nI g)), (3, .int (iI v))] → va_P (dC, dI) classes [(h, .inr (2, [.ref q, .int (nI s3.2), .int (nI r0.1), .int (bI r0.2)])), (q, .inl (cc, 2400, .inl (iN s3.1)))] H → va_D A [(h, .inr (2, [.ref q, .int (nI s3.2), .int (nI r0.1), .int (bI r0.2)])), (q, .inl (cc, 2400, .inl (iN s3.1)))] → va_S A s.heap H locs → W p l e (rmq 5 108) s m [.ref h, .int (nI k), .int (nI g), .int (iI v)].toArray below meth c H locs 0 0 (MQ below (qcU none (dC, dI) [(h, .inr (2, [.ref q, .int (nI ((ap s0 (lnL k g v)).2)), .int (nI r0.1), .int (bI r0.2)])), (q, .inl (cc, 2400, .inl (iN ((ap s0 (lnL k g v)).1))))] A) [.ref h, .int (nI k), .int (nI g), .int (iI v)].toArray s 0 0 A) (F0 m 105 ls []) := by
                intro s3 ls H locs hR3 hl3 hl hP hD hS
                refine lv_aload_n hx hb d_Te_addLine_105 rfl (lv_at hl 3 rfl) ?_
                refine lv_bipush (v := nI 10) hx hb d_Te_addLine_106 (by decide) ?_
                refine uV (As := [.int (nI 10)]) (rest := []) (wr := []) hx hb hml hown ht (c_Te_add l dC dI z _ h q cc s3 r0 10 (by first | assumption | omega) (by first | assumption | omega)) yv_Te_add k_333 (Nat.le_of_ble_eq_true rfl) (Nat.le_of_ble_eq_true rfl) hP hK hSS hD hS hA [0, 1] [] [0] rfl rfl (by decide) rfl (by decide) (by decide) rfl 0 2 rfl rfl rfl hl rfl rfl (Nat.le_of_ble_eq_true rfl) (Nat.zero_le _) (Nat.zero_le _) d_Te_addLine_108 (fun H locs hP hD hS => ?_)
                have hP : va_P (dC, dI) classes [(h, .inr (2, [.ref q, .int (nI ((ap1 s3 10).2)), .int (nI r0.1), .int (bI r0.2)])), (q, .inl (cc, 2400, .inl (iN ((ap1 s3 10).1))))] H := hP
                have hD : va_D A [(h, .inr (2, [.ref q, .int (nI ((ap1 s3 10).2)), .int (nI r0.1), .int (bI r0.2)])), (q, .inl (cc, 2400, .inl (iN ((ap1 s3 10).1))))] := hD
                refine stk (st2 := []) rfl ?_
                rw [lnL, ap_app, ap_app, ap_app, hR1, hR2, hR3]
                exact eUv hx hb hr hlocks hP hD hS [0, 1] rfl rfl (by decide) d_Te_addLine_111
              refine lv_iload_n hx hb d_Te_addLine_87 rfl (lv_at hl 4 rfl) ?_
              refine rS (As := [.int (nI k)]) (rest := []) hx hb hml hown ht (c_Ki_number l dC dI z k (by first | assumption | omega)) ys_Ki_number k_353 (Nat.le_of_ble_eq_true rfl) (Nat.le_of_ble_eq_true rfl) hP hK hSS hS [] [] rfl rfl hl rfl rfl (Nat.le_of_ble_eq_true rfl) (Nat.zero_le _) (Nat.zero_le _) d_Te_addLine_88 ?_
              refine z_if_eq (tgt := 105) hx hb d_Te_addLine_91 (tI_n (by omega)) (by decide) (fun g91 => ?_) (fun g91 => ?_)
              · exact cut105 s2 _ _ _ (by rw [if_pos (by omega)]; rfl) (by omega) (lv_sub hl [0, 1, 2, 3, 4, 5, 6] rfl) (hP.sub [0, 1] rfl) (hD.sub [0, 1] (by decide) rfl) hS
              · have hal2 : (ap s2 (cmL (kR k))).2 = s2.2 + (cmL (kR k)).length := ap_len _ _
                refine lv_aload_n hx hb d_Te_addLine_94 rfl (lv_at hl 3 rfl) ?_
                refine lv_iload hx hb d_Te_addLine_95 (lv_at hl 1 rfl) ?_
                refine uV (As := [.int (nI (kR k))]) (rest := []) (wr := []) hx hb hml hown ht (c_Te_addComma l dC dI z _ h q cc s2 r0 (kR k) (by first | assumption | omega) (by omega)) yv_Te_addComma k_345 (Nat.le_of_ble_eq_true rfl) (Nat.le_of_ble_eq_true rfl) hP hK hSS hD hS hA [0, 1] [] [0] rfl rfl (by decide) rfl (by decide) (by decide) rfl 0 2 rfl rfl rfl hl rfl rfl (Nat.le_of_ble_eq_true rfl) (Nat.zero_le _) (Nat.zero_le _) d_Te_addLine_97 (fun H locs hP hD hS => ?_)
                have hP : va_P (dC, dI) classes [(h, .inr (2, [.ref q, .int (nI ((ap s2 (cmL (kR k))).2)), .int (nI r0.1), .int (bI r0.2)])), (q, .inl (cc, 2400, .inl (iN ((ap s2 (cmL (kR k))).1))))] H := hP
                have hD : va_D A [(h, .inr (2, [.ref q, .int (nI ((ap s2 (cmL (kR k))).2)), .int (nI r0.1), .int (bI r0.2)])), (q, .inl (cc, 2400, .inl (iN ((ap s2 (cmL (kR k))).1))))] := hD
                refine stk (st2 := []) rfl ?_
                refine lv_aload_n hx hb d_Te_addLine_100 rfl (lv_at hl 3 rfl) ?_
                refine lv_iload_n hx hb d_Te_addLine_101 rfl (lv_at hl 6 rfl) ?_
                refine uV (As := [.int (iI v)]) (rest := []) (wr := []) hx hb hml hown ht (c_Te_addNumber l dC dI z _ h q cc (ap s2 (cmL (kR k))) r0 v (by first | assumption | omega) (by first | assumption | omega) (by first | assumption | omega)) yv_Te_addNumber k_354 (Nat.le_of_ble_eq_true rfl) (Nat.le_of_ble_eq_true rfl) hP hK hSS hD hS hA [0, 1] [] [0] rfl rfl (by decide) rfl (by decide) (by decide) rfl 0 2 rfl rfl rfl hl rfl rfl (Nat.le_of_ble_eq_true rfl) (Nat.zero_le _) (Nat.zero_le _) d_Te_addLine_102 (fun H locs hP hD hS => ?_)
                have hP : va_P (dC, dI) classes [(h, .inr (2, [.ref q, .int (nI ((ap (ap s2 (cmL (kR k))) (nuL v)).2)), .int (nI r0.1), .int (bI r0.2)])), (q, .inl (cc, 2400, .inl (iN ((ap (ap s2 (cmL (kR k))) (nuL v)).1))))] H := hP
                have hD : va_D A [(h, .inr (2, [.ref q, .int (nI ((ap (ap s2 (cmL (kR k))) (nuL v)).2)), .int (nI r0.1), .int (bI r0.2)])), (q, .inl (cc, 2400, .inl (iN ((ap (ap s2 (cmL (kR k))) (nuL v)).1))))] := hD
                refine stk (st2 := []) rfl ?_
                exact cut105 (ap (ap s2 (cmL (kR k))) (nuL v)) _ _ _ (by rw [if_neg (by omega), ap_app]) (by rw [ap_len, ap_len]; have := (nuL_len hv1 hv2).1; omega) (lv_sub hl [0, 1, 2, 3, 4, 5, 6] rfl) (hP.sub [0, 1] rfl) (hD.sub [0, 1] (by decide) rfl) hS
            · exfalso; omega
          | succ j ih =>
            intro i2 s2 ls H locs hi2 hR2 hl2 hl hP hD hS
            have hcm := cm_len i2
            have hal : (ap s2 (cmL i2)).2 = s2.2 + (cmL i2).length := ap_len _ _
            have hal3 : (ap1 (ap s2 (cmL i2)) 114).2 = (ap s2 (cmL i2)).2 + 1 := rfl
            refine lv_iload hx hb d_Te_addLine_45 (lv_at hl 0 rfl) ?_
            refine lv_iload hx hb d_Te_addLine_47 (lv_at hl 1 rfl) ?_
            refine z_icmp_ge (tgt := 87) hx hb d_Te_addLine_49 (tI_n (by omega)) (tI_n (by omega)) (by decide) (fun g49 => ?_) (fun g49 => ?_)
            · exfalso; omega
            · refine lv_aload_n hx hb d_Te_addLine_52 rfl (lv_at hl 3 rfl) ?_
              refine lv_iload hx hb d_Te_addLine_53 (lv_at hl 0 rfl) ?_
              refine uV (As := [.int (nI i2)]) (rest := []) (wr := []) hx hb hml hown ht (c_Te_addComma l dC dI z _ h q cc s2 r0 i2 (by first | assumption | omega) (by first | assumption | omega)) yv_Te_addComma k_345 (Nat.le_of_ble_eq_true rfl) (Nat.le_of_ble_eq_true rfl) hP hK hSS hD hS hA [0, 1] [] [0] rfl rfl (by decide) rfl (by decide) (by decide) rfl 0 2 rfl rfl rfl hl rfl rfl (Nat.le_of_ble_eq_true rfl) (Nat.zero_le _) (Nat.zero_le _) d_Te_addLine_55 (fun H locs hP hD hS => ?_)
              have hP : va_P (dC, dI) classes [(h, .inr (2, [.ref q, .int (nI ((ap s2 (cmL i2)).2)), .int (nI r0.1), .int (bI r0.2)])), (q, .inl (cc, 2400, .inl (iN ((ap s2 (cmL i2)).1))))] H := hP
              have hD : va_D A [(h, .inr (2, [.ref q, .int (nI ((ap s2 (cmL i2)).2)), .int (nI r0.1), .int (bI r0.2)])), (q, .inl (cc, 2400, .inl (iN ((ap s2 (cmL i2)).1))))] := hD
              refine stk (st2 := []) rfl ?_
              refine lv_aload_n hx hb d_Te_addLine_58 rfl (lv_at hl 3 rfl) ?_
              refine lv_bipush (v := nI 114) hx hb d_Te_addLine_59 (by decide) ?_
              refine uV (As := [.int (nI 114)]) (rest := []) (wr := []) hx hb hml hown ht (c_Te_add l dC dI z _ h q cc (ap s2 (cmL i2)) r0 114 (by first | assumption | omega) (by first | assumption | omega)) yv_Te_add k_333 (Nat.le_of_ble_eq_true rfl) (Nat.le_of_ble_eq_true rfl) hP hK hSS hD hS hA [0, 1] [] [0] rfl rfl (by decide) rfl (by decide) (by decide) rfl 0 2 rfl rfl rfl hl rfl rfl (Nat.le_of_ble_eq_true rfl) (Nat.zero_le _) (Nat.zero_le _) d_Te_addLine_61 (fun H locs hP hD hS => ?_)
              have hP : va_P (dC, dI) classes [(h, .inr (2, [.ref q, .int (nI ((ap1 (ap s2 (cmL i2)) 114).2)), .int (nI r0.1), .int (bI r0.2)])), (q, .inl (cc, 2400, .inl (iN ((ap1 (ap s2 (cmL i2)) 114).1))))] H := hP
              have hD : va_D A [(h, .inr (2, [.ref q, .int (nI ((ap1 (ap s2 (cmL i2)) 114).2)), .int (nI r0.1), .int (bI r0.2)])), (q, .inl (cc, 2400, .inl (iN ((ap1 (ap s2 (cmL i2)) 114).1))))] := hD
              refine stk (st2 := []) rfl ?_
              refine lv_aload_n hx hb d_Te_addLine_64 rfl (lv_at hl 3 rfl) ?_
              refine lv_iload_n hx hb d_Te_addLine_65 rfl (lv_at hl 5 rfl) ?_
              refine lv_iconst (v := nI 2) hx hb d_Te_addLine_66 (by decide) ?_
              refine lv_iload hx hb d_Te_addLine_67 (lv_at hl 1 rfl) ?_
              refine lv_iconst (v := nI 1) hx hb d_Te_addLine_69 (by decide) ?_
              refine nSub hx hb d_Te_addLine_70 (by omega) ?_
              refine lv_iload hx hb d_Te_addLine_71 (lv_at hl 0 rfl) ?_
              refine nSub hx hb d_Te_addLine_73 (by omega) ?_
              refine nMul hx hb d_Te_addLine_74 ?_
              refine lv_ishr hx hb d_Te_addLine_75 ?_
              refine lv_iconst (v := nI 3) hx hb d_Te_addLine_76 (by decide) ?_
              refine lv_iand hx hb d_Te_addLine_77 ?_
              refine eqi (y := nI (g / 4 ^ (kR k - 1 - i2) % 4)) (shr3 hg (by omega)) ?_
              refine uV (As := [.int (nI (g / 4 ^ (kR k - 1 - i2) % 4))]) (rest := []) (wr := []) hx hb hml hown ht (c_Te_addDigit l dC dI z _ h q cc (ap1 (ap s2 (cmL i2)) 114) r0 (g / 4 ^ (kR k - 1 - i2) % 4) (by first | assumption | omega) (by first | assumption | omega)) yv_Te_addDigit k_349 (Nat.le_of_ble_eq_true rfl) (Nat.le_of_ble_eq_true rfl) hP hK hSS hD hS hA [0, 1] [] [0] rfl rfl (by decide) rfl (by decide) (by decide) rfl 0 2 rfl rfl rfl hl rfl rfl (Nat.le_of_ble_eq_true rfl) (Nat.zero_le _) (Nat.zero_le _) d_Te_addLine_78 (fun H locs hP hD hS => ?_)
              have hP : va_P (dC, dI) classes [(h, .inr (2, [.ref q, .int (nI ((ap1 (ap1 (ap s2 (cmL i2)) 114) (48 + (g / 4 ^ (kR k - 1 - i2) % 4))).2)), .int (nI r0.1), .int (bI r0.2)])), (q, .inl (cc, 2400, .inl (iN ((ap1 (ap1 (ap s2 (cmL i2)) 114) (48 + (g / 4 ^ (kR k - 1 - i2) % 4))).1))))] H := hP
              have hD : va_D A [(h, .inr (2, [.ref q, .int (nI ((ap1 (ap1 (ap s2 (cmL i2)) 114) (48 + (g / 4 ^ (kR k - 1 - i2) % 4))).2)), .int (nI r0.1), .int (bI r0.2)])), (q, .inl (cc, 2400, .inl (iN ((ap1 (ap1 (ap s2 (cmL i2)) 114) (48 + (g / 4 ^ (kR k - 1 - i2) % 4))).1))))] := hD
              refine stk (st2 := []) rfl ?_
              refine lv_iinc (k := 0) (v := nI (i2 + 1)) (lv' := [(6, .int (nI (i2 + 1))), (5, .int (nI (kR k))), (4, .ref (z.2.2.2.1 k)), (0, .ref h), (1, .int (nI k)), (2, .int (nI g)), (3, .int (iI v))]) hx hb d_Te_addLine_81 hl rfl (nI_inc1 _) (Nat.le_of_ble_eq_true rfl) rfl (fun ls hl => ?_)
              refine lv_goto (tgt := 45) hx hb d_Te_addLine_84 (by decide) ?_
              exact ih (i2 + 1) (ap1 (ap1 (ap s2 (cmL i2)) 114) (48 + (g / 4 ^ (kR k - 1 - i2) % 4))) _ _ _ (by omega) (by rw [hR2, rgF, ap_app, ap_app]; rfl) (by show (ap s2 (cmL i2)).2 + 1 + 1 + 3 * j ≤ _; rw [ap_len]; omega) (lv_sub hl [0, 1, 2, 3, 4, 5, 6] rfl) (hP.sub [0, 1] rfl) (hD.sub [0, 1] (by decide) rfl) hS
        exact loop45 (kR k) 0 s1 _ _ _ (Nat.zero_add _) (rfl) (by omega) (lv_sub hl [0, 1, 2, 3, 4, 5, 6] rfl) (hP.sub [0, 1] rfl) (hD.sub [0, 1] (by decide) rfl) hS
      · exfalso; omega
    | succ j ih =>
      intro i s1 ls H locs hi hR1 hl1 hl hP hD hS
      have hch := hop.2.2 i (by omega)
      refine lv_iload hx hb d_Te_addLine_9 (lv_at hl 0 rfl) ?_
      refine lv_aload hx hb d_Te_addLine_11 (lv_at hl 1 rfl) ?_
      refine rVK (As := []) (rest := [.int (nI i)]) hx hb hml hown ht (c_St_length l dC dI z k (by first | assumption | omega)) yv_St_length k_285 (Nat.le_of_ble_eq_true rfl) (Nat.le_of_ble_eq_true rfl) hP hK hSS hS [] [] rfl rfl (vk_recv hSS.2.2.2.2.2.1 hk hS) hl rfl rfl (Nat.le_of_ble_eq_true rfl) (Nat.zero_le _) (Nat.zero_le _) d_Te_addLine_13 ?_
      refine z_icmp_ge (tgt := 36) hx hb d_Te_addLine_16 (tI_n (by omega)) (tI_n (by omega)) (by decide) (fun g16 => ?_) (fun g16 => ?_)
      · exfalso; omega
      · refine lv_aload_n hx hb d_Te_addLine_19 rfl (lv_at hl 2 rfl) ?_
        refine lv_aload hx hb d_Te_addLine_20 (lv_at hl 1 rfl) ?_
        refine lv_iload hx hb d_Te_addLine_22 (lv_at hl 0 rfl) ?_
        refine rVK (As := [.int (nI i)]) (rest := [.ref h]) hx hb hml hown ht (c_St_charAt l dC dI z k i (by first | assumption | omega) (by omega)) yv_St_charAt k_295 (Nat.le_of_ble_eq_true rfl) (Nat.le_of_ble_eq_true rfl) hP hK hSS hS [] [] rfl rfl (vk_recv hSS.2.2.2.2.2.1 hk hS) hl rfl rfl (Nat.le_of_ble_eq_true rfl) (Nat.zero_le _) (Nat.zero_le _) d_Te_addLine_24 ?_
        refine uV (As := [.int (nI ((opL k).getD i 0))]) (rest := []) (wr := []) hx hb hml hown ht (c_Te_add l dC dI z _ h q cc s1 r0 ((opL k).getD i 0) (by first | assumption | omega) (by first | assumption | omega)) yv_Te_add k_333 (Nat.le_of_ble_eq_true rfl) (Nat.le_of_ble_eq_true rfl) hP hK hSS hD hS hA [0, 1] [] [0] rfl rfl (by decide) rfl (by decide) (by decide) rfl 0 2 rfl rfl rfl hl rfl rfl (Nat.le_of_ble_eq_true rfl) (Nat.zero_le _) (Nat.zero_le _) d_Te_addLine_27 (fun H locs hP hD hS => ?_)
        have hP : va_P (dC, dI) classes [(h, .inr (2, [.ref q, .int (nI ((ap1 s1 ((opL k).getD i 0)).2)), .int (nI r0.1), .int (bI r0.2)])), (q, .inl (cc, 2400, .inl (iN ((ap1 s1 ((opL k).getD i 0)).1))))] H := hP
        have hD : va_D A [(h, .inr (2, [.ref q, .int (nI ((ap1 s1 ((opL k).getD i 0)).2)), .int (nI r0.1), .int (bI r0.2)])), (q, .inl (cc, 2400, .inl (iN ((ap1 s1 ((opL k).getD i 0)).1))))] := hD
        refine stk (st2 := []) rfl ?_
        refine lv_iinc (k := 0) (v := nI (i + 1)) (lv' := [(5, .int (nI (i + 1))), (4, .ref (z.2.2.2.1 k)), (0, .ref h), (1, .int (nI k)), (2, .int (nI g)), (3, .int (iI v))]) hx hb d_Te_addLine_30 hl rfl (nI_inc1 _) (Nat.le_of_ble_eq_true rfl) rfl (fun ls hl => ?_)
        refine lv_goto (tgt := 9) hx hb d_Te_addLine_33 (by decide) ?_
        exact ih (i + 1) (ap1 s1 ((opL k).getD i 0)) _ _ _ (by omega) (by rw [hR1, drop_c (by omega)]; rfl) (by show s1.2 + 1 = _; omega) (lv_sub hl [0, 1, 2, 3, 4, 5] rfl) (hP.sub [0, 1] rfl) (hD.sub [0, 1] (by decide) rfl) hS
  exact loop9 ((opL k).length) 0 s0 _ _ _ (Nat.zero_add _) (rfl) (rfl) (lv_sub hl [0, 1, 2, 3, 4, 5] rfl) (hP.sub [0, 1] rfl) (hD.sub [0, 1] (by decide) rfl) hS
