set_option maxHeartbeats 4000000 in
set_option maxRecDepth 100000 in
theorem c_Mo_assemble (l : Launch) (dC : Nat → ClassId) (dI : Nat → Nat → Nat) (z : zT) (sz : Nat) (o : Nat) (gi : Nat) (ge : Nat) (gt : Nat) (go : Nat) (gb : Nat) (gm : Nat) (gl : Nat) (i0 : txT) (e0 : txT) (t0 : txT) (mk : Nat) (L0 : txT) (ct : ClassId) (co : ClassId) (md : Nat → Int32) (cb2 : ClassId) (by0 : Nat → Int32) (cl : ClassId) (hs : t0.2 ≤ 2400) (ht8 : ∀ i, t0.1 i < 256) : MX l y_Mo_assemble b_Mo_assemble 10 (some .int) 5 114 (dC, dI) z [.ref o] [(o, .inr (5, [.ref gi, .ref ge, .ref gt, .ref go, .ref gb, .ref gm, .ref gl, .int (nI i0.2), .int (nI e0.2), .int (nI t0.2), .int (nI mk), .int (nI L0.2)])), (gt, .inl (ct, 2400, .inl (iN t0.1))), (go, .inl (co, 160, .inl md)), (gb, .inl (cb2, 160, .inl by0)), (gl, .inl (cl, 32, .inl (iN L0.1)))] [(ct, .int), (co, .int), (cb2, .int), (cl, .int)] sz (fun _ : txT × (Nat → Int32) => some (.int (iI (maR (masF t0.1 t0.2 2400 0 (by0, 0)))))) (fun u : txT × (Nat → Int32) => True) (fun u : txT × (Nat → Int32) => [(o, .inr (5, [.ref gi, .ref ge, .ref gt, .ref go, .ref gb, .ref gm, .ref gl, .int (nI i0.2), .int (nI e0.2), .int (nI t0.2), .int (nI (maK (masF t0.1 t0.2 2400 0 (by0, 0)) mk)), .int (nI u.1.2)])), (gt, .inl (ct, 2400, .inl (iN t0.1))), (go, .inl (co, 160, .inl (maM (masF t0.1 t0.2 2400 0 (by0, 0)) md))), (gb, .inl (cb2, 160, .inl u.2)), (gl, .inl (cl, 32, .inl (iN u.1.1)))]) := by
  refine metX (by decide) (Nat.le_of_ble_eq_true rfl) ?_
  intro p e s m below meth c ls A hx hb hr hlocks hml hown ht hl hP hK hSS hD hS hA
  have hl : lv_has ls 10 [(0, .ref o)] := hl
  refine lv_iconst (v := nI 0) hx hb d_Mo_assemble_0 (by decide) ?_
  refine lv_istore_n (lv' := [(1, .int (nI 0)), (0, .ref o)]) hx hb d_Mo_assemble_1 rfl hl (Nat.le_of_ble_eq_true rfl) rfl (fun ls hl => ?_)
  refine lv_iconst (v := nI 0) hx hb d_Mo_assemble_2 (by decide) ?_
  refine lv_istore_n (lv' := [(2, .int (nI 0)), (1, .int (nI 0)), (0, .ref o)]) hx hb d_Mo_assemble_3 rfl hl (Nat.le_of_ble_eq_true rfl) rfl (fun ls hl => ?_)
  refine lv_iconst (v := nI 0) hx hb d_Mo_assemble_4 (by decide) ?_
  refine lv_istore_n (lv' := [(3, .int (nI 0)), (2, .int (nI 0)), (1, .int (nI 0)), (0, .ref o)]) hx hb d_Mo_assemble_5 rfl hl (Nat.le_of_ble_eq_true rfl) rfl (fun ls hl => ?_)
  have loop6 : ∀ (j : Nat) (i : Nat) (p1 : Nat) (s1 : abT) (L1 : txT) (ls : Array Slot) (H : Heap) (locs : List Loc), (i + j = 2400) → ((masF t0.1 t0.2 2400 0 (by0, 0)) = masF t0.1 t0.2 j p1 s1) → (p1 ≤ t0.2) → (s1.2 ≤ 3 * i) → lv_has ls 10 [(3, .int (nI i)), (2, .int (nI p1)), (1, .int (nI s1.2)), (0, .ref o)] → va_P (dC, dI) classes [(o, .inr (5, [.ref gi, .ref ge, .ref gt, .ref go, .ref gb, .ref gm, .ref gl, .int (nI i0.2), .int (nI e0.2), .int (nI t0.2), .int (nI mk), .int (nI L1.2)])), (gt, .inl (ct, 2400, .inl (iN t0.1))), (go, .inl (co, 160, .inl md)), (gb, .inl (cb2, 160, .inl s1.1)), (gl, .inl (cl, 32, .inl (iN L1.1)))] H → va_D A [(o, .inr (5, [.ref gi, .ref ge, .ref gt, .ref go, .ref gb, .ref gm, .ref gl, .int (nI i0.2), .int (nI e0.2), .int (nI t0.2), .int (nI mk), .int (nI L1.2)])), (gt, .inl (ct, 2400, .inl (iN t0.1))), (go, .inl (co, 160, .inl md)), (gb, .inl (cb2, 160, .inl s1.1)), (gl, .inl (cl, 32, .inl (iN L1.1)))] → va_S A s.heap H locs → W p l e (rmq 5 114) s m [.ref o].toArray below meth c H locs 0 0 (MQ below (qcX (fun _ : txT × (Nat → Int32) => some (.int (iI (maR (masF t0.1 t0.2 2400 0 (by0, 0)))))) (dC, dI) (fun u : txT × (Nat → Int32) => True) (fun u : txT × (Nat → Int32) => [(o, .inr (5, [.ref gi, .ref ge, .ref gt, .ref go, .ref gb, .ref gm, .ref gl, .int (nI i0.2), .int (nI e0.2), .int (nI t0.2), .int (nI (maK (masF t0.1 t0.2 2400 0 (by0, 0)) mk)), .int (nI u.1.2)])), (gt, .inl (ct, 2400, .inl (iN t0.1))), (go, .inl (co, 160, .inl (maM (masF t0.1 t0.2 2400 0 (by0, 0)) md))), (gb, .inl (cb2, 160, .inl u.2)), (gl, .inl (cl, 32, .inl (iN u.1.1)))]) A) [.ref o].toArray s 0 0 A) (F0 m 6 ls []) := by
    intro j
    induction j with
    | zero =>
      intro i p1 s1 L1 ls H locs hi hR hp hcn hl hP hD hS
      have hRe : (masF t0.1 t0.2 2400 0 (by0, 0)) = some s1 := hR
      refine lv_iload_n hx hb d_Mo_assemble_6 rfl (lv_at hl 0 rfl) ?_
      refine lv_sipush (v := nI 2400) hx hb d_Mo_assemble_7 (by decide) ?_
      refine z_icmp_ge (tgt := 176) hx hb d_Mo_assemble_10 (tI_n (by omega)) (tI_n (by omega)) (by decide) (fun g10 => ?_) (fun g10 => ?_)
      · refine lv_iload_n hx hb d_Mo_assemble_176 rfl (lv_at hl 2 rfl) ?_
        refine lv_sipush (v := nI 160) hx hb d_Mo_assemble_177 (by decide) ?_
        refine z_icmp_le (tgt := 186) hx hb d_Mo_assemble_180 (tI_n (by omega)) (tI_n (by omega)) (by decide) (fun g180 => ?_) (fun g180 => ?_)
        · refine lv_aload_n hx hb d_Mo_assemble_186 rfl (lv_at hl 3 rfl) ?_
          refine lv_iload_n hx hb d_Mo_assemble_187 rfl (lv_at hl 2 rfl) ?_
          refine va_put (D := (dC, dI)) (ci := 5) (v := .int (nI s1.2)) (ty := .int) (C := R_Mo) (T := F_Mo) (N := 12) hx hb ht in_Mo t_Mo t_Mo_ok n_Mo hown hK hP hD hS 0 rfl rfl 10 (by decide) (ht _ k_501) (fun _ h9 => h9) rfl (by decide +kernel) rfl rfl (Nat.le_of_ble_eq_true rfl) d_Mo_assemble_188 (fun H locs hP hD hS => ?_)
          have hP : va_P (dC, dI) classes [(o, .inr (5, [.ref gi, .ref ge, .ref gt, .ref go, .ref gb, .ref gm, .ref gl, .int (nI i0.2), .int (nI e0.2), .int (nI t0.2), .int (nI s1.2), .int (nI L1.2)])), (gt, .inl (ct, 2400, .inl (iN t0.1))), (go, .inl (co, 160, .inl md)), (gb, .inl (cb2, 160, .inl s1.1)), (gl, .inl (cl, 32, .inl (iN L1.1)))] H := hP
          have hD : va_D A [(o, .inr (5, [.ref gi, .ref ge, .ref gt, .ref go, .ref gb, .ref gm, .ref gl, .int (nI i0.2), .int (nI e0.2), .int (nI t0.2), .int (nI s1.2), .int (nI L1.2)])), (gt, .inl (ct, 2400, .inl (iN t0.1))), (go, .inl (co, 160, .inl md)), (gb, .inl (cb2, 160, .inl s1.1)), (gl, .inl (cl, 32, .inl (iN L1.1)))] := hD
          refine lv_iconst (v := nI 0) hx hb d_Mo_assemble_191 (by decide) ?_
          refine lv_istore_n (lv' := [(3, .int (nI 0)), (2, .int (nI p1)), (1, .int (nI s1.2)), (0, .ref o)]) hx hb d_Mo_assemble_192 rfl hl (Nat.le_of_ble_eq_true rfl) rfl (fun ls hl => ?_)
          have loop193 : ∀ (j : Nat) (i2 : Nat) (g : Nat → Int32) (ls : Array Slot) (H : Heap) (locs : List Loc), (i2 + j = s1.2) → (∀ x, g x = if x < i2 then s1.1 x else md x) → lv_has ls 10 [(3, .int (nI i2)), (2, .int (nI p1)), (1, .int (nI s1.2)), (0, .ref o)] → va_P (dC, dI) classes [(o, .inr (5, [.ref gi, .ref ge, .ref gt, .ref go, .ref gb, .ref gm, .ref gl, .int (nI i0.2), .int (nI e0.2), .int (nI t0.2), .int (nI s1.2), .int (nI L1.2)])), (gt, .inl (ct, 2400, .inl (iN t0.1))), (go, .inl (co, 160, .inl g)), (gb, .inl (cb2, 160, .inl s1.1)), (gl, .inl (cl, 32, .inl (iN L1.1)))] H → va_D A [(o, .inr (5, [.ref gi, .ref ge, .ref gt, .ref go, .ref gb, .ref gm, .ref gl, .int (nI i0.2), .int (nI e0.2), .int (nI t0.2), .int (nI s1.2), .int (nI L1.2)])), (gt, .inl (ct, 2400, .inl (iN t0.1))), (go, .inl (co, 160, .inl g)), (gb, .inl (cb2, 160, .inl s1.1)), (gl, .inl (cl, 32, .inl (iN L1.1)))] → va_S A s.heap H locs → W p l e (rmq 5 114) s m [.ref o].toArray below meth c H locs 0 0 (MQ below (qcX (fun _ : txT × (Nat → Int32) => some (.int (iI (maR (masF t0.1 t0.2 2400 0 (by0, 0)))))) (dC, dI) (fun u : txT × (Nat → Int32) => True) (fun u : txT × (Nat → Int32) => [(o, .inr (5, [.ref gi, .ref ge, .ref gt, .ref go, .ref gb, .ref gm, .ref gl, .int (nI i0.2), .int (nI e0.2), .int (nI t0.2), .int (nI (maK (masF t0.1 t0.2 2400 0 (by0, 0)) mk)), .int (nI u.1.2)])), (gt, .inl (ct, 2400, .inl (iN t0.1))), (go, .inl (co, 160, .inl (maM (masF t0.1 t0.2 2400 0 (by0, 0)) md))), (gb, .inl (cb2, 160, .inl u.2)), (gl, .inl (cl, 32, .inl (iN u.1.1)))]) A) [.ref o].toArray s 0 0 A) (F0 m 193 ls []) := by
            intro j
            induction j with
            | zero =>
              intro i2 g ls H locs hi2 hg hl hP hD hS
              have hge := cp_end hg
              rw [show i2 = s1.2 by omega] at hge
              refine lv_iload_n hx hb d_Mo_assemble_193 rfl (lv_at hl 0 rfl) ?_
              refine lv_iload_n hx hb d_Mo_assemble_194 rfl (lv_at hl 2 rfl) ?_
              refine z_icmp_ge (tgt := 216) hx hb d_Mo_assemble_195 (tI_n (by omega)) (tI_n (by omega)) (by decide) (fun g195 => ?_) (fun g195 => ?_)
              · refine lv_iload_n hx hb d_Mo_assemble_216 rfl (lv_at hl 2 rfl) ?_
                rw [hRe]
                have hk1 : maK (some s1) mk = s1.2 := if_pos (by omega)
                have hk2 : maM (some s1) md = g := by rw [hge]; exact if_pos (by omega)
                rw [hk1, hk2]
                exact eXi (L1, s1.1) hx hb hr hlocks (trivial) (congrArg (fun t => some (Value.int t)) (by show iI (if 160 < s1.2 then -2 else (s1.2 : Int)) = _; rw [if_neg (by omega), nI_iI])) hP hD hS [0, 1, 2, 3, 4] rfl rfl (by decide) d_Mo_assemble_217
              · exfalso; omega
            | succ j ih =>
              intro i2 g ls H locs hi2 hg hl hP hD hS
              refine lv_iload_n hx hb d_Mo_assemble_193 rfl (lv_at hl 0 rfl) ?_
              refine lv_iload_n hx hb d_Mo_assemble_194 rfl (lv_at hl 2 rfl) ?_
              refine z_icmp_ge (tgt := 216) hx hb d_Mo_assemble_195 (tI_n (by omega)) (tI_n (by omega)) (by decide) (fun g195 => ?_) (fun g195 => ?_)
              · exfalso; omega
              · refine lv_aload_n hx hb d_Mo_assemble_198 rfl (lv_at hl 3 rfl) ?_
                refine va_get (D := (dC, dI)) (ci := 5) (v := .ref go) (C := R_Mo) (T := F_Mo) (N := 12) hx hb ht in_Mo hown hK hP 0 rfl rfl 3 (by decide) (ht _ k_494) (fun _ h9 => h9) rfl d_Mo_assemble_199 ?_
                refine lv_iload_n hx hb d_Mo_assemble_202 rfl (lv_at hl 0 rfl) ?_
                refine lv_aload_n hx hb d_Mo_assemble_203 rfl (lv_at hl 3 rfl) ?_
                refine va_get (D := (dC, dI)) (ci := 5) (v := .ref gb) (C := R_Mo) (T := F_Mo) (N := 12) hx hb ht in_Mo hown hK hP 0 rfl rfl 4 (by decide) (ht _ k_495) (fun _ h9 => h9) rfl d_Mo_assemble_204 ?_
                refine lv_iload_n hx hb d_Mo_assemble_207 rfl (lv_at hl 0 rfl) ?_
                refine ldX (q0 := 3) (t0 := 2) hx hb d_Mo_assemble_208 hK hP rfl rfl (by omega) (by decide) ?_
                refine stX (q0 := 2) (t0 := 1) (w1 := [(o, .inr (5, [.ref gi, .ref ge, .ref gt, .ref go, .ref gb, .ref gm, .ref gl, .int (nI i0.2), .int (nI e0.2), .int (nI t0.2), .int (nI s1.2), .int (nI L1.2)])), (gt, .inl (ct, 2400, .inl (iN t0.1))), (go, .inl (co, 160, .inl (upd g i2 (s1.1 i2)))), (gb, .inl (cb2, 160, .inl s1.1)), (gl, .inl (cl, 32, .inl (iN L1.1)))]) hx hb d_Mo_assemble_209 hK hP hD hS rfl rfl (by omega) (by decide) rfl (fun H locs hP hD hS => ?_)
                refine lv_iinc (k := 0) (v := nI (i2 + 1)) (lv' := [(3, .int (nI (i2 + 1))), (2, .int (nI p1)), (1, .int (nI s1.2)), (0, .ref o)]) hx hb d_Mo_assemble_210 hl rfl (nI_inc1 _) (Nat.le_of_ble_eq_true rfl) rfl (fun ls hl => ?_)
                refine lv_goto (tgt := 193) hx hb d_Mo_assemble_213 (by decide) ?_
                exact ih (i2 + 1) (upd g i2 (s1.1 i2)) _ _ _ (by omega) (cp_step hg) (lv_sub hl [0, 1, 2, 3] rfl) (hP.sub [0, 1, 2, 3, 4] rfl) (hD.sub [0, 1, 2, 3, 4] (by decide) rfl) hS
          exact loop193 s1.2 0 md _ _ _ (Nat.zero_add _) (fun x => by rw [if_neg (by omega)]) (lv_sub hl [0, 1, 2, 3] rfl) (hP.sub [0, 1, 2, 3, 4] rfl) (hD.sub [0, 1, 2, 3, 4] (by decide) rfl) hS
        · refine lv_bipush (v := iI (-2)) hx hb d_Mo_assemble_183 (by decide) ?_
          rw [hRe]
          have hk1 : maK (some s1) mk = mk := if_neg (by omega)
          have hk2 : maM (some s1) md = md := if_neg (by omega)
          rw [hk1, hk2]
          exact eXi (L1, s1.1) hx hb hr hlocks (trivial) (congrArg (fun t => some (Value.int t)) (by show iI (if 160 < s1.2 then -2 else (s1.2 : Int)) = _; rw [if_pos (by omega)])) hP hD hS [0, 1, 2, 3, 4] rfl rfl (by decide) d_Mo_assemble_185
      · exfalso; omega
    | succ j ih =>
      intro i p1 s1 L1 ls H locs hi hR hp hcn hl hP hD hS
      refine lv_iload_n hx hb d_Mo_assemble_6 rfl (lv_at hl 0 rfl) ?_
      refine lv_sipush (v := nI 2400) hx hb d_Mo_assemble_7 (by decide) ?_
      refine z_icmp_ge (tgt := 176) hx hb d_Mo_assemble_10 (tI_n (by omega)) (tI_n (by omega)) (by decide) (fun g10 => ?_) (fun g10 => ?_)
      · exfalso; omega
      · refine lv_iload_n hx hb d_Mo_assemble_13 rfl (lv_at hl 1 rfl) ?_
        refine lv_aload_n hx hb d_Mo_assemble_14 rfl (lv_at hl 3 rfl) ?_
        refine va_get (D := (dC, dI)) (ci := 5) (v := .int (nI t0.2)) (C := R_Mo) (T := F_Mo) (N := 12) hx hb ht in_Mo hown hK hP 0 rfl rfl 9 (by decide) (ht _ k_500) (fun _ h9 => h9) rfl d_Mo_assemble_15 ?_
        refine z_icmp_ge (tgt := 176) hx hb d_Mo_assemble_18 (tI_n (by omega)) (tI_n (by omega)) (by decide) (fun g18 => ?_) (fun g18 => ?_)
        · have hRe : (masF t0.1 t0.2 2400 0 (by0, 0)) = some s1 := by rw [hR, masF, if_neg (by omega)]
          refine lv_iload_n hx hb d_Mo_assemble_176 rfl (lv_at hl 2 rfl) ?_
          refine lv_sipush (v := nI 160) hx hb d_Mo_assemble_177 (by decide) ?_
          refine z_icmp_le (tgt := 186) hx hb d_Mo_assemble_180 (tI_n (by omega)) (tI_n (by omega)) (by decide) (fun g180 => ?_) (fun g180 => ?_)
          · refine lv_aload_n hx hb d_Mo_assemble_186 rfl (lv_at hl 3 rfl) ?_
            refine lv_iload_n hx hb d_Mo_assemble_187 rfl (lv_at hl 2 rfl) ?_
            refine va_put (D := (dC, dI)) (ci := 5) (v := .int (nI s1.2)) (ty := .int) (C := R_Mo) (T := F_Mo) (N := 12) hx hb ht in_Mo t_Mo t_Mo_ok n_Mo hown hK hP hD hS 0 rfl rfl 10 (by decide) (ht _ k_501) (fun _ h9 => h9) rfl (by decide +kernel) rfl rfl (Nat.le_of_ble_eq_true rfl) d_Mo_assemble_188 (fun H locs hP hD hS => ?_)
            have hP : va_P (dC, dI) classes [(o, .inr (5, [.ref gi, .ref ge, .ref gt, .ref go, .ref gb, .ref gm, .ref gl, .int (nI i0.2), .int (nI e0.2), .int (nI t0.2), .int (nI s1.2), .int (nI L1.2)])), (gt, .inl (ct, 2400, .inl (iN t0.1))), (go, .inl (co, 160, .inl md)), (gb, .inl (cb2, 160, .inl s1.1)), (gl, .inl (cl, 32, .inl (iN L1.1)))] H := hP
            have hD : va_D A [(o, .inr (5, [.ref gi, .ref ge, .ref gt, .ref go, .ref gb, .ref gm, .ref gl, .int (nI i0.2), .int (nI e0.2), .int (nI t0.2), .int (nI s1.2), .int (nI L1.2)])), (gt, .inl (ct, 2400, .inl (iN t0.1))), (go, .inl (co, 160, .inl md)), (gb, .inl (cb2, 160, .inl s1.1)), (gl, .inl (cl, 32, .inl (iN L1.1)))] := hD
            refine lv_iconst (v := nI 0) hx hb d_Mo_assemble_191 (by decide) ?_
            refine lv_istore_n (lv' := [(3, .int (nI 0)), (2, .int (nI p1)), (1, .int (nI s1.2)), (0, .ref o)]) hx hb d_Mo_assemble_192 rfl hl (Nat.le_of_ble_eq_true rfl) rfl (fun ls hl => ?_)
            have loop193 : ∀ (j : Nat) (i2 : Nat) (g : Nat → Int32) (ls : Array Slot) (H : Heap) (locs : List Loc), (i2 + j = s1.2) → (∀ x, g x = if x < i2 then s1.1 x else md x) → lv_has ls 10 [(3, .int (nI i2)), (2, .int (nI p1)), (1, .int (nI s1.2)), (0, .ref o)] → va_P (dC, dI) classes [(o, .inr (5, [.ref gi, .ref ge, .ref gt, .ref go, .ref gb, .ref gm, .ref gl, .int (nI i0.2), .int (nI e0.2), .int (nI t0.2), .int (nI s1.2), .int (nI L1.2)])), (gt, .inl (ct, 2400, .inl (iN t0.1))), (go, .inl (co, 160, .inl g)), (gb, .inl (cb2, 160, .inl s1.1)), (gl, .inl (cl, 32, .inl (iN L1.1)))] H → va_D A [(o, .inr (5, [.ref gi, .ref ge, .ref gt, .ref go, .ref gb, .ref gm, .ref gl, .int (nI i0.2), .int (nI e0.2), .int (nI t0.2), .int (nI s1.2), .int (nI L1.2)])), (gt, .inl (ct, 2400, .inl (iN t0.1))), (go, .inl (co, 160, .inl g)), (gb, .inl (cb2, 160, .inl s1.1)), (gl, .inl (cl, 32, .inl (iN L1.1)))] → va_S A s.heap H locs → W p l e (rmq 5 114) s m [.ref o].toArray below meth c H locs 0 0 (MQ below (qcX (fun _ : txT × (Nat → Int32) => some (.int (iI (maR (masF t0.1 t0.2 2400 0 (by0, 0)))))) (dC, dI) (fun u : txT × (Nat → Int32) => True) (fun u : txT × (Nat → Int32) => [(o, .inr (5, [.ref gi, .ref ge, .ref gt, .ref go, .ref gb, .ref gm, .ref gl, .int (nI i0.2), .int (nI e0.2), .int (nI t0.2), .int (nI (maK (masF t0.1 t0.2 2400 0 (by0, 0)) mk)), .int (nI u.1.2)])), (gt, .inl (ct, 2400, .inl (iN t0.1))), (go, .inl (co, 160, .inl (maM (masF t0.1 t0.2 2400 0 (by0, 0)) md))), (gb, .inl (cb2, 160, .inl u.2)), (gl, .inl (cl, 32, .inl (iN u.1.1)))]) A) [.ref o].toArray s 0 0 A) (F0 m 193 ls []) := by
              intro j
              induction j with
              | zero =>
                intro i2 g ls H locs hi2 hg hl hP hD hS
                have hge := cp_end hg
                rw [show i2 = s1.2 by omega] at hge
                refine lv_iload_n hx hb d_Mo_assemble_193 rfl (lv_at hl 0 rfl) ?_
                refine lv_iload_n hx hb d_Mo_assemble_194 rfl (lv_at hl 2 rfl) ?_
                refine z_icmp_ge (tgt := 216) hx hb d_Mo_assemble_195 (tI_n (by omega)) (tI_n (by omega)) (by decide) (fun g195 => ?_) (fun g195 => ?_)
                · refine lv_iload_n hx hb d_Mo_assemble_216 rfl (lv_at hl 2 rfl) ?_
                  rw [hRe]
                  have hk1 : maK (some s1) mk = s1.2 := if_pos (by omega)
                  have hk2 : maM (some s1) md = g := by rw [hge]; exact if_pos (by omega)
                  rw [hk1, hk2]
                  exact eXi (L1, s1.1) hx hb hr hlocks (trivial) (congrArg (fun t => some (Value.int t)) (by show iI (if 160 < s1.2 then -2 else (s1.2 : Int)) = _; rw [if_neg (by omega), nI_iI])) hP hD hS [0, 1, 2, 3, 4] rfl rfl (by decide) d_Mo_assemble_217
                · exfalso; omega
              | succ j ih =>
                intro i2 g ls H locs hi2 hg hl hP hD hS
                refine lv_iload_n hx hb d_Mo_assemble_193 rfl (lv_at hl 0 rfl) ?_
                refine lv_iload_n hx hb d_Mo_assemble_194 rfl (lv_at hl 2 rfl) ?_
                refine z_icmp_ge (tgt := 216) hx hb d_Mo_assemble_195 (tI_n (by omega)) (tI_n (by omega)) (by decide) (fun g195 => ?_) (fun g195 => ?_)
                · exfalso; omega
                · refine lv_aload_n hx hb d_Mo_assemble_198 rfl (lv_at hl 3 rfl) ?_
                  refine va_get (D := (dC, dI)) (ci := 5) (v := .ref go) (C := R_Mo) (T := F_Mo) (N := 12) hx hb ht in_Mo hown hK hP 0 rfl rfl 3 (by decide) (ht _ k_494) (fun _ h9 => h9) rfl d_Mo_assemble_199 ?_
                  refine lv_iload_n hx hb d_Mo_assemble_202 rfl (lv_at hl 0 rfl) ?_
                  refine lv_aload_n hx hb d_Mo_assemble_203 rfl (lv_at hl 3 rfl) ?_
                  refine va_get (D := (dC, dI)) (ci := 5) (v := .ref gb) (C := R_Mo) (T := F_Mo) (N := 12) hx hb ht in_Mo hown hK hP 0 rfl rfl 4 (by decide) (ht _ k_495) (fun _ h9 => h9) rfl d_Mo_assemble_204 ?_
                  refine lv_iload_n hx hb d_Mo_assemble_207 rfl (lv_at hl 0 rfl) ?_
                  refine ldX (q0 := 3) (t0 := 2) hx hb d_Mo_assemble_208 hK hP rfl rfl (by omega) (by decide) ?_
                  refine stX (q0 := 2) (t0 := 1) (w1 := [(o, .inr (5, [.ref gi, .ref ge, .ref gt, .ref go, .ref gb, .ref gm, .ref gl, .int (nI i0.2), .int (nI e0.2), .int (nI t0.2), .int (nI s1.2), .int (nI L1.2)])), (gt, .inl (ct, 2400, .inl (iN t0.1))), (go, .inl (co, 160, .inl (upd g i2 (s1.1 i2)))), (gb, .inl (cb2, 160, .inl s1.1)), (gl, .inl (cl, 32, .inl (iN L1.1)))]) hx hb d_Mo_assemble_209 hK hP hD hS rfl rfl (by omega) (by decide) rfl (fun H locs hP hD hS => ?_)
                  refine lv_iinc (k := 0) (v := nI (i2 + 1)) (lv' := [(3, .int (nI (i2 + 1))), (2, .int (nI p1)), (1, .int (nI s1.2)), (0, .ref o)]) hx hb d_Mo_assemble_210 hl rfl (nI_inc1 _) (Nat.le_of_ble_eq_true rfl) rfl (fun ls hl => ?_)
                  refine lv_goto (tgt := 193) hx hb d_Mo_assemble_213 (by decide) ?_
                  exact ih (i2 + 1) (upd g i2 (s1.1 i2)) _ _ _ (by omega) (cp_step hg) (lv_sub hl [0, 1, 2, 3] rfl) (hP.sub [0, 1, 2, 3, 4] rfl) (hD.sub [0, 1, 2, 3, 4] (by decide) rfl) hS
            exact loop193 s1.2 0 md _ _ _ (Nat.zero_add _) (fun x => by rw [if_neg (by omega)]) (lv_sub hl [0, 1, 2, 3] rfl) (hP.sub [0, 1, 2, 3, 4] rfl) (hD.sub [0, 1, 2, 3, 4] (by decide) rfl) hS
          · refine lv_bipush (v := iI (-2)) hx hb d_Mo_assemble_183 (by decide) ?_
            rw [hRe]
            have hk1 : maK (some s1) mk = mk := if_neg (by omega)
            have hk2 : maM (some s1) md = md := if_neg (by omega)
            rw [hk1, hk2]
            exact eXi (L1, s1.1) hx hb hr hlocks (trivial) (congrArg (fun t => some (Value.int t)) (by show iI (if 160 < s1.2 then -2 else (s1.2 : Int)) = _; rw [if_pos (by omega)])) hP hD hS [0, 1, 2, 3, 4] rfl rfl (by decide) d_Mo_assemble_185
        · refine lv_aload_n hx hb d_Mo_assemble_21 rfl (lv_at hl 3 rfl) ?_
          refine lv_iload_n hx hb d_Mo_assemble_22 rfl (lv_at hl 1 rfl) ?_
          refine xV (As := [.int (nI p1)]) (rest := []) (wr := [(go, .inl (co, 160, .inl md)), (gb, .inl (cb2, 160, .inl s1.1))]) hx hb hml hown ht (c_Mo_understand l dC dI z _ o gi ge gt go gb gm gl i0 e0 t0 mk L1 ct cl p1 (by first | assumption | omega) (by first | assumption | omega) (by omega)) yv_Mo_understand k_645 (Nat.le_of_ble_eq_true rfl) (Nat.le_of_ble_eq_true rfl) hP hK hSS hD hS hA [0, 1, 4] [2, 3] [0, 3] rfl rfl (by decide) rfl (by decide) (by decide) rfl 0 5 rfl rfl rfl hl rfl rfl (Nat.le_of_ble_eq_true rfl) (Nat.zero_le _) (Nat.zero_le _) d_Mo_assemble_23 (fun u23 H locs hu23 hP hD hS => ?_)
          have hP : va_P (dC, dI) classes [(go, .inl (co, 160, .inl md)), (gb, .inl (cb2, 160, .inl s1.1)), (o, .inr (5, [.ref gi, .ref ge, .ref gt, .ref go, .ref gb, .ref gm, .ref gl, .int (nI i0.2), .int (nI e0.2), .int (nI t0.2), .int (nI mk), .int (nI u23.2)])), (gt, .inl (ct, 2400, .inl (iN t0.1))), (gl, .inl (cl, 32, .inl (iN u23.1)))] H := hP
          have hD : va_D A [(go, .inl (co, 160, .inl md)), (gb, .inl (cb2, 160, .inl s1.1)), (o, .inr (5, [.ref gi, .ref ge, .ref gt, .ref go, .ref gb, .ref gm, .ref gl, .int (nI i0.2), .int (nI e0.2), .int (nI t0.2), .int (nI mk), .int (nI u23.2)])), (gt, .inl (ct, 2400, .inl (iN t0.1))), (gl, .inl (cl, 32, .inl (iN u23.1)))] := hD
          refine stk (st2 := [.int (iI (encU (und t0.1 t0.2 p1)))]) rfl ?_
          rcases ek : und t0.1 t0.2 p1 with _ | ⟨f, v⟩
          · have hRn : (masF t0.1 t0.2 2400 0 (by0, 0)) = none := by rw [hR, masF, if_pos (by omega), ek]
            refine eqi (y := iI (-1)) rfl ?_
            refine lv_istore (lv' := [(4, .int (iI (-1))), (3, .int (nI i)), (2, .int (nI p1)), (1, .int (nI s1.2)), (0, .ref o)]) hx hb d_Mo_assemble_26 hl (Nat.le_of_ble_eq_true rfl) rfl (fun ls hl => ?_)
            refine lv_iload hx hb d_Mo_assemble_28 (lv_at hl 0 rfl) ?_
            refine z_if_ge (tgt := 35) hx hb d_Mo_assemble_30 (iI_toInt (by omega) (by omega)) (by decide) (fun g30 => ?_) (fun g30 => ?_)
            · exfalso; omega
            · refine lv_iconst (v := iI (-1)) hx hb d_Mo_assemble_33 (by decide) ?_
              rw [hRn]
              exact eXi (u23, s1.1) hx hb hr hlocks (trivial) (congrArg (fun t => some (Value.int t)) (rfl)) hP hD hS [2, 3, 0, 1, 4] rfl rfl (by decide) d_Mo_assemble_34
          · obtain ⟨hfk, hvb, hv3, hle⟩ := und_in hp ek
            have hw23 : u23.2 = mll f v := hu23 (f, v) ek
            obtain ⟨V, hV⟩ : ∃ V : Nat, (V : Int) = v + 200 := ⟨(v + 200).toNat, by omega⟩
            have hmb := mab_len (v := v) hfk
            have hlg := lgO_le f
            refine eqi (y := nI (f + 1024 * V)) (by show iI ((f : Int) + 1024 * (v + 200)) = _; rw [nI_iI]; congr 1; omega) ?_
            refine lv_istore (lv' := [(4, .int (nI (f + 1024 * V))), (3, .int (nI i)), (2, .int (nI p1)), (1, .int (nI s1.2)), (0, .ref o)]) hx hb d_Mo_assemble_26 hl (Nat.le_of_ble_eq_true rfl) rfl (fun ls hl => ?_)
            refine lv_iload hx hb d_Mo_assemble_28 (lv_at hl 0 rfl) ?_
            refine z_if_ge (tgt := 35) hx hb d_Mo_assemble_30 (tI_n (by omega)) (by decide) (fun g30 => ?_) (fun g30 => ?_)
            · refine lv_iload_n hx hb d_Mo_assemble_35 rfl (lv_at hl 2 rfl) ?_
              refine lv_aload_n hx hb d_Mo_assemble_36 rfl (lv_at hl 4 rfl) ?_
              refine va_get (D := (dC, dI)) (ci := 5) (v := .int (nI u23.2)) (C := R_Mo) (T := F_Mo) (N := 12) hx hb ht in_Mo hown hK hP 2 rfl rfl 11 (by decide) (ht _ k_502) (fun _ h9 => h9) rfl d_Mo_assemble_37 ?_
              refine nAdd hx hb d_Mo_assemble_40 ?_
              refine lv_iconst (v := nI 1) hx hb d_Mo_assemble_41 (by decide) ?_
              refine nAdd hx hb d_Mo_assemble_42 ?_
              refine lv_istore_n (lv' := [(2, .int (nI ((p1 + u23.2) + 1))), (4, .int (nI (f + 1024 * V))), (3, .int (nI i)), (1, .int (nI s1.2)), (0, .ref o)]) hx hb d_Mo_assemble_43 rfl hl (Nat.le_of_ble_eq_true rfl) rfl (fun ls hl => ?_)
              refine lv_iload hx hb d_Mo_assemble_44 (lv_at hl 1 rfl) ?_
              refine lv_sipush (v := nI 1024) hx hb d_Mo_assemble_46 (by decide) ?_
              refine nRem hx hb d_Mo_assemble_49 (by omega) (by omega) (by omega) ?_
              refine eqi (y := nI f) (by congr 1; omega) ?_
              refine lv_istore (lv' := [(5, .int (nI f)), (2, .int (nI ((p1 + u23.2) + 1))), (4, .int (nI (f + 1024 * V))), (3, .int (nI i)), (1, .int (nI s1.2)), (0, .ref o)]) hx hb d_Mo_assemble_50 hl (Nat.le_of_ble_eq_true rfl) rfl (fun ls hl => ?_)
              refine lv_iload hx hb d_Mo_assemble_52 (lv_at hl 2 rfl) ?_
              refine lv_sipush (v := nI 1024) hx hb d_Mo_assemble_54 (by decide) ?_
              refine nDiv hx hb d_Mo_assemble_57 (by omega) (by omega) (by omega) ?_
              refine eqi (y := nI V) (by congr 1; omega) ?_
              refine lv_sipush (v := nI 200) hx hb d_Mo_assemble_58 (by decide) ?_
              refine zSub hx hb d_Mo_assemble_61 (nI_iI _) (nI_iI _) ?_
              refine eqi (y := iI v) (by congr 1; omega) ?_
              refine lv_istore (lv' := [(6, .int (iI v)), (5, .int (nI f)), (2, .int (nI ((p1 + u23.2) + 1))), (4, .int (nI (f + 1024 * V))), (3, .int (nI i)), (1, .int (nI s1.2)), (0, .ref o)]) hx hb d_Mo_assemble_62 hl (Nat.le_of_ble_eq_true rfl) rfl (fun ls hl => ?_)
              have cut81 : ∀  (ls : Array Slot) (H : Heap) (locs : List Loc), lv_has ls 10 [(6, .int (iI v)), (5, .int (nI f)), (2, .int (nI ((p1 + u23.2) + 1))), (4, .int (nI (f + 1024 * V))), (3, .int (nI i)), (1, .int (nI s1.2)), (0, .ref o)] → va_P (dC, dI) classes [(go, .inl (co, 160, .inl md)), (gb, .inl (cb2, 160, .inl s1.1)), (o, .inr (5, [.ref gi, .ref ge, .ref gt, .ref go, .ref gb, .ref gm, .ref gl, .int (nI i0.2), .int (nI e0.2), .int (nI t0.2), .int (nI mk), .int (nI u23.2)])), (gt, .inl (ct, 2400, .inl (iN t0.1))), (gl, .inl (cl, 32, .inl (iN u23.1)))] H → va_D A [(go, .inl (co, 160, .inl md)), (gb, .inl (cb2, 160, .inl s1.1)), (o, .inr (5, [.ref gi, .ref ge, .ref gt, .ref go, .ref gb, .ref gm, .ref gl, .int (nI i0.2), .int (nI e0.2), .int (nI t0.2), .int (nI mk), .int (nI u23.2)])), (gt, .inl (ct, 2400, .inl (iN t0.1))), (gl, .inl (cl, 32, .inl (iN u23.1)))] → va_S A s.heap H locs → W p l e (rmq 5 114) s m [.ref o].toArray below meth c H locs 0 0 (MQ below (qcX (fun _ : txT × (Nat → Int32) => some (.int (iI (maR (masF t0.1 t0.2 2400 0 (by0, 0)))))) (dC, dI) (fun u : txT × (Nat → Int32) => True) (fun u : txT × (Nat → Int32) => [(o, .inr (5, [.ref gi, .ref ge, .ref gt, .ref go, .ref gb, .ref gm, .ref gl, .int (nI i0.2), .int (nI e0.2), .int (nI t0.2), .int (nI (maK (masF t0.1 t0.2 2400 0 (by0, 0)) mk)), .int (nI u.1.2)])), (gt, .inl (ct, 2400, .inl (iN t0.1))), (go, .inl (co, 160, .inl (maM (masF t0.1 t0.2 2400 0 (by0, 0)) md))), (gb, .inl (cb2, 160, .inl u.2)), (gl, .inl (cl, 32, .inl (iN u.1.1)))]) A) [.ref o].toArray s 0 0 A) (F0 m 81 ls [.int (nI ((mab f v).length))]) := by
                intro  ls H locs  hl hP hD hS
                refine lv_istore (lv' := [(7, .int (nI ((mab f v).length))), (6, .int (iI v)), (5, .int (nI f)), (2, .int (nI ((p1 + u23.2) + 1))), (4, .int (nI (f + 1024 * V))), (3, .int (nI i)), (1, .int (nI s1.2)), (0, .ref o)]) hx hb d_Mo_assemble_81 hl (Nat.le_of_ble_eq_true rfl) rfl (fun ls hl => ?_)
                refine lv_iconst (v := nI 0) hx hb d_Mo_assemble_83 (by decide) ?_
                refine lv_istore (lv' := [(8, .int (nI 0)), (7, .int (nI ((mab f v).length))), (6, .int (iI v)), (5, .int (nI f)), (2, .int (nI ((p1 + u23.2) + 1))), (4, .int (nI (f + 1024 * V))), (3, .int (nI i)), (1, .int (nI s1.2)), (0, .ref o)]) hx hb d_Mo_assemble_84 hl (Nat.le_of_ble_eq_true rfl) rfl (fun ls hl => ?_)
                have loop86 : ∀ (j : Nat) (ii : Nat) (s2 : abT) (ls : Array Slot) (H : Heap) (locs : List Loc), (ii + j = (mab f v).length) → ((mab f v).foldl adB s1 = ((mab f v).drop ii).foldl adB s2) → (s2.2 ≤ s1.2 + ii) → lv_has ls 10 [(8, .int (nI ii)), (7, .int (nI ((mab f v).length))), (6, .int (iI v)), (5, .int (nI f)), (2, .int (nI ((p1 + u23.2) + 1))), (4, .int (nI (f + 1024 * V))), (3, .int (nI i)), (1, .int (nI s2.2)), (0, .ref o)] → va_P (dC, dI) classes [(o, .inr (5, [.ref gi, .ref ge, .ref gt, .ref go, .ref gb, .ref gm, .ref gl, .int (nI i0.2), .int (nI e0.2), .int (nI t0.2), .int (nI mk), .int (nI u23.2)])), (gt, .inl (ct, 2400, .inl (iN t0.1))), (go, .inl (co, 160, .inl md)), (gb, .inl (cb2, 160, .inl s2.1)), (gl, .inl (cl, 32, .inl (iN u23.1)))] H → va_D A [(o, .inr (5, [.ref gi, .ref ge, .ref gt, .ref go, .ref gb, .ref gm, .ref gl, .int (nI i0.2), .int (nI e0.2), .int (nI t0.2), .int (nI mk), .int (nI u23.2)])), (gt, .inl (ct, 2400, .inl (iN t0.1))), (go, .inl (co, 160, .inl md)), (gb, .inl (cb2, 160, .inl s2.1)), (gl, .inl (cl, 32, .inl (iN u23.1)))] → va_S A s.heap H locs → W p l e (rmq 5 114) s m [.ref o].toArray below meth c H locs 0 0 (MQ below (qcX (fun _ : txT × (Nat → Int32) => some (.int (iI (maR (masF t0.1 t0.2 2400 0 (by0, 0)))))) (dC, dI) (fun u : txT × (Nat → Int32) => True) (fun u : txT × (Nat → Int32) => [(o, .inr (5, [.ref gi, .ref ge, .ref gt, .ref go, .ref gb, .ref gm, .ref gl, .int (nI i0.2), .int (nI e0.2), .int (nI t0.2), .int (nI (maK (masF t0.1 t0.2 2400 0 (by0, 0)) mk)), .int (nI u.1.2)])), (gt, .inl (ct, 2400, .inl (iN t0.1))), (go, .inl (co, 160, .inl (maM (masF t0.1 t0.2 2400 0 (by0, 0)) md))), (gb, .inl (cb2, 160, .inl u.2)), (gl, .inl (cl, 32, .inl (iN u.1.1)))]) A) [.ref o].toArray s 0 0 A) (F0 m 86 ls []) := by
                  intro j
                  induction j with
                  | zero =>
                    intro ii s2 ls H locs hii hRb hc2 hl hP hD hS
                    rw [List.drop_eq_nil_of_le (by omega)] at hRb
                    have hRe2 : (mab f v).foldl adB s1 = s2 := hRb
                    refine lv_iload hx hb d_Mo_assemble_86 (lv_at hl 0 rfl) ?_
                    refine lv_iload hx hb d_Mo_assemble_88 (lv_at hl 1 rfl) ?_
                    refine z_icmp_ge (tgt := 170) hx hb d_Mo_assemble_90 (tI_n (by omega)) (tI_n (by omega)) (by decide) (fun g90 => ?_) (fun g90 => ?_)
                    · refine lv_iinc (k := 6) (v := nI (i + 1)) (lv' := [(3, .int (nI (i + 1))), (8, .int (nI ii)), (7, .int (nI ((mab f v).length))), (6, .int (iI v)), (5, .int (nI f)), (2, .int (nI ((p1 + u23.2) + 1))), (4, .int (nI (f + 1024 * V))), (1, .int (nI s2.2)), (0, .ref o)]) hx hb d_Mo_assemble_170 hl rfl (nI_inc1 _) (Nat.le_of_ble_eq_true rfl) rfl (fun ls hl => ?_)
                      refine lv_goto (tgt := 6) hx hb d_Mo_assemble_173 (by decide) ?_
                      exact ih (i + 1) (p1 + u23.2 + 1) s2 u23 _ _ _ (by omega) (by rw [hR, masF, if_pos (by omega), ek]; show masF _ _ _ (p1 + mll f v + 1) ((mab f v).foldl adB s1) = _; rw [hRe2, hw23]) (by omega) (by omega) (lv_sub hl [0, 5, 7, 8] rfl) (hP.sub [0, 1, 2, 3, 4] rfl) (hD.sub [0, 1, 2, 3, 4] (by decide) rfl) hS
                    · exfalso; omega
                  | succ j ih =>
                    intro ii s2 ls H locs hii hRb hc2 hl hP hD hS
                    refine lv_iload hx hb d_Mo_assemble_86 (lv_at hl 0 rfl) ?_
                    refine lv_iload hx hb d_Mo_assemble_88 (lv_at hl 1 rfl) ?_
                    refine z_icmp_ge (tgt := 170) hx hb d_Mo_assemble_90 (tI_n (by omega)) (tI_n (by omega)) (by decide) (fun g90 => ?_) (fun g90 => ?_)
                    · exfalso; omega
                    · have cut143 : ∀  (ls : Array Slot) (H : Heap) (locs : List Loc), lv_has ls 10 [(8, .int (nI ii)), (7, .int (nI ((mab f v).length))), (6, .int (iI v)), (5, .int (nI f)), (2, .int (nI ((p1 + u23.2) + 1))), (4, .int (nI (f + 1024 * V))), (3, .int (nI i)), (1, .int (nI s2.2)), (0, .ref o)] → va_P (dC, dI) classes [(o, .inr (5, [.ref gi, .ref ge, .ref gt, .ref go, .ref gb, .ref gm, .ref gl, .int (nI i0.2), .int (nI e0.2), .int (nI t0.2), .int (nI mk), .int (nI u23.2)])), (gt, .inl (ct, 2400, .inl (iN t0.1))), (go, .inl (co, 160, .inl md)), (gb, .inl (cb2, 160, .inl s2.1)), (gl, .inl (cl, 32, .inl (iN u23.1)))] H → va_D A [(o, .inr (5, [.ref gi, .ref ge, .ref gt, .ref go, .ref gb, .ref gm, .ref gl, .int (nI i0.2), .int (nI e0.2), .int (nI t0.2), .int (nI mk), .int (nI u23.2)])), (gt, .inl (ct, 2400, .inl (iN t0.1))), (go, .inl (co, 160, .inl md)), (gb, .inl (cb2, 160, .inl s2.1)), (gl, .inl (cl, 32, .inl (iN u23.1)))] → va_S A s.heap H locs → W p l e (rmq 5 114) s m [.ref o].toArray below meth c H locs 0 0 (MQ below (qcX (fun _ : txT × (Nat → Int32) => some (.int (iI (maR (masF t0.1 t0.2 2400 0 (by0, 0)))))) (dC, dI) (fun u : txT × (Nat → Int32) => True) (fun u : txT × (Nat → Int32) => [(o, .inr (5, [.ref gi, .ref ge, .ref gt, .ref go, .ref gb, .ref gm, .ref gl, .int (nI i0.2), .int (nI e0.2), .int (nI t0.2), .int (nI (maK (masF t0.1 t0.2 2400 0 (by0, 0)) mk)), .int (nI u.1.2)])), (gt, .inl (ct, 2400, .inl (iN t0.1))), (go, .inl (co, 160, .inl (maM (masF t0.1 t0.2 2400 0 (by0, 0)) md))), (gb, .inl (cb2, 160, .inl u.2)), (gl, .inl (cl, 32, .inl (iN u.1.1)))]) A) [.ref o].toArray s 0 0 A) (F0 m 143 ls [.int ((mab f v).getD ii 0)]) := by
                        intro  ls H locs  hl hP hD hS
                        refine lv_istore (lv' := [(9, .int ((mab f v).getD ii 0)), (8, .int (nI ii)), (7, .int (nI ((mab f v).length))), (6, .int (iI v)), (5, .int (nI f)), (2, .int (nI ((p1 + u23.2) + 1))), (4, .int (nI (f + 1024 * V))), (3, .int (nI i)), (1, .int (nI s2.2)), (0, .ref o)]) hx hb d_Mo_assemble_143 hl (Nat.le_of_ble_eq_true rfl) rfl (fun ls hl => ?_)
                        refine lv_iload_n hx hb d_Mo_assemble_145 rfl (lv_at hl 8 rfl) ?_
                        refine lv_sipush (v := nI 160) hx hb d_Mo_assemble_146 (by decide) ?_
                        refine z_icmp_ge (tgt := 160) hx hb d_Mo_assemble_149 (tI_n (by omega)) (tI_n (by omega)) (by decide) (fun g149 => ?_) (fun g149 => ?_)
                        · refine lv_iload_n hx hb d_Mo_assemble_160 rfl (lv_at hl 8 rfl) ?_
                          refine lv_iconst (v := nI 1) hx hb d_Mo_assemble_161 (by decide) ?_
                          refine nAdd hx hb d_Mo_assemble_162 ?_
                          refine lv_istore_n (lv' := [(1, .int (nI (s2.2 + 1))), (9, .int ((mab f v).getD ii 0)), (8, .int (nI ii)), (7, .int (nI ((mab f v).length))), (6, .int (iI v)), (5, .int (nI f)), (2, .int (nI ((p1 + u23.2) + 1))), (4, .int (nI (f + 1024 * V))), (3, .int (nI i)), (0, .ref o)]) hx hb d_Mo_assemble_163 rfl hl (Nat.le_of_ble_eq_true rfl) rfl (fun ls hl => ?_)
                          refine lv_iinc (k := 2) (v := nI (ii + 1)) (lv' := [(8, .int (nI (ii + 1))), (1, .int (nI (s2.2 + 1))), (9, .int ((mab f v).getD ii 0)), (7, .int (nI ((mab f v).length))), (6, .int (iI v)), (5, .int (nI f)), (2, .int (nI ((p1 + u23.2) + 1))), (4, .int (nI (f + 1024 * V))), (3, .int (nI i)), (0, .ref o)]) hx hb d_Mo_assemble_164 hl rfl (nI_inc1 _) (Nat.le_of_ble_eq_true rfl) rfl (fun ls hl => ?_)
                          refine lv_goto (tgt := 86) hx hb d_Mo_assemble_167 (by decide) ?_
                          exact ih (ii + 1) (s2.1, s2.2 + 1) _ _ _ (by omega) (by rw [hRb, drop_x (by omega), List.foldl_cons, adB, if_neg (by omega)]) (by show s2.2 + 1 ≤ _; omega) (lv_sub hl [0, 3, 4, 5, 6, 7, 8, 1, 9] rfl) (hP.sub [0, 1, 2, 3, 4] rfl) (hD.sub [0, 1, 2, 3, 4] (by decide) rfl) hS
                        · refine lv_aload_n hx hb d_Mo_assemble_152 rfl (lv_at hl 9 rfl) ?_
                          refine va_get (D := (dC, dI)) (ci := 5) (v := .ref gb) (C := R_Mo) (T := F_Mo) (N := 12) hx hb ht in_Mo hown hK hP 0 rfl rfl 4 (by decide) (ht _ k_495) (fun _ h9 => h9) rfl d_Mo_assemble_153 ?_
                          refine lv_iload_n hx hb d_Mo_assemble_156 rfl (lv_at hl 8 rfl) ?_
                          refine lv_iload hx hb d_Mo_assemble_157 (lv_at hl 0 rfl) ?_
                          refine stX (q0 := 3) (t0 := 2) (w1 := [(o, .inr (5, [.ref gi, .ref ge, .ref gt, .ref go, .ref gb, .ref gm, .ref gl, .int (nI i0.2), .int (nI e0.2), .int (nI t0.2), .int (nI mk), .int (nI u23.2)])), (gt, .inl (ct, 2400, .inl (iN t0.1))), (go, .inl (co, 160, .inl md)), (gb, .inl (cb2, 160, .inl (upd s2.1 s2.2 ((mab f v).getD ii 0)))), (gl, .inl (cl, 32, .inl (iN u23.1)))]) hx hb d_Mo_assemble_159 hK hP hD hS rfl rfl (by omega) (by decide) rfl (fun H locs hP hD hS => ?_)
                          refine lv_iload_n hx hb d_Mo_assemble_160 rfl (lv_at hl 8 rfl) ?_
                          refine lv_iconst (v := nI 1) hx hb d_Mo_assemble_161 (by decide) ?_
                          refine nAdd hx hb d_Mo_assemble_162 ?_
                          refine lv_istore_n (lv' := [(1, .int (nI (s2.2 + 1))), (9, .int ((mab f v).getD ii 0)), (8, .int (nI ii)), (7, .int (nI ((mab f v).length))), (6, .int (iI v)), (5, .int (nI f)), (2, .int (nI ((p1 + u23.2) + 1))), (4, .int (nI (f + 1024 * V))), (3, .int (nI i)), (0, .ref o)]) hx hb d_Mo_assemble_163 rfl hl (Nat.le_of_ble_eq_true rfl) rfl (fun ls hl => ?_)
                          refine lv_iinc (k := 2) (v := nI (ii + 1)) (lv' := [(8, .int (nI (ii + 1))), (1, .int (nI (s2.2 + 1))), (9, .int ((mab f v).getD ii 0)), (7, .int (nI ((mab f v).length))), (6, .int (iI v)), (5, .int (nI f)), (2, .int (nI ((p1 + u23.2) + 1))), (4, .int (nI (f + 1024 * V))), (3, .int (nI i)), (0, .ref o)]) hx hb d_Mo_assemble_164 hl rfl (nI_inc1 _) (Nat.le_of_ble_eq_true rfl) rfl (fun ls hl => ?_)
                          refine lv_goto (tgt := 86) hx hb d_Mo_assemble_167 (by decide) ?_
                          exact ih (ii + 1) (upd s2.1 s2.2 ((mab f v).getD ii 0), s2.2 + 1) _ _ _ (by omega) (by rw [hRb, drop_x (by omega), List.foldl_cons, adB, if_pos (by omega)]) (by show s2.2 + 1 ≤ _; omega) (lv_sub hl [0, 3, 4, 5, 6, 7, 8, 1, 9] rfl) (hP.sub [0, 1, 2, 3, 4] rfl) (hD.sub [0, 1, 2, 3, 4] (by decide) rfl) hS
                      refine lv_iload hx hb d_Mo_assemble_93 (lv_at hl 0 rfl) ?_
                      refine z_if_ne (tgt := 116) hx hb d_Mo_assemble_95 (tI_n (by omega)) (by decide) (fun g95 => ?_) (fun g95 => ?_)
                      · refine lv_iload hx hb d_Mo_assemble_116 (lv_at hl 1 rfl) ?_
                        refine lv_iconst (v := nI 3) hx hb d_Mo_assemble_118 (by decide) ?_
                        refine z_icmp_ne (tgt := 137) hx hb d_Mo_assemble_119 (tI_n (by omega)) (tI_n (by omega)) (by decide) (fun g119 => ?_) (fun g119 => ?_)
                        · refine lv_iload hx hb d_Mo_assemble_137 (lv_at hl 2 rfl) ?_
                          refine lv_sipush (v := nI 255) hx hb d_Mo_assemble_139 (by decide) ?_
                          refine lv_iand hx hb d_Mo_assemble_142 ?_
                          refine eqi (y := (mab f v).getD ii 0) (by rw [mab_atl (by omega) (by omega) (by omega) (by omega) (by omega)]; rfl) ?_
                          exact cut143  _ _ _  (lv_sub hl [0, 1, 2, 3, 4, 5, 6, 7, 8] rfl) (hP.sub [0, 1, 2, 3, 4] rfl) (hD.sub [0, 1, 2, 3, 4] (by decide) rfl) hS
                        · refine lv_iload hx hb d_Mo_assemble_122 (lv_at hl 0 rfl) ?_
                          refine lv_iconst (v := nI 1) hx hb d_Mo_assemble_124 (by decide) ?_
                          refine z_icmp_ne (tgt := 137) hx hb d_Mo_assemble_125 (tI_n (by omega)) (tI_n (by omega)) (by decide) (fun g125 => ?_) (fun g125 => ?_)
                          · refine lv_iload hx hb d_Mo_assemble_137 (lv_at hl 2 rfl) ?_
                            refine lv_sipush (v := nI 255) hx hb d_Mo_assemble_139 (by decide) ?_
                            refine lv_iand hx hb d_Mo_assemble_142 ?_
                            refine eqi (y := (mab f v).getD ii 0) (by rw [mab_atl (by omega) (by omega) (by omega) (by omega) (by omega)]; rfl) ?_
                            exact cut143  _ _ _  (lv_sub hl [0, 1, 2, 3, 4, 5, 6, 7, 8] rfl) (hP.sub [0, 1, 2, 3, 4] rfl) (hD.sub [0, 1, 2, 3, 4] (by decide) rfl) hS
                          · refine lv_iload hx hb d_Mo_assemble_128 (lv_at hl 2 rfl) ?_
                            refine eqi (y := nI v.toNat) (by rw [nI_iI, Int.toNat_of_nonneg (hv3 (by omega) (by omega))]) ?_
                            refine lv_sipush (v := nI 256) hx hb d_Mo_assemble_130 (by decide) ?_
                            refine nDiv hx hb d_Mo_assemble_133 (by omega) (by omega) (by omega) ?_
                            refine eqi (y := (mab f v).getD ii 0) (by rw [show ii = 1 by omega, mab_at1 (by omega) (by omega) (hv3 (by omega) (by omega))]) ?_
                            refine lv_goto (tgt := 143) hx hb d_Mo_assemble_134 (by decide) ?_
                            exact cut143  _ _ _  (lv_sub hl [0, 1, 2, 3, 4, 5, 6, 7, 8] rfl) (hP.sub [0, 1, 2, 3, 4] rfl) (hD.sub [0, 1, 2, 3, 4] (by decide) rfl) hS
                      · refine lv_iload hx hb d_Mo_assemble_98 (lv_at hl 3 rfl) ?_
                        refine lv_sipush (v := nI 300) hx hb d_Mo_assemble_100 (by decide) ?_
                        refine z_icmp_ne (tgt := 111) hx hb d_Mo_assemble_103 (tI_n (by omega)) (tI_n (by omega)) (by decide) (fun g103 => ?_) (fun g103 => ?_)
                        · refine lv_iload hx hb d_Mo_assemble_111 (lv_at hl 3 rfl) ?_
                          refine eqi (y := (mab f v).getD ii 0) (by rw [show ii = 0 by omega, mab_at0 (by omega) (by omega)]) ?_
                          refine lv_goto (tgt := 143) hx hb d_Mo_assemble_113 (by decide) ?_
                          exact cut143  _ _ _  (lv_sub hl [0, 1, 2, 3, 4, 5, 6, 7, 8] rfl) (hP.sub [0, 1, 2, 3, 4] rfl) (hD.sub [0, 1, 2, 3, 4] (by decide) rfl) hS
                        · refine lv_iload hx hb d_Mo_assemble_106 (lv_at hl 2 rfl) ?_
                          refine eqi (y := (mab f v).getD ii 0) (by rw [show ii = 0 by omega, mab_300 (by omega)]; rfl) ?_
                          refine lv_goto (tgt := 143) hx hb d_Mo_assemble_108 (by decide) ?_
                          exact cut143  _ _ _  (lv_sub hl [0, 1, 2, 3, 4, 5, 6, 7, 8] rfl) (hP.sub [0, 1, 2, 3, 4] rfl) (hD.sub [0, 1, 2, 3, 4] (by decide) rfl) hS
                exact loop86 ((mab f v).length) 0 s1 _ _ _ (Nat.zero_add _) (rfl) (Nat.le_refl _) (lv_sub hl [0, 1, 2, 3, 4, 5, 6, 7, 8] rfl) (hP.sub [2, 3, 0, 1, 4] rfl) (hD.sub [2, 3, 0, 1, 4] (by decide) rfl) hS
              refine lv_iload hx hb d_Mo_assemble_64 (lv_at hl 1 rfl) ?_
              refine lv_sipush (v := nI 300) hx hb d_Mo_assemble_66 (by decide) ?_
              refine z_icmp_ne (tgt := 76) hx hb d_Mo_assemble_69 (tI_n (by omega)) (tI_n (by omega)) (by decide) (fun g69 => ?_) (fun g69 => ?_)
              · refine lv_iload hx hb d_Mo_assemble_76 (lv_at hl 1 rfl) ?_
                refine rS (As := [.int (nI f)]) (rest := []) hx hb hml hown ht (c_Mo_longOf l dC dI z f (by first | assumption | omega)) ys_Mo_longOf k_560 (Nat.le_of_ble_eq_true rfl) (Nat.le_of_ble_eq_true rfl) hP hK hSS hS [] [] rfl rfl hl rfl rfl (Nat.le_of_ble_eq_true rfl) (Nat.zero_le _) (Nat.zero_le _) d_Mo_assemble_78 ?_
                refine eqi (y := nI ((mab f v).length)) (by rw [hmb.2.2 (by omega)]) ?_
                exact cut81  _ _ _  (lv_sub hl [0, 1, 2, 3, 4, 5, 6] rfl) (hP.sub [0, 1, 2, 3, 4] rfl) (hD.sub [0, 1, 2, 3, 4] (by decide) rfl) hS
              · refine lv_iconst (v := nI 1) hx hb d_Mo_assemble_72 (by decide) ?_
                refine eqi (y := nI ((mab f v).length)) (by rw [hmb.2.1 (by omega)]) ?_
                refine lv_goto (tgt := 81) hx hb d_Mo_assemble_73 (by decide) ?_
                exact cut81  _ _ _  (lv_sub hl [0, 1, 2, 3, 4, 5, 6] rfl) (hP.sub [0, 1, 2, 3, 4] rfl) (hD.sub [0, 1, 2, 3, 4] (by decide) rfl) hS
            · exfalso; omega
  exact loop6 2400 0 0 (by0, 0) L0 _ _ _ (rfl) (rfl) (Nat.zero_le _) (Nat.le_refl _) (lv_sub hl [0, 1, 2, 3] rfl) (hP.sub [0, 1, 2, 3, 4] rfl) (hD.sub [0, 1, 2, 3, 4] (by decide) rfl) hS
