set_option maxHeartbeats 4000000 in
set_option maxRecDepth 100000 in
theorem c_Ki_opening (l : Launch) (dC : Nat → ClassId) (dI : Nat → Nat → Nat) (z : zT) (k : Nat) (hk : k < 14) : MR l y_Ki_opening b_Ki_opening 1 (some (.object "java/lang/String")) 0 0 (dC, dI) z [.int (nI k)] [] [] (.ref (z.2.2.2.1 k)) := by
  refine metR (by decide) (Nat.le_of_ble_eq_true rfl) ?_
  intro p e s m below meth c ls hx hb hr hlocks hml hown ht hl hP hK hSS
  have hl : lv_has ls 1 [(0, .int (nI k))] := hl
  have hS : va_S (fun _ => False) s.heap s.heap [] := va_S.rf
  refine lv_iload_n hx hb d_Ki_opening_0 rfl (lv_at hl 0 rfl) ?_
  rcases (show k = 0 ∨ k = 1 ∨ k = 2 ∨ k = 3 ∨ k = 4 ∨ k = 5 ∨ k = 6 ∨ k = 7 ∨ k = 8 ∨ k = 9 ∨ k = 10 ∨ k = 11 ∨ k = 12 ∨ k = 13 by omega) with e | e | e | e | e | e | e | e | e | e | e | e | e | e
  · subst e
    refine lv_tableIn (off := 67) (tgt := 68) hx hb d_Ki_opening_1 (by decide) (by decide) (by decide) (by decide) ?_
    refine va_ldcS hx hb hown (hSS.2.2.2.2.2.2 0 (by decide)) d_Ki_opening_68 ?_
    exact eRa hx hb hr hlocks d_Ki_opening_70
  · subst e
    refine lv_tableIn (off := 70) (tgt := 71) hx hb d_Ki_opening_1 (by decide) (by decide) (by decide) (by decide) ?_
    refine va_ldcS hx hb hown (hSS.2.2.2.2.2.2 1 (by decide)) d_Ki_opening_71 ?_
    exact eRa hx hb hr hlocks d_Ki_opening_73
  · subst e
    refine lv_tableIn (off := 73) (tgt := 74) hx hb d_Ki_opening_1 (by decide) (by decide) (by decide) (by decide) ?_
    refine va_ldcS hx hb hown (hSS.2.2.2.2.2.2 2 (by decide)) d_Ki_opening_74 ?_
    exact eRa hx hb hr hlocks d_Ki_opening_76
  · subst e
    refine lv_tableIn (off := 76) (tgt := 77) hx hb d_Ki_opening_1 (by decide) (by decide) (by decide) (by decide) ?_
    refine va_ldcS hx hb hown (hSS.2.2.2.2.2.2 3 (by decide)) d_Ki_opening_77 ?_
    exact eRa hx hb hr hlocks d_Ki_opening_79
  · subst e
    refine lv_tableIn (off := 79) (tgt := 80) hx hb d_Ki_opening_1 (by decide) (by decide) (by decide) (by decide) ?_
    refine va_ldcS hx hb hown (hSS.2.2.2.2.2.2 4 (by decide)) d_Ki_opening_80 ?_
    exact eRa hx hb hr hlocks d_Ki_opening_82
  · subst e
    refine lv_tableIn (off := 82) (tgt := 83) hx hb d_Ki_opening_1 (by decide) (by decide) (by decide) (by decide) ?_
    refine va_ldcS hx hb hown (hSS.2.2.2.2.2.2 5 (by decide)) d_Ki_opening_83 ?_
    exact eRa hx hb hr hlocks d_Ki_opening_85
  · subst e
    refine lv_tableIn (off := 85) (tgt := 86) hx hb d_Ki_opening_1 (by decide) (by decide) (by decide) (by decide) ?_
    refine va_ldcS hx hb hown (hSS.2.2.2.2.2.2 6 (by decide)) d_Ki_opening_86 ?_
    exact eRa hx hb hr hlocks d_Ki_opening_88
  · subst e
    refine lv_tableIn (off := 88) (tgt := 89) hx hb d_Ki_opening_1 (by decide) (by decide) (by decide) (by decide) ?_
    refine va_ldcS hx hb hown (hSS.2.2.2.2.2.2 7 (by decide)) d_Ki_opening_89 ?_
    exact eRa hx hb hr hlocks d_Ki_opening_91
  · subst e
    refine lv_tableIn (off := 91) (tgt := 92) hx hb d_Ki_opening_1 (by decide) (by decide) (by decide) (by decide) ?_
    refine va_ldcS hx hb hown (hSS.2.2.2.2.2.2 8 (by decide)) d_Ki_opening_92 ?_
    exact eRa hx hb hr hlocks d_Ki_opening_94
  · subst e
    refine lv_tableIn (off := 94) (tgt := 95) hx hb d_Ki_opening_1 (by decide) (by decide) (by decide) (by decide) ?_
    refine va_ldcS hx hb hown (hSS.2.2.2.2.2.2 9 (by decide)) d_Ki_opening_95 ?_
    exact eRa hx hb hr hlocks d_Ki_opening_97
  · subst e
    refine lv_tableIn (off := 97) (tgt := 98) hx hb d_Ki_opening_1 (by decide) (by decide) (by decide) (by decide) ?_
    refine va_ldcS hx hb hown (hSS.2.2.2.2.2.2 10 (by decide)) d_Ki_opening_98 ?_
    exact eRa hx hb hr hlocks d_Ki_opening_100
  · subst e
    refine lv_tableIn (off := 100) (tgt := 101) hx hb d_Ki_opening_1 (by decide) (by decide) (by decide) (by decide) ?_
    refine va_ldcS hx hb hown (hSS.2.2.2.2.2.2 11 (by decide)) d_Ki_opening_101 ?_
    exact eRa hx hb hr hlocks d_Ki_opening_103
  · subst e
    refine lv_tableIn (off := 103) (tgt := 104) hx hb d_Ki_opening_1 (by decide) (by decide) (by decide) (by decide) ?_
    refine va_ldcS hx hb hown (hSS.2.2.2.2.2.2 12 (by decide)) d_Ki_opening_104 ?_
    exact eRa hx hb hr hlocks d_Ki_opening_106
  · subst e
    refine lv_tableOut (tgt := 107) hx hb d_Ki_opening_1 (by decide) (by decide) ?_
    refine va_ldcS hx hb hown (hSS.2.2.2.2.2.2 13 (by decide)) d_Ki_opening_107 ?_
    exact eRa hx hb hr hlocks d_Ki_opening_109
