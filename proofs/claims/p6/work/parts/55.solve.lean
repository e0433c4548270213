def UG (J' J : zJ) (m m' : Int) : Prop := GX [146, 147, 148, 149, 150, 154] J' J m m' ∧ UW J' J 0 m'
theorem UG.rf {J : zJ} {m : Int} (C : CT J m) (hm : J 6 12 = m) (hU : UI J 0 m) : UG J J m m := ⟨GX.rf C hm, UW.rf hU⟩
theorem UG.tr {J3 J2 J1 : zJ} {m1 m2 m3 : Int} (g : UG J2 J1 m1 m2) (h : UG J3 J2 m2 m3) : UG J3 J1 m1 m3 := ⟨g.1.tr h.1, h.2.tr g.2⟩
theorem UG.top {J2 J1 J : zJ} {m m1 : Int} (g : UG J1 J m m1) (h : UW J2 J1 0 m1) (f : zOf (zbut [146, 147, 148, 149, 150, 154]) J2 J1) : UG J2 J m m1 := ⟨g.1.off rfl f, h.tr g.2⟩
theorem UG.made {J2 J1 J : zJ} {m m1 m2 : Int} (g : UG J1 J m m1) (h : GR J2 J1 m1 m2) : UG J2 J m m2 := ⟨g.1.tr h.x, g.2.of h.1 (congrFun (h.2.2.2.2 145 rfl) 10) (fun c hc => h.2.2.2.2 c (by simp [zbut]; omega))⟩
theorem UG.sv {J1 J : zJ} {m m1 x v : Int} (g : UG J1 J m m1) (hv : v = -3 ∨ (0 ≤ v ∧ v < m1)) : UG (zup J1 150 x v) J m m1 := ⟨g.1.off rfl (zOf.up rfl zOf.rf), g.2.p5 (Or.inr hv)⟩
theorem nd.z {m x : Int} (h : nd 0 m x) : 0 ≤ x ∧ x < m := by
  unfold nd at h
  omega
set_option maxHeartbeats 4000000 in
set_option maxRecDepth 100000 in
theorem c_solvedTerm {l : Launch} {G : tb_G} (hl : l.stackTraces = false) (n : Nat) (J : zJ) (x : Int) (lv : Int) (hr_x : -2147483648 ≤ x ∧ x < 2147483648) (hr_lv : -2147483648 ≤ lv ∧ lv < 2147483648) (d9 : Nat) (hd9 : 4 ≤ d9) (H : ∀ (J : zJ) (x : Int) (hr_x : -2147483648 ≤ x ∧ x < 2147483648) (m : Int) (C : CT J m) (hm : J 6 12 = m) (hU : UI J 0 m) (hx : 0 ≤ x ∧ x < m) (ax : J 146 x = J 145 10), tz_Ok l G M_X10_solvedClass d9 0 0 [.ref 145, zi x, zi (lv + 1)] n J (zqi (fun z J' => ∃ m', UG J' J m m' ∧ (z = -3 ∨ (0 ≤ z ∧ z < m')))) zN) (m : Int) (C : CT J m) (hm : J 6 12 = m) (hU : UI J 0 m) (hx : 0 ≤ x ∧ x < m) : tz_Ok l G M_X10_solvedTerm (d9 + 1) 0 0 [.ref 145, zi x, zi lv] n J (zqi (fun z J' => ∃ m', UG J' J m m' ∧ (z = -3 ∨ (0 ≤ z ∧ z < m')))) zN := by
  refine tz_Ok.of hl (by decide +kernel) rfl (tb_c1 rfl) (Nat.le_of_ble_eq_true rfl) ?_
  show tz_At l G M_X10_solvedTerm (tb_rm (d9 + 1) 0 0) none (tb_ZM G 0 0 (zQ n 0 (zqi (fun z J' => ∃ m', UG J' J m m' ∧ (z = -3 ∨ (0 ≤ z ∧ z < m'))))) (zX n 0 zN)) 0 0 n J 0 [some (.ref 145), some (zi x), some (zi lv), none, none, none, none] []
  have hb := C.told
  have ht := (show nd 0 m x from Or.inl hx).ix hb.2
  have ha := C.ar ht.1 ht.2
  have hlv := hr_lv
  refine tz_aload_n (pc := 0) dX10_solvedTerm_0 rfl rfl ?_
  refine tz_fR (pc := 1) dX10_solvedTerm_1 fl_X10_46 r_145_0 ?_
  refine tz_fR (pc := 4) dX10_solvedTerm_4 fl_X10_90 r_6_2 ?_
  refine tz_aload_n (pc := 7) dX10_solvedTerm_7 rfl rfl ?_
  refine tz_iload_n (pc := 8) dX10_solvedTerm_8 rfl rfl ?_
  refine tz_cV (pc := 9) (c_uTerm hl n _ _ (by omega) (by omega)) vl_X10_68 dX10_solvedTerm_9 o_145 rfl rfl (Nat.le_of_ble_eq_true rfl) ⟨(show 0 + 1 ≤ d9 + 1 by omega), (show 8 + (2 + 11) + 40 * (0) ≤ 40 * (d9 + 1) by omega)⟩ rfl rfl (Nat.le_of_ble_eq_true rfl) (Nat.le_of_ble_eq_true rfl) (fun r9 J_9 hq9 => ?_)
  obtain ⟨z_9, rfl, hz_9, rfl, rfl⟩ := hq9
  refine tz_aL (pc := 12) (z := (tm x)) (v := (J 8 (tm x))) dX10_solvedTerm_12 a_8 rfl (by omega) rfl (fun r_12 => ?_)
  refine tz_istore_n (pc := 13) (L2 := [_, _, _, _, _, _, _]) dX10_solvedTerm_13 rfl (by decide) rfl ?_
  refine tz_iload_n (pc := 14) dX10_solvedTerm_14 rfl rfl ?_
  refine tz_iconst (pc := 15) dX10_solvedTerm_15 ?_
  refine tz_icmp_ge (pc := 16) (tgt := 23) dX10_solvedTerm_16 (by decide) (by omega) (by decide) (fun h_16 => ?_) (fun h_16 => ?_)
  · refine tz_aload_n (pc := 23) dX10_solvedTerm_23 rfl rfl ?_
    refine tz_aload_n (pc := 24) dX10_solvedTerm_24 rfl rfl ?_
    refine tz_aload_n (pc := 25) dX10_solvedTerm_25 rfl rfl ?_
    refine tz_iload_n (pc := 26) dX10_solvedTerm_26 rfl rfl ?_
    refine tz_iconst (pc := 27) dX10_solvedTerm_27 ?_
    have s_28 := ((UG.rf C hm hU)).1.2.2.2.1.1 (tm x) ht.1 ht.2
    have c_28 := ((UG.rf C hm hU)).1.1
    refine tz_cV (pc := 28) (c_part hl n _ _ _ (by omega) (by omega) 0 m ((UG.rf C hm hU)).1.2.1 (Or.inl (by omega)) (by rw [s_28.2.1]; omega)) vl_X10_93 dX10_solvedTerm_28 o_145 rfl rfl (Nat.le_of_ble_eq_true rfl) ⟨(show 1 + 1 ≤ d9 + 1 by omega), (show 8 + (3 + 11) + 40 * (1) ≤ 40 * (d9 + 1) by omega)⟩ rfl rfl (Nat.le_of_ble_eq_true rfl) (Nat.le_of_ble_eq_true rfl) (fun r9 J_28 hq9 => ?_)
    obtain ⟨z_28, rfl, hz_28, rfl, n_28⟩ := hq9
    have b_31 := ((UG.rf C hm hU)).1.2.1.told
    have r_31 := n_28.rg b_31.2
    refine tz_cV (pc := 31) (c_top hl n _ _ (by omega) 0 m b_31.2 n_28 ((UG.rf C hm hU)).2.1) vl_X10_54 dX10_solvedTerm_31 o_145 rfl rfl (Nat.le_of_ble_eq_true rfl) ⟨(show 2 + 1 ≤ d9 + 1 by omega), (show 8 + (4 + 11) + 40 * (2) ≤ 40 * (d9 + 1) by omega)⟩ rfl rfl (Nat.le_of_ble_eq_true rfl) (Nat.le_of_ble_eq_true rfl) (fun r9 J_31 hq9 => ?_)
    obtain ⟨z_31, rfl, hz_31, u_31, ⟨v_31, w_31⟩, f_31⟩ := hq9
    have q_31 := UG.top (UG.rf C hm hU) u_31 f_31
    have y_31 := v_31.z
    refine tz_iload_n (pc := 34) dX10_solvedTerm_34 rfl rfl ?_
    refine tz_iconst (pc := 35) dX10_solvedTerm_35 ?_
    refine tz_iadd (pc := 36) (v := lv + 1) dX10_solvedTerm_36 rfl ?_
    refine tz_cV (pc := 37) (H _ _ (by omega) m (q_31).1.2.1 (q_31).1.2.2.1 (q_31).2.1 y_31 (by rw [w_31, u_31.2.1])) vl_X10_102 dX10_solvedTerm_37 o_145 rfl rfl (Nat.le_of_ble_eq_true rfl) ⟨(show d9 + 1 ≤ d9 + 1 by omega), (show 8 + (4 + 11) + 40 * (d9) ≤ 40 * (d9 + 1) by omega)⟩ rfl rfl (Nat.le_of_ble_eq_true rfl) (Nat.le_of_ble_eq_true rfl) (fun r9 J_37 hq9 => ?_)
    obtain ⟨z_37, rfl, hz_37, m_37, g_37, h_37⟩ := hq9
    have q_37 := UG.tr q_31 g_37
    have d_37 := q_37.1.1
    have e_37 := g_37.1.1
    refine tz_istore (pc := 40) (L2 := [_, _, _, _, _, _, _]) dX10_solvedTerm_40 (by decide) rfl ?_
    refine tz_iload_n (pc := 42) dX10_solvedTerm_42 rfl rfl ?_
    refine tz_iconst (pc := 43) dX10_solvedTerm_43 ?_
    refine tz_icmp_ge (pc := 44) (tgt := 51) dX10_solvedTerm_44 (by decide) (by omega) (by decide) (fun h_44 => ?_) (fun h_44 => ?_)
    · refine tz_aload_n (pc := 51) dX10_solvedTerm_51 rfl rfl ?_
      refine tz_aload_n (pc := 52) dX10_solvedTerm_52 rfl rfl ?_
      refine tz_aload_n (pc := 53) dX10_solvedTerm_53 rfl rfl ?_
      refine tz_iload_n (pc := 54) dX10_solvedTerm_54 rfl rfl ?_
      refine tz_iconst (pc := 55) dX10_solvedTerm_55 ?_
      have s_56 := (q_37).1.2.2.2.1.1 (tm x) ht.1 ht.2
      have c_56 := (q_37).1.1
      refine tz_cV (pc := 56) (c_part hl n _ _ _ (by omega) (by omega) 0 m_37 (q_37).1.2.1 (Or.inl (by omega)) (by rw [s_56.2.1]; omega)) vl_X10_93 dX10_solvedTerm_56 o_145 rfl rfl (Nat.le_of_ble_eq_true rfl) ⟨(show 1 + 1 ≤ d9 + 1 by omega), (show 8 + (3 + 11) + 40 * (1) ≤ 40 * (d9 + 1) by omega)⟩ rfl rfl (Nat.le_of_ble_eq_true rfl) (Nat.le_of_ble_eq_true rfl) (fun r9 J_56 hq9 => ?_)
      obtain ⟨z_56, rfl, hz_56, rfl, n_56⟩ := hq9
      have b_59 := (q_37).1.2.1.told
      have r_59 := n_56.rg b_59.2
      refine tz_cV (pc := 59) (c_top hl n _ _ (by omega) 0 m_37 b_59.2 n_56 (q_37).2.1) vl_X10_54 dX10_solvedTerm_59 o_145 rfl rfl (Nat.le_of_ble_eq_true rfl) ⟨(show 2 + 1 ≤ d9 + 1 by omega), (show 8 + (4 + 11) + 40 * (2) ≤ 40 * (d9 + 1) by omega)⟩ rfl rfl (Nat.le_of_ble_eq_true rfl) (Nat.le_of_ble_eq_true rfl) (fun r9 J_59 hq9 => ?_)
      obtain ⟨z_59, rfl, hz_59, u_59, ⟨v_59, w_59⟩, f_59⟩ := hq9
      have q_59 := UG.top q_37 u_59 f_59
      have y_59 := v_59.z
      refine tz_iload_n (pc := 62) dX10_solvedTerm_62 rfl rfl ?_
      refine tz_iconst (pc := 63) dX10_solvedTerm_63 ?_
      refine tz_iadd (pc := 64) (v := lv + 1) dX10_solvedTerm_64 rfl ?_
      refine tz_cV (pc := 65) (H _ _ (by omega) m_37 (q_59).1.2.1 (q_59).1.2.2.1 (q_59).2.1 y_59 (by rw [w_59, u_59.2.1])) vl_X10_102 dX10_solvedTerm_65 o_145 rfl rfl (Nat.le_of_ble_eq_true rfl) ⟨(show d9 + 1 ≤ d9 + 1 by omega), (show 8 + (4 + 11) + 40 * (d9) ≤ 40 * (d9 + 1) by omega)⟩ rfl rfl (Nat.le_of_ble_eq_true rfl) (Nat.le_of_ble_eq_true rfl) (fun r9 J_65 hq9 => ?_)
      obtain ⟨z_65, rfl, hz_65, m_65, g_65, h_65⟩ := hq9
      have q_65 := UG.tr q_59 g_65
      have d_65 := q_65.1.1
      have e_65 := g_65.1.1
      refine tz_istore (pc := 68) (L2 := [_, _, _, _, _, _, _]) dX10_solvedTerm_68 (by decide) rfl ?_
      refine tz_iload_n (pc := 70) dX10_solvedTerm_70 rfl rfl ?_
      refine tz_iconst (pc := 71) dX10_solvedTerm_71 ?_
      refine tz_icmp_ge (pc := 72) (tgt := 79) dX10_solvedTerm_72 (by decide) (by omega) (by decide) (fun h_72 => ?_) (fun h_72 => ?_)
      · refine tz_aload_n (pc := 79) dX10_solvedTerm_79 rfl rfl ?_
        refine tz_aload_n (pc := 80) dX10_solvedTerm_80 rfl rfl ?_
        refine tz_aload_n (pc := 81) dX10_solvedTerm_81 rfl rfl ?_
        refine tz_iload_n (pc := 82) dX10_solvedTerm_82 rfl rfl ?_
        refine tz_iconst (pc := 83) dX10_solvedTerm_83 ?_
        have s_84 := (q_65).1.2.2.2.1.1 (tm x) ht.1 ht.2
        have c_84 := (q_65).1.1
        refine tz_cV (pc := 84) (c_part hl n _ _ _ (by omega) (by omega) 0 m_65 (q_65).1.2.1 (Or.inl (by omega)) (by rw [s_84.2.1]; omega)) vl_X10_93 dX10_solvedTerm_84 o_145 rfl rfl (Nat.le_of_ble_eq_true rfl) ⟨(show 1 + 1 ≤ d9 + 1 by omega), (show 8 + (3 + 11) + 40 * (1) ≤ 40 * (d9 + 1) by omega)⟩ rfl rfl (Nat.le_of_ble_eq_true rfl) (Nat.le_of_ble_eq_true rfl) (fun r9 J_84 hq9 => ?_)
        obtain ⟨z_84, rfl, hz_84, rfl, n_84⟩ := hq9
        have b_87 := (q_65).1.2.1.told
        have r_87 := n_84.rg b_87.2
        refine tz_cV (pc := 87) (c_top hl n _ _ (by omega) 0 m_65 b_87.2 n_84 (q_65).2.1) vl_X10_54 dX10_solvedTerm_87 o_145 rfl rfl (Nat.le_of_ble_eq_true rfl) ⟨(show 2 + 1 ≤ d9 + 1 by omega), (show 8 + (4 + 11) + 40 * (2) ≤ 40 * (d9 + 1) by omega)⟩ rfl rfl (Nat.le_of_ble_eq_true rfl) (Nat.le_of_ble_eq_true rfl) (fun r9 J_87 hq9 => ?_)
        obtain ⟨z_87, rfl, hz_87, u_87, ⟨v_87, w_87⟩, f_87⟩ := hq9
        have q_87 := UG.top q_65 u_87 f_87
        have y_87 := v_87.z
        refine tz_iload_n (pc := 90) dX10_solvedTerm_90 rfl rfl ?_
        refine tz_iconst (pc := 91) dX10_solvedTerm_91 ?_
        refine tz_iadd (pc := 92) (v := lv + 1) dX10_solvedTerm_92 rfl ?_
        refine tz_cV (pc := 93) (H _ _ (by omega) m_65 (q_87).1.2.1 (q_87).1.2.2.1 (q_87).2.1 y_87 (by rw [w_87, u_87.2.1])) vl_X10_102 dX10_solvedTerm_93 o_145 rfl rfl (Nat.le_of_ble_eq_true rfl) ⟨(show d9 + 1 ≤ d9 + 1 by omega), (show 8 + (4 + 11) + 40 * (d9) ≤ 40 * (d9 + 1) by omega)⟩ rfl rfl (Nat.le_of_ble_eq_true rfl) (Nat.le_of_ble_eq_true rfl) (fun r9 J_93 hq9 => ?_)
        obtain ⟨z_93, rfl, hz_93, m_93, g_93, h_93⟩ := hq9
        have q_93 := UG.tr q_87 g_93
        have d_93 := q_93.1.1
        have e_93 := g_93.1.1
        refine tz_istore (pc := 96) (L2 := [_, _, _, _, _, _, _]) dX10_solvedTerm_96 (by decide) rfl ?_
        refine tz_aload_n (pc := 98) dX10_solvedTerm_98 rfl rfl ?_
        refine tz_fR (pc := 99) dX10_solvedTerm_99 fl_X10_46 r_145_0 ?_
        refine tz_aload_n (pc := 102) dX10_solvedTerm_102 rfl rfl ?_
        refine tz_fR (pc := 103) dX10_solvedTerm_103 fl_X10_46 r_145_0 ?_
        refine tz_fR (pc := 106) dX10_solvedTerm_106 fl_X10_84 r_6_1 ?_
        refine tz_aload_n (pc := 109) dX10_solvedTerm_109 rfl rfl ?_
        refine tz_iload_n (pc := 110) dX10_solvedTerm_110 rfl rfl ?_
        refine tz_cV (pc := 111) (c_uTerm hl n _ _ (by omega) (by omega)) vl_X10_68 dX10_solvedTerm_111 o_145 rfl rfl (Nat.le_of_ble_eq_true rfl) ⟨(show 0 + 1 ≤ d9 + 1 by omega), (show 8 + (2 + 11) + 40 * (0) ≤ 40 * (d9 + 1) by omega)⟩ rfl rfl (Nat.le_of_ble_eq_true rfl) (Nat.le_of_ble_eq_true rfl) (fun r9 J_111 hq9 => ?_)
        obtain ⟨z_111, rfl, hz_111, rfl, rfl⟩ := hq9
        refine tz_aL (pc := 114) (z := (tm x)) (v := (J_93 7 (tm x))) dX10_solvedTerm_114 a_7 rfl (by omega) rfl (fun r_114 => ?_)
        refine tz_iload (pc := 115) dX10_solvedTerm_115 rfl ?_
        refine tz_iload (pc := 117) dX10_solvedTerm_117 rfl ?_
        refine tz_iload (pc := 119) dX10_solvedTerm_119 rfl ?_
        have z_9 := (q_93).1.2.1.ar (t := tm x) ht.1 (by have := (q_93).1.1; omega)
        have z_8 := (q_93).1.2.1.told
        refine tz_cV (pc := 121) (c_made hl n _ _ _ _ _ (by omega) (by omega) (by omega) (by omega) m_93 (q_93).1.2.1 (q_93).1.2.2.1 (by omega) (ltA_of (by omega) (by omega) (by omega))) vl_X10_108 dX10_solvedTerm_121 o_6 rfl rfl (Nat.le_of_ble_eq_true rfl) ⟨(show 2 + 1 ≤ d9 + 1 by omega), (show 8 + (11 + 11) + 40 * (2) ≤ 40 * (d9 + 1) by omega)⟩ rfl rfl (Nat.le_of_ble_eq_true rfl) (Nat.le_of_ble_eq_true rfl) (fun r9 J_121 hq9 => ?_)
        obtain ⟨z_121, rfl, hz_121, p_121⟩ := hq9
        obtain ⟨m_121, g_121, h_121⟩ := GR.made p_121 (by omega)
        have q_121 := UG.made q_93 g_121
        exact tz_iret (pc := 124) (z := z_121) dX10_solvedTerm_124 rfl (Nat.le_of_ble_eq_true rfl) (Nat.le_of_ble_eq_true rfl) ⟨Nat.le_refl _, Nat.le_add_right _ _⟩ ⟨_, rfl, (by omega), ⟨m_121, q_121, h_121⟩⟩
      · refine tz_iconst (pc := 75) dX10_solvedTerm_75 ?_
        refine tz_goto (pc := 76) (tgt := 96) dX10_solvedTerm_76 (by decide) ?_
        refine tz_istore (pc := 96) (L2 := [_, _, _, _, _, _, _]) dX10_solvedTerm_96 (by decide) rfl ?_
        refine tz_aload_n (pc := 98) dX10_solvedTerm_98 rfl rfl ?_
        refine tz_fR (pc := 99) dX10_solvedTerm_99 fl_X10_46 r_145_0 ?_
        refine tz_aload_n (pc := 102) dX10_solvedTerm_102 rfl rfl ?_
        refine tz_fR (pc := 103) dX10_solvedTerm_103 fl_X10_46 r_145_0 ?_
        refine tz_fR (pc := 106) dX10_solvedTerm_106 fl_X10_84 r_6_1 ?_
        refine tz_aload_n (pc := 109) dX10_solvedTerm_109 rfl rfl ?_
        refine tz_iload_n (pc := 110) dX10_solvedTerm_110 rfl rfl ?_
        refine tz_cV (pc := 111) (c_uTerm hl n _ _ (by omega) (by omega)) vl_X10_68 dX10_solvedTerm_111 o_145 rfl rfl (Nat.le_of_ble_eq_true rfl) ⟨(show 0 + 1 ≤ d9 + 1 by omega), (show 8 + (2 + 11) + 40 * (0) ≤ 40 * (d9 + 1) by omega)⟩ rfl rfl (Nat.le_of_ble_eq_true rfl) (Nat.le_of_ble_eq_true rfl) (fun r9 J_111 hq9 => ?_)
        obtain ⟨z_111, rfl, hz_111, rfl, rfl⟩ := hq9
        refine tz_aL (pc := 114) (z := (tm x)) (v := (J_65 7 (tm x))) dX10_solvedTerm_114 a_7 rfl (by omega) rfl (fun r_114 => ?_)
        refine tz_iload (pc := 115) dX10_solvedTerm_115 rfl ?_
        refine tz_iload (pc := 117) dX10_solvedTerm_117 rfl ?_
        refine tz_iload (pc := 119) dX10_solvedTerm_119 rfl ?_
        have z_9 := (q_65).1.2.1.ar (t := tm x) ht.1 (by have := (q_65).1.1; omega)
        have z_8 := (q_65).1.2.1.told
        refine tz_cV (pc := 121) (c_made hl n _ _ _ _ _ (by omega) (by omega) (by omega) (by omega) m_65 (q_65).1.2.1 (q_65).1.2.2.1 (by omega) (ltA_of (by omega) (by omega) (by omega))) vl_X10_108 dX10_solvedTerm_121 o_6 rfl rfl (Nat.le_of_ble_eq_true rfl) ⟨(show 2 + 1 ≤ d9 + 1 by omega), (show 8 + (11 + 11) + 40 * (2) ≤ 40 * (d9 + 1) by omega)⟩ rfl rfl (Nat.le_of_ble_eq_true rfl) (Nat.le_of_ble_eq_true rfl) (fun r9 J_121 hq9 => ?_)
        obtain ⟨z_121, rfl, hz_121, p_121⟩ := hq9
        obtain ⟨m_121, g_121, h_121⟩ := GR.made p_121 (by omega)
        have q_121 := UG.made q_65 g_121
        exact tz_iret (pc := 124) (z := z_121) dX10_solvedTerm_124 rfl (Nat.le_of_ble_eq_true rfl) (Nat.le_of_ble_eq_true rfl) ⟨Nat.le_refl _, Nat.le_add_right _ _⟩ ⟨_, rfl, (by omega), ⟨m_121, q_121, h_121⟩⟩
    · refine tz_iconst (pc := 47) dX10_solvedTerm_47 ?_
      refine tz_goto (pc := 48) (tgt := 68) dX10_solvedTerm_48 (by decide) ?_
      refine tz_istore (pc := 68) (L2 := [_, _, _, _, _, _, _]) dX10_solvedTerm_68 (by decide) rfl ?_
      refine tz_iload_n (pc := 70) dX10_solvedTerm_70 rfl rfl ?_
      refine tz_iconst (pc := 71) dX10_solvedTerm_71 ?_
      refine tz_icmp_ge (pc := 72) (tgt := 79) dX10_solvedTerm_72 (by decide) (by omega) (by decide) (fun h_72 => ?_) (fun h_72 => ?_)
      · refine tz_aload_n (pc := 79) dX10_solvedTerm_79 rfl rfl ?_
        refine tz_aload_n (pc := 80) dX10_solvedTerm_80 rfl rfl ?_
        refine tz_aload_n (pc := 81) dX10_solvedTerm_81 rfl rfl ?_
        refine tz_iload_n (pc := 82) dX10_solvedTerm_82 rfl rfl ?_
        refine tz_iconst (pc := 83) dX10_solvedTerm_83 ?_
        have s_84 := (q_37).1.2.2.2.1.1 (tm x) ht.1 ht.2
        have c_84 := (q_37).1.1
        refine tz_cV (pc := 84) (c_part hl n _ _ _ (by omega) (by omega) 0 m_37 (q_37).1.2.1 (Or.inl (by omega)) (by rw [s_84.2.1]; omega)) vl_X10_93 dX10_solvedTerm_84 o_145 rfl rfl (Nat.le_of_ble_eq_true rfl) ⟨(show 1 + 1 ≤ d9 + 1 by omega), (show 8 + (3 + 11) + 40 * (1) ≤ 40 * (d9 + 1) by omega)⟩ rfl rfl (Nat.le_of_ble_eq_true rfl) (Nat.le_of_ble_eq_true rfl) (fun r9 J_84 hq9 => ?_)
        obtain ⟨z_84, rfl, hz_84, rfl, n_84⟩ := hq9
        have b_87 := (q_37).1.2.1.told
        have r_87 := n_84.rg b_87.2
        refine tz_cV (pc := 87) (c_top hl n _ _ (by omega) 0 m_37 b_87.2 n_84 (q_37).2.1) vl_X10_54 dX10_solvedTerm_87 o_145 rfl rfl (Nat.le_of_ble_eq_true rfl) ⟨(show 2 + 1 ≤ d9 + 1 by omega), (show 8 + (4 + 11) + 40 * (2) ≤ 40 * (d9 + 1) by omega)⟩ rfl rfl (Nat.le_of_ble_eq_true rfl) (Nat.le_of_ble_eq_true rfl) (fun r9 J_87 hq9 => ?_)
        obtain ⟨z_87, rfl, hz_87, u_87, ⟨v_87, w_87⟩, f_87⟩ := hq9
        have q_87 := UG.top q_37 u_87 f_87
        have y_87 := v_87.z
        refine tz_iload_n (pc := 90) dX10_solvedTerm_90 rfl rfl ?_
        refine tz_iconst (pc := 91) dX10_solvedTerm_91 ?_
        refine tz_iadd (pc := 92) (v := lv + 1) dX10_solvedTerm_92 rfl ?_
        refine tz_cV (pc := 93) (H _ _ (by omega) m_37 (q_87).1.2.1 (q_87).1.2.2.1 (q_87).2.1 y_87 (by rw [w_87, u_87.2.1])) vl_X10_102 dX10_solvedTerm_93 o_145 rfl rfl (Nat.le_of_ble_eq_true rfl) ⟨(show d9 + 1 ≤ d9 + 1 by omega), (show 8 + (4 + 11) + 40 * (d9) ≤ 40 * (d9 + 1) by omega)⟩ rfl rfl (Nat.le_of_ble_eq_true rfl) (Nat.le_of_ble_eq_true rfl) (fun r9 J_93 hq9 => ?_)
        obtain ⟨z_93, rfl, hz_93, m_93, g_93, h_93⟩ := hq9
        have q_93 := UG.tr q_87 g_93
        have d_93 := q_93.1.1
        have e_93 := g_93.1.1
        refine tz_istore (pc := 96) (L2 := [_, _, _, _, _, _, _]) dX10_solvedTerm_96 (by decide) rfl ?_
        refine tz_aload_n (pc := 98) dX10_solvedTerm_98 rfl rfl ?_
        refine tz_fR (pc := 99) dX10_solvedTerm_99 fl_X10_46 r_145_0 ?_
        refine tz_aload_n (pc := 102) dX10_solvedTerm_102 rfl rfl ?_
        refine tz_fR (pc := 103) dX10_solvedTerm_103 fl_X10_46 r_145_0 ?_
        refine tz_fR (pc := 106) dX10_solvedTerm_106 fl_X10_84 r_6_1 ?_
        refine tz_aload_n (pc := 109) dX10_solvedTerm_109 rfl rfl ?_
        refine tz_iload_n (pc := 110) dX10_solvedTerm_110 rfl rfl ?_
        refine tz_cV (pc := 111) (c_uTerm hl n _ _ (by omega) (by omega)) vl_X10_68 dX10_solvedTerm_111 o_145 rfl rfl (Nat.le_of_ble_eq_true rfl) ⟨(show 0 + 1 ≤ d9 + 1 by omega), (show 8 + (2 + 11) + 40 * (0) ≤ 40 * (d9 + 1) by omega)⟩ rfl rfl (Nat.le_of_ble_eq_true rfl) (Nat.le_of_ble_eq_true rfl) (fun r9 J_111 hq9 => ?_)
        obtain ⟨z_111, rfl, hz_111, rfl, rfl⟩ := hq9
        refine tz_aL (pc := 114) (z := (tm x)) (v := (J_93 7 (tm x))) dX10_solvedTerm_114 a_7 rfl (by omega) rfl (fun r_114 => ?_)
        refine tz_iload (pc := 115) dX10_solvedTerm_115 rfl ?_
        refine tz_iload (pc := 117) dX10_solvedTerm_117 rfl ?_
        refine tz_iload (pc := 119) dX10_solvedTerm_119 rfl ?_
        have z_9 := (q_93).1.2.1.ar (t := tm x) ht.1 (by have := (q_93).1.1; omega)
        have z_8 := (q_93).1.2.1.told
        refine tz_cV (pc := 121) (c_made hl n _ _ _ _ _ (by omega) (by omega) (by omega) (by omega) m_93 (q_93).1.2.1 (q_93).1.2.2.1 (by omega) (ltA_of (by omega) (by omega) (by omega))) vl_X10_108 dX10_solvedTerm_121 o_6 rfl rfl (Nat.le_of_ble_eq_true rfl) ⟨(show 2 + 1 ≤ d9 + 1 by omega), (show 8 + (11 + 11) + 40 * (2) ≤ 40 * (d9 + 1) by omega)⟩ rfl rfl (Nat.le_of_ble_eq_true rfl) (Nat.le_of_ble_eq_true rfl) (fun r9 J_121 hq9 => ?_)
        obtain ⟨z_121, rfl, hz_121, p_121⟩ := hq9
        obtain ⟨m_121, g_121, h_121⟩ := GR.made p_121 (by omega)
        have q_121 := UG.made q_93 g_121
        exact tz_iret (pc := 124) (z := z_121) dX10_solvedTerm_124 rfl (Nat.le_of_ble_eq_true rfl) (Nat.le_of_ble_eq_true rfl) ⟨Nat.le_refl _, Nat.le_add_right _ _⟩ ⟨_, rfl, (by omega), ⟨m_121, q_121, h_121⟩⟩
      · refine tz_iconst (pc := 75) dX10_solvedTerm_75 ?_
        refine tz_goto (pc := 76) (tgt := 96) dX10_solvedTerm_76 (by decide) ?_
        refine tz_istore (pc := 96) (L2 := [_, _, _, _, _, _, _]) dX10_solvedTerm_96 (by decide) rfl ?_
        refine tz_aload_n (pc := 98) dX10_solvedTerm_98 rfl rfl ?_
        refine tz_fR (pc := 99) dX10_solvedTerm_99 fl_X10_46 r_145_0 ?_
        refine tz_aload_n (pc := 102) dX10_solvedTerm_102 rfl rfl ?_
        refine tz_fR (pc := 103) dX10_solvedTerm_103 fl_X10_46 r_145_0 ?_
        refine tz_fR (pc := 106) dX10_solvedTerm_106 fl_X10_84 r_6_1 ?_
        refine tz_aload_n (pc := 109) dX10_solvedTerm_109 rfl rfl ?_
        refine tz_iload_n (pc := 110) dX10_solvedTerm_110 rfl rfl ?_
        refine tz_cV (pc := 111) (c_uTerm hl n _ _ (by omega) (by omega)) vl_X10_68 dX10_solvedTerm_111 o_145 rfl rfl (Nat.le_of_ble_eq_true rfl) ⟨(show 0 + 1 ≤ d9 + 1 by omega), (show 8 + (2 + 11) + 40 * (0) ≤ 40 * (d9 + 1) by omega)⟩ rfl rfl (Nat.le_of_ble_eq_true rfl) (Nat.le_of_ble_eq_true rfl) (fun r9 J_111 hq9 => ?_)
        obtain ⟨z_111, rfl, hz_111, rfl, rfl⟩ := hq9
        refine tz_aL (pc := 114) (z := (tm x)) (v := (J_37 7 (tm x))) dX10_solvedTerm_114 a_7 rfl (by omega) rfl (fun r_114 => ?_)
        refine tz_iload (pc := 115) dX10_solvedTerm_115 rfl ?_
        refine tz_iload (pc := 117) dX10_solvedTerm_117 rfl ?_
        refine tz_iload (pc := 119) dX10_solvedTerm_119 rfl ?_
        have z_9 := (q_37).1.2.1.ar (t := tm x) ht.1 (by have := (q_37).1.1; omega)
        have z_8 := (q_37).1.2.1.told
        refine tz_cV (pc := 121) (c_made hl n _ _ _ _ _ (by omega) (by omega) (by omega) (by omega) m_37 (q_37).1.2.1 (q_37).1.2.2.1 (by omega) (ltA_of (by omega) (by omega) (by omega))) vl_X10_108 dX10_solvedTerm_121 o_6 rfl rfl (Nat.le_of_ble_eq_true rfl) ⟨(show 2 + 1 ≤ d9 + 1 by omega), (show 8 + (11 + 11) + 40 * (2) ≤ 40 * (d9 + 1) by omega)⟩ rfl rfl (Nat.le_of_ble_eq_true rfl) (Nat.le_of_ble_eq_true rfl) (fun r9 J_121 hq9 => ?_)
        obtain ⟨z_121, rfl, hz_121, p_121⟩ := hq9
        obtain ⟨m_121, g_121, h_121⟩ := GR.made p_121 (by omega)
        have q_121 := UG.made q_37 g_121
        exact tz_iret (pc := 124) (z := z_121) dX10_solvedTerm_124 rfl (Nat.le_of_ble_eq_true rfl) (Nat.le_of_ble_eq_true rfl) ⟨Nat.le_refl _, Nat.le_add_right _ _⟩ ⟨_, rfl, (by omega), ⟨m_121, q_121, h_121⟩⟩
  · refine tz_iconst (pc := 19) dX10_solvedTerm_19 ?_
    refine tz_goto (pc := 20) (tgt := 40) dX10_solvedTerm_20 (by decide) ?_
    refine tz_istore (pc := 40) (L2 := [_, _, _, _, _, _, _]) dX10_solvedTerm_40 (by decide) rfl ?_
    refine tz_iload_n (pc := 42) dX10_solvedTerm_42 rfl rfl ?_
    refine tz_iconst (pc := 43) dX10_solvedTerm_43 ?_
    refine tz_icmp_ge (pc := 44) (tgt := 51) dX10_solvedTerm_44 (by decide) (by omega) (by decide) (fun h_44 => ?_) (fun h_44 => ?_)
    · refine tz_aload_n (pc := 51) dX10_solvedTerm_51 rfl rfl ?_
      refine tz_aload_n (pc := 52) dX10_solvedTerm_52 rfl rfl ?_
      refine tz_aload_n (pc := 53) dX10_solvedTerm_53 rfl rfl ?_
      refine tz_iload_n (pc := 54) dX10_solvedTerm_54 rfl rfl ?_
      refine tz_iconst (pc := 55) dX10_solvedTerm_55 ?_
      have s_56 := ((UG.rf C hm hU)).1.2.2.2.1.1 (tm x) ht.1 ht.2
      have c_56 := ((UG.rf C hm hU)).1.1
      refine tz_cV (pc := 56) (c_part hl n _ _ _ (by omega) (by omega) 0 m ((UG.rf C hm hU)).1.2.1 (Or.inl (by omega)) (by rw [s_56.2.1]; omega)) vl_X10_93 dX10_solvedTerm_56 o_145 rfl rfl (Nat.le_of_ble_eq_true rfl) ⟨(show 1 + 1 ≤ d9 + 1 by omega), (show 8 + (3 + 11) + 40 * (1) ≤ 40 * (d9 + 1) by omega)⟩ rfl rfl (Nat.le_of_ble_eq_true rfl) (Nat.le_of_ble_eq_true rfl) (fun r9 J_56 hq9 => ?_)
      obtain ⟨z_56, rfl, hz_56, rfl, n_56⟩ := hq9
      have b_59 := ((UG.rf C hm hU)).1.2.1.told
      have r_59 := n_56.rg b_59.2
      refine tz_cV (pc := 59) (c_top hl n _ _ (by omega) 0 m b_59.2 n_56 ((UG.rf C hm hU)).2.1) vl_X10_54 dX10_solvedTerm_59 o_145 rfl rfl (Nat.le_of_ble_eq_true rfl) ⟨(show 2 + 1 ≤ d9 + 1 by omega), (show 8 + (4 + 11) + 40 * (2) ≤ 40 * (d9 + 1) by omega)⟩ rfl rfl (Nat.le_of_ble_eq_true rfl) (Nat.le_of_ble_eq_true rfl) (fun r9 J_59 hq9 => ?_)
      obtain ⟨z_59, rfl, hz_59, u_59, ⟨v_59, w_59⟩, f_59⟩ := hq9
      have q_59 := UG.top (UG.rf C hm hU) u_59 f_59
      have y_59 := v_59.z
      refine tz_iload_n (pc := 62) dX10_solvedTerm_62 rfl rfl ?_
      refine tz_iconst (pc := 63) dX10_solvedTerm_63 ?_
      refine tz_iadd (pc := 64) (v := lv + 1) dX10_solvedTerm_64 rfl ?_
      refine tz_cV (pc := 65) (H _ _ (by omega) m (q_59).1.2.1 (q_59).1.2.2.1 (q_59).2.1 y_59 (by rw [w_59, u_59.2.1])) vl_X10_102 dX10_solvedTerm_65 o_145 rfl rfl (Nat.le_of_ble_eq_true rfl) ⟨(show d9 + 1 ≤ d9 + 1 by omega), (show 8 + (4 + 11) + 40 * (d9) ≤ 40 * (d9 + 1) by omega)⟩ rfl rfl (Nat.le_of_ble_eq_true rfl) (Nat.le_of_ble_eq_true rfl) (fun r9 J_65 hq9 => ?_)
      obtain ⟨z_65, rfl, hz_65, m_65, g_65, h_65⟩ := hq9
      have q_65 := UG.tr q_59 g_65
      have d_65 := q_65.1.1
      have e_65 := g_65.1.1
      refine tz_istore (pc := 68) (L2 := [_, _, _, _, _, _, _]) dX10_solvedTerm_68 (by decide) rfl ?_
      refine tz_iload_n (pc := 70) dX10_solvedTerm_70 rfl rfl ?_
      refine tz_iconst (pc := 71) dX10_solvedTerm_71 ?_
      refine tz_icmp_ge (pc := 72) (tgt := 79) dX10_solvedTerm_72 (by decide) (by omega) (by decide) (fun h_72 => ?_) (fun h_72 => ?_)
      · refine tz_aload_n (pc := 79) dX10_solvedTerm_79 rfl rfl ?_
        refine tz_aload_n (pc := 80) dX10_solvedTerm_80 rfl rfl ?_
        refine tz_aload_n (pc := 81) dX10_solvedTerm_81 rfl rfl ?_
        refine tz_iload_n (pc := 82) dX10_solvedTerm_82 rfl rfl ?_
        refine tz_iconst (pc := 83) dX10_solvedTerm_83 ?_
        have s_84 := (q_65).1.2.2.2.1.1 (tm x) ht.1 ht.2
        have c_84 := (q_65).1.1
        refine tz_cV (pc := 84) (c_part hl n _ _ _ (by omega) (by omega) 0 m_65 (q_65).1.2.1 (Or.inl (by omega)) (by rw [s_84.2.1]; omega)) vl_X10_93 dX10_solvedTerm_84 o_145 rfl rfl (Nat.le_of_ble_eq_true rfl) ⟨(show 1 + 1 ≤ d9 + 1 by omega), (show 8 + (3 + 11) + 40 * (1) ≤ 40 * (d9 + 1) by omega)⟩ rfl rfl (Nat.le_of_ble_eq_true rfl) (Nat.le_of_ble_eq_true rfl) (fun r9 J_84 hq9 => ?_)
        obtain ⟨z_84, rfl, hz_84, rfl, n_84⟩ := hq9
        have b_87 := (q_65).1.2.1.told
        have r_87 := n_84.rg b_87.2
        refine tz_cV (pc := 87) (c_top hl n _ _ (by omega) 0 m_65 b_87.2 n_84 (q_65).2.1) vl_X10_54 dX10_solvedTerm_87 o_145 rfl rfl (Nat.le_of_ble_eq_true rfl) ⟨(show 2 + 1 ≤ d9 + 1 by omega), (show 8 + (4 + 11) + 40 * (2) ≤ 40 * (d9 + 1) by omega)⟩ rfl rfl (Nat.le_of_ble_eq_true rfl) (Nat.le_of_ble_eq_true rfl) (fun r9 J_87 hq9 => ?_)
        obtain ⟨z_87, rfl, hz_87, u_87, ⟨v_87, w_87⟩, f_87⟩ := hq9
        have q_87 := UG.top q_65 u_87 f_87
        have y_87 := v_87.z
        refine tz_iload_n (pc := 90) dX10_solvedTerm_90 rfl rfl ?_
        refine tz_iconst (pc := 91) dX10_solvedTerm_91 ?_
        refine tz_iadd (pc := 92) (v := lv + 1) dX10_solvedTerm_92 rfl ?_
        refine tz_cV (pc := 93) (H _ _ (by omega) m_65 (q_87).1.2.1 (q_87).1.2.2.1 (q_87).2.1 y_87 (by rw [w_87, u_87.2.1])) vl_X10_102 dX10_solvedTerm_93 o_145 rfl rfl (Nat.le_of_ble_eq_true rfl) ⟨(show d9 + 1 ≤ d9 + 1 by omega), (show 8 + (4 + 11) + 40 * (d9) ≤ 40 * (d9 + 1) by omega)⟩ rfl rfl (Nat.le_of_ble_eq_true rfl) (Nat.le_of_ble_eq_true rfl) (fun r9 J_93 hq9 => ?_)
        obtain ⟨z_93, rfl, hz_93, m_93, g_93, h_93⟩ := hq9
        have q_93 := UG.tr q_87 g_93
        have d_93 := q_93.1.1
        have e_93 := g_93.1.1
        refine tz_istore (pc := 96) (L2 := [_, _, _, _, _, _, _]) dX10_solvedTerm_96 (by decide) rfl ?_
        refine tz_aload_n (pc := 98) dX10_solvedTerm_98 rfl rfl ?_
        refine tz_fR (pc := 99) dX10_solvedTerm_99 fl_X10_46 r_145_0 ?_
        refine tz_aload_n (pc := 102) dX10_solvedTerm_102 rfl rfl ?_
        refine tz_fR (pc := 103) dX10_solvedTerm_103 fl_X10_46 r_145_0 ?_
        refine tz_fR (pc := 106) dX10_solvedTerm_106 fl_X10_84 r_6_1 ?_
        refine tz_aload_n (pc := 109) dX10_solvedTerm_109 rfl rfl ?_
        refine tz_iload_n (pc := 110) dX10_solvedTerm_110 rfl rfl ?_
        refine tz_cV (pc := 111) (c_uTerm hl n _ _ (by omega) (by omega)) vl_X10_68 dX10_solvedTerm_111 o_145 rfl rfl (Nat.le_of_ble_eq_true rfl) ⟨(show 0 + 1 ≤ d9 + 1 by omega), (show 8 + (2 + 11) + 40 * (0) ≤ 40 * (d9 + 1) by omega)⟩ rfl rfl (Nat.le_of_ble_eq_true rfl) (Nat.le_of_ble_eq_true rfl) (fun r9 J_111 hq9 => ?_)
        obtain ⟨z_111, rfl, hz_111, rfl, rfl⟩ := hq9
        refine tz_aL (pc := 114) (z := (tm x)) (v := (J_93 7 (tm x))) dX10_solvedTerm_114 a_7 rfl (by omega) rfl (fun r_114 => ?_)
        refine tz_iload (pc := 115) dX10_solvedTerm_115 rfl ?_
        refine tz_iload (pc := 117) dX10_solvedTerm_117 rfl ?_
        refine tz_iload (pc := 119) dX10_solvedTerm_119 rfl ?_
        have z_9 := (q_93).1.2.1.ar (t := tm x) ht.1 (by have := (q_93).1.1; omega)
        have z_8 := (q_93).1.2.1.told
        refine tz_cV (pc := 121) (c_made hl n _ _ _ _ _ (by omega) (by omega) (by omega) (by omega) m_93 (q_93).1.2.1 (q_93).1.2.2.1 (by omega) (ltA_of (by omega) (by omega) (by omega))) vl_X10_108 dX10_solvedTerm_121 o_6 rfl rfl (Nat.le_of_ble_eq_true rfl) ⟨(show 2 + 1 ≤ d9 + 1 by omega), (show 8 + (11 + 11) + 40 * (2) ≤ 40 * (d9 + 1) by omega)⟩ rfl rfl (Nat.le_of_ble_eq_true rfl) (Nat.le_of_ble_eq_true rfl) (fun r9 J_121 hq9 => ?_)
        obtain ⟨z_121, rfl, hz_121, p_121⟩ := hq9
        obtain ⟨m_121, g_121, h_121⟩ := GR.made p_121 (by omega)
        have q_121 := UG.made q_93 g_121
        exact tz_iret (pc := 124) (z := z_121) dX10_solvedTerm_124 rfl (Nat.le_of_ble_eq_true rfl) (Nat.le_of_ble_eq_true rfl) ⟨Nat.le_refl _, Nat.le_add_right _ _⟩ ⟨_, rfl, (by omega), ⟨m_121, q_121, h_121⟩⟩
      · refine tz_iconst (pc := 75) dX10_solvedTerm_75 ?_
        refine tz_goto (pc := 76) (tgt := 96) dX10_solvedTerm_76 (by decide) ?_
        refine tz_istore (pc := 96) (L2 := [_, _, _, _, _, _, _]) dX10_solvedTerm_96 (by decide) rfl ?_
        refine tz_aload_n (pc := 98) dX10_solvedTerm_98 rfl rfl ?_
        refine tz_fR (pc := 99) dX10_solvedTerm_99 fl_X10_46 r_145_0 ?_
        refine tz_aload_n (pc := 102) dX10_solvedTerm_102 rfl rfl ?_
        refine tz_fR (pc := 103) dX10_solvedTerm_103 fl_X10_46 r_145_0 ?_
        refine tz_fR (pc := 106) dX10_solvedTerm_106 fl_X10_84 r_6_1 ?_
        refine tz_aload_n (pc := 109) dX10_solvedTerm_109 rfl rfl ?_
        refine tz_iload_n (pc := 110) dX10_solvedTerm_110 rfl rfl ?_
        refine tz_cV (pc := 111) (c_uTerm hl n _ _ (by omega) (by omega)) vl_X10_68 dX10_solvedTerm_111 o_145 rfl rfl (Nat.le_of_ble_eq_true rfl) ⟨(show 0 + 1 ≤ d9 + 1 by omega), (show 8 + (2 + 11) + 40 * (0) ≤ 40 * (d9 + 1) by omega)⟩ rfl rfl (Nat.le_of_ble_eq_true rfl) (Nat.le_of_ble_eq_true rfl) (fun r9 J_111 hq9 => ?_)
        obtain ⟨z_111, rfl, hz_111, rfl, rfl⟩ := hq9
        refine tz_aL (pc := 114) (z := (tm x)) (v := (J_65 7 (tm x))) dX10_solvedTerm_114 a_7 rfl (by omega) rfl (fun r_114 => ?_)
        refine tz_iload (pc := 115) dX10_solvedTerm_115 rfl ?_
        refine tz_iload (pc := 117) dX10_solvedTerm_117 rfl ?_
        refine tz_iload (pc := 119) dX10_solvedTerm_119 rfl ?_
        have z_9 := (q_65).1.2.1.ar (t := tm x) ht.1 (by have := (q_65).1.1; omega)
        have z_8 := (q_65).1.2.1.told
        refine tz_cV (pc := 121) (c_made hl n _ _ _ _ _ (by omega) (by omega) (by omega) (by omega) m_65 (q_65).1.2.1 (q_65).1.2.2.1 (by omega) (ltA_of (by omega) (by omega) (by omega))) vl_X10_108 dX10_solvedTerm_121 o_6 rfl rfl (Nat.le_of_ble_eq_true rfl) ⟨(show 2 + 1 ≤ d9 + 1 by omega), (show 8 + (11 + 11) + 40 * (2) ≤ 40 * (d9 + 1) by omega)⟩ rfl rfl (Nat.le_of_ble_eq_true rfl) (Nat.le_of_ble_eq_true rfl) (fun r9 J_121 hq9 => ?_)
        obtain ⟨z_121, rfl, hz_121, p_121⟩ := hq9
        obtain ⟨m_121, g_121, h_121⟩ := GR.made p_121 (by omega)
        have q_121 := UG.made q_65 g_121
        exact tz_iret (pc := 124) (z := z_121) dX10_solvedTerm_124 rfl (Nat.le_of_ble_eq_true rfl) (Nat.le_of_ble_eq_true rfl) ⟨Nat.le_refl _, Nat.le_add_right _ _⟩ ⟨_, rfl, (by omega), ⟨m_121, q_121, h_121⟩⟩
    · refine tz_iconst (pc := 47) dX10_solvedTerm_47 ?_
      refine tz_goto (pc := 48) (tgt := 68) dX10_solvedTerm_48 (by decide) ?_
      refine tz_istore (pc := 68) (L2 := [_, _, _, _, _, _, _]) dX10_solvedTerm_68 (by decide) rfl ?_
      refine tz_iload_n (pc := 70) dX10_solvedTerm_70 rfl rfl ?_
      refine tz_iconst (pc := 71) dX10_solvedTerm_71 ?_
      refine tz_icmp_ge (pc := 72) (tgt := 79) dX10_solvedTerm_72 (by decide) (by omega) (by decide) (fun h_72 => ?_) (fun h_72 => ?_)
      · refine tz_aload_n (pc := 79) dX10_solvedTerm_79 rfl rfl ?_
        refine tz_aload_n (pc := 80) dX10_solvedTerm_80 rfl rfl ?_
        refine tz_aload_n (pc := 81) dX10_solvedTerm_81 rfl rfl ?_
        refine tz_iload_n (pc := 82) dX10_solvedTerm_82 rfl rfl ?_
        refine tz_iconst (pc := 83) dX10_solvedTerm_83 ?_
        have s_84 := ((UG.rf C hm hU)).1.2.2.2.1.1 (tm x) ht.1 ht.2
        have c_84 := ((UG.rf C hm hU)).1.1
        refine tz_cV (pc := 84) (c_part hl n _ _ _ (by omega) (by omega) 0 m ((UG.rf C hm hU)).1.2.1 (Or.inl (by omega)) (by rw [s_84.2.1]; omega)) vl_X10_93 dX10_solvedTerm_84 o_145 rfl rfl (Nat.le_of_ble_eq_true rfl) ⟨(show 1 + 1 ≤ d9 + 1 by omega), (show 8 + (3 + 11) + 40 * (1) ≤ 40 * (d9 + 1) by omega)⟩ rfl rfl (Nat.le_of_ble_eq_true rfl) (Nat.le_of_ble_eq_true rfl) (fun r9 J_84 hq9 => ?_)
        obtain ⟨z_84, rfl, hz_84, rfl, n_84⟩ := hq9
        have b_87 := ((UG.rf C hm hU)).1.2.1.told
        have r_87 := n_84.rg b_87.2
        refine tz_cV (pc := 87) (c_top hl n _ _ (by omega) 0 m b_87.2 n_84 ((UG.rf C hm hU)).2.1) vl_X10_54 dX10_solvedTerm_87 o_145 rfl rfl (Nat.le_of_ble_eq_true rfl) ⟨(show 2 + 1 ≤ d9 + 1 by omega), (show 8 + (4 + 11) + 40 * (2) ≤ 40 * (d9 + 1) by omega)⟩ rfl rfl (Nat.le_of_ble_eq_true rfl) (Nat.le_of_ble_eq_true rfl) (fun r9 J_87 hq9 => ?_)
        obtain ⟨z_87, rfl, hz_87, u_87, ⟨v_87, w_87⟩, f_87⟩ := hq9
        have q_87 := UG.top (UG.rf C hm hU) u_87 f_87
        have y_87 := v_87.z
        refine tz_iload_n (pc := 90) dX10_solvedTerm_90 rfl rfl ?_
        refine tz_iconst (pc := 91) dX10_solvedTerm_91 ?_
        refine tz_iadd (pc := 92) (v := lv + 1) dX10_solvedTerm_92 rfl ?_
        refine tz_cV (pc := 93) (H _ _ (by omega) m (q_87).1.2.1 (q_87).1.2.2.1 (q_87).2.1 y_87 (by rw [w_87, u_87.2.1])) vl_X10_102 dX10_solvedTerm_93 o_145 rfl rfl (Nat.le_of_ble_eq_true rfl) ⟨(show d9 + 1 ≤ d9 + 1 by omega), (show 8 + (4 + 11) + 40 * (d9) ≤ 40 * (d9 + 1) by omega)⟩ rfl rfl (Nat.le_of_ble_eq_true rfl) (Nat.le_of_ble_eq_true rfl) (fun r9 J_93 hq9 => ?_)
        obtain ⟨z_93, rfl, hz_93, m_93, g_93, h_93⟩ := hq9
        have q_93 := UG.tr q_87 g_93
        have d_93 := q_93.1.1
        have e_93 := g_93.1.1
        refine tz_istore (pc := 96) (L2 := [_, _, _, _, _, _, _]) dX10_solvedTerm_96 (by decide) rfl ?_
        refine tz_aload_n (pc := 98) dX10_solvedTerm_98 rfl rfl ?_
        refine tz_fR (pc := 99) dX10_solvedTerm_99 fl_X10_46 r_145_0 ?_
        refine tz_aload_n (pc := 102) dX10_solvedTerm_102 rfl rfl ?_
        refine tz_fR (pc := 103) dX10_solvedTerm_103 fl_X10_46 r_145_0 ?_
        refine tz_fR (pc := 106) dX10_solvedTerm_106 fl_X10_84 r_6_1 ?_
        refine tz_aload_n (pc := 109) dX10_solvedTerm_109 rfl rfl ?_
        refine tz_iload_n (pc := 110) dX10_solvedTerm_110 rfl rfl ?_
        refine tz_cV (pc := 111) (c_uTerm hl n _ _ (by omega) (by omega)) vl_X10_68 dX10_solvedTerm_111 o_145 rfl rfl (Nat.le_of_ble_eq_true rfl) ⟨(show 0 + 1 ≤ d9 + 1 by omega), (show 8 + (2 + 11) + 40 * (0) ≤ 40 * (d9 + 1) by omega)⟩ rfl rfl (Nat.le_of_ble_eq_true rfl) (Nat.le_of_ble_eq_true rfl) (fun r9 J_111 hq9 => ?_)
        obtain ⟨z_111, rfl, hz_111, rfl, rfl⟩ := hq9
        refine tz_aL (pc := 114) (z := (tm x)) (v := (J_93 7 (tm x))) dX10_solvedTerm_114 a_7 rfl (by omega) rfl (fun r_114 => ?_)
        refine tz_iload (pc := 115) dX10_solvedTerm_115 rfl ?_
        refine tz_iload (pc := 117) dX10_solvedTerm_117 rfl ?_
        refine tz_iload (pc := 119) dX10_solvedTerm_119 rfl ?_
        have z_9 := (q_93).1.2.1.ar (t := tm x) ht.1 (by have := (q_93).1.1; omega)
        have z_8 := (q_93).1.2.1.told
        refine tz_cV (pc := 121) (c_made hl n _ _ _ _ _ (by omega) (by omega) (by omega) (by omega) m_93 (q_93).1.2.1 (q_93).1.2.2.1 (by omega) (ltA_of (by omega) (by omega) (by omega))) vl_X10_108 dX10_solvedTerm_121 o_6 rfl rfl (Nat.le_of_ble_eq_true rfl) ⟨(show 2 + 1 ≤ d9 + 1 by omega), (show 8 + (11 + 11) + 40 * (2) ≤ 40 * (d9 + 1) by omega)⟩ rfl rfl (Nat.le_of_ble_eq_true rfl) (Nat.le_of_ble_eq_true rfl) (fun r9 J_121 hq9 => ?_)
        obtain ⟨z_121, rfl, hz_121, p_121⟩ := hq9
        obtain ⟨m_121, g_121, h_121⟩ := GR.made p_121 (by omega)
        have q_121 := UG.made q_93 g_121
        exact tz_iret (pc := 124) (z := z_121) dX10_solvedTerm_124 rfl (Nat.le_of_ble_eq_true rfl) (Nat.le_of_ble_eq_true rfl) ⟨Nat.le_refl _, Nat.le_add_right _ _⟩ ⟨_, rfl, (by omega), ⟨m_121, q_121, h_121⟩⟩
      · refine tz_iconst (pc := 75) dX10_solvedTerm_75 ?_
        refine tz_goto (pc := 76) (tgt := 96) dX10_solvedTerm_76 (by decide) ?_
        refine tz_istore (pc := 96) (L2 := [_, _, _, _, _, _, _]) dX10_solvedTerm_96 (by decide) rfl ?_
        refine tz_aload_n (pc := 98) dX10_solvedTerm_98 rfl rfl ?_
        refine tz_fR (pc := 99) dX10_solvedTerm_99 fl_X10_46 r_145_0 ?_
        refine tz_aload_n (pc := 102) dX10_solvedTerm_102 rfl rfl ?_
        refine tz_fR (pc := 103) dX10_solvedTerm_103 fl_X10_46 r_145_0 ?_
        refine tz_fR (pc := 106) dX10_solvedTerm_106 fl_X10_84 r_6_1 ?_
        refine tz_aload_n (pc := 109) dX10_solvedTerm_109 rfl rfl ?_
        refine tz_iload_n (pc := 110) dX10_solvedTerm_110 rfl rfl ?_
        refine tz_cV (pc := 111) (c_uTerm hl n _ _ (by omega) (by omega)) vl_X10_68 dX10_solvedTerm_111 o_145 rfl rfl (Nat.le_of_ble_eq_true rfl) ⟨(show 0 + 1 ≤ d9 + 1 by omega), (show 8 + (2 + 11) + 40 * (0) ≤ 40 * (d9 + 1) by omega)⟩ rfl rfl (Nat.le_of_ble_eq_true rfl) (Nat.le_of_ble_eq_true rfl) (fun r9 J_111 hq9 => ?_)
        obtain ⟨z_111, rfl, hz_111, rfl, rfl⟩ := hq9
        refine tz_aL (pc := 114) (z := (tm x)) (v := (J 7 (tm x))) dX10_solvedTerm_114 a_7 rfl (by omega) rfl (fun r_114 => ?_)
        refine tz_iload (pc := 115) dX10_solvedTerm_115 rfl ?_
        refine tz_iload (pc := 117) dX10_solvedTerm_117 rfl ?_
        refine tz_iload (pc := 119) dX10_solvedTerm_119 rfl ?_
        have z_9 := ((UG.rf C hm hU)).1.2.1.ar (t := tm x) ht.1 (by have := ((UG.rf C hm hU)).1.1; omega)
        have z_8 := ((UG.rf C hm hU)).1.2.1.told
        refine tz_cV (pc := 121) (c_made hl n _ _ _ _ _ (by omega) (by omega) (by omega) (by omega) m ((UG.rf C hm hU)).1.2.1 ((UG.rf C hm hU)).1.2.2.1 (by omega) (ltA_of (by omega) (by omega) (by omega))) vl_X10_108 dX10_solvedTerm_121 o_6 rfl rfl (Nat.le_of_ble_eq_true rfl) ⟨(show 2 + 1 ≤ d9 + 1 by omega), (show 8 + (11 + 11) + 40 * (2) ≤ 40 * (d9 + 1) by omega)⟩ rfl rfl (Nat.le_of_ble_eq_true rfl) (Nat.le_of_ble_eq_true rfl) (fun r9 J_121 hq9 => ?_)
        obtain ⟨z_121, rfl, hz_121, p_121⟩ := hq9
        obtain ⟨m_121, g_121, h_121⟩ := GR.made p_121 (by omega)
        have q_121 := UG.made (UG.rf C hm hU) g_121
        exact tz_iret (pc := 124) (z := z_121) dX10_solvedTerm_124 rfl (Nat.le_of_ble_eq_true rfl) (Nat.le_of_ble_eq_true rfl) ⟨Nat.le_refl _, Nat.le_add_right _ _⟩ ⟨_, rfl, (by omega), ⟨m_121, q_121, h_121⟩⟩

set_option maxHeartbeats 4000000 in
set_option maxRecDepth 100000 in
theorem c_solvedClass {l : Launch} {G : tb_G} (hl : l.stackTraces = false) (n : Nat) : ∀ (r9 : Nat) (J : zJ) (x : Int) (lv : Int) (hr_x : -2147483648 ≤ x ∧ x < 2147483648) (hr_lv : -2147483648 ≤ lv ∧ lv < 2147483648) (m : Int) (C : CT J m) (hm : J 6 12 = m) (hU : UI J 0 m) (hx : 0 ≤ x ∧ x < m) (ax : J 146 x = J 145 10), ((7 - lv).toNat) < r9 → tz_Ok l G M_X10_solvedClass (6 + 2 * r9) 0 0 [.ref 145, zi x, zi lv] n J (zqi (fun z J' => ∃ m', UG J' J m m' ∧ (z = -3 ∨ (0 ≤ z ∧ z < m')))) zN := by
  intro r9
  induction r9 with
  | zero => intro J x lv hr_x hr_lv m C hm hU hx ax hm9; exact absurd hm9 (Nat.not_lt_zero _)
  | succ r9 ih =>
    intro J x lv hr_x hr_lv m C hm hU hx ax hm9
    refine tz_Ok.of hl (by decide +kernel) rfl (tb_c1 rfl) (Nat.le_of_ble_eq_true rfl) ?_
    show tz_At l G M_X10_solvedClass (tb_rm (6 + 2 * (r9 + 1)) 0 0) none (tb_ZM G 0 0 (zQ n 0 (zqi (fun z J' => ∃ m', UG J' J m m' ∧ (z = -3 ∨ (0 ≤ z ∧ z < m'))))) (zX n 0 zN)) 0 0 n J 0 [some (.ref 145), some (zi x), some (zi lv), none] []
    have hb := C.told
    have hx9 := (UW.rf hU).at hb.2 (Or.inl hx) ax
    have hl9 := hx9.2.2.2.1.z
    have hs9 := hx9.2.2.2.2
    have ho9 : J 148 x = -1 ∨ (0 ≤ J 148 x ∧ J 148 x < m) := hx9.2.2.1.imp id (fun q => q.z)
    refine tz_iload_n (pc := 0) dX10_solvedClass_0 rfl rfl ?_
    refine tz_bipush (pc := 1) dX10_solvedClass_1 (by decide) ?_
    refine tz_icmp_le (pc := 3) (tgt := 9) dX10_solvedClass_3 (by decide) (by omega) (by decide) (fun h_3 => ?_) (fun h_3 => ?_)
    · refine tz_aload_n (pc := 9) dX10_solvedClass_9 rfl rfl ?_
      refine tz_fR (pc := 10) dX10_solvedClass_10 fl_X10_24 r_145_5 ?_
      refine tz_iload_n (pc := 13) dX10_solvedClass_13 rfl rfl ?_
      refine tz_aL (pc := 14) (z := x) (v := (J 150 x)) dX10_solvedClass_14 a_150 rfl (by omega) rfl (fun r_14 => ?_)
      refine tz_iconst (pc := 15) dX10_solvedClass_15 ?_
      refine tz_icmp_ne (pc := 16) (tgt := 52) dX10_solvedClass_16 (by decide) (by omega) (by decide) (fun h_16 => ?_) (fun h_16 => ?_)
      · refine tz_aload_n (pc := 52) dX10_solvedClass_52 rfl rfl ?_
        refine tz_fR (pc := 53) dX10_solvedClass_53 fl_X10_24 r_145_5 ?_
        refine tz_iload_n (pc := 56) dX10_solvedClass_56 rfl rfl ?_
        refine tz_aL (pc := 57) (z := x) (v := (J 150 x)) dX10_solvedClass_57 a_150 rfl (by omega) rfl (fun r_57 => ?_)
        exact tz_iret (pc := 58) (z := (J 150 x)) dX10_solvedClass_58 rfl (Nat.le_of_ble_eq_true rfl) (Nat.le_of_ble_eq_true rfl) ⟨Nat.le_refl _, Nat.le_add_right _ _⟩ ⟨_, rfl, (by omega), ⟨m, UG.rf C hm hU, by omega⟩⟩
      · refine tz_aload_n (pc := 19) dX10_solvedClass_19 rfl rfl ?_
        refine tz_fR (pc := 20) dX10_solvedClass_20 fl_X10_18 r_145_3 ?_
        refine tz_iload_n (pc := 23) dX10_solvedClass_23 rfl rfl ?_
        refine tz_aL (pc := 24) (z := x) (v := (J 148 x)) dX10_solvedClass_24 a_148 rfl (by omega) rfl (fun r_24 => ?_)
        refine tz_istore_n (pc := 25) (L2 := [_, _, _, _]) dX10_solvedClass_25 rfl (by decide) rfl ?_
        refine tz_aload_n (pc := 26) dX10_solvedClass_26 rfl rfl ?_
        refine tz_fR (pc := 27) dX10_solvedClass_27 fl_X10_24 r_145_5 ?_
        refine tz_iload_n (pc := 30) dX10_solvedClass_30 rfl rfl ?_
        refine tz_iload_n (pc := 31) dX10_solvedClass_31 rfl rfl ?_
        refine tz_iconst (pc := 32) dX10_solvedClass_32 ?_
        refine tz_icmp_ne (pc := 33) (tgt := 45) dX10_solvedClass_33 (by decide) (by omega) (by decide) (fun h_33 => ?_) (fun h_33 => ?_)
        · refine tz_aload_n (pc := 45) dX10_solvedClass_45 rfl rfl ?_
          refine tz_iload_n (pc := 46) dX10_solvedClass_46 rfl rfl ?_
          refine tz_iload_n (pc := 47) dX10_solvedClass_47 rfl rfl ?_
          refine tz_cV (pc := 48) (c_solvedTerm hl n _ _ _ (by omega) (by omega) (6 + 2 * r9) (by omega) (fun J x a m b c d e f => ih J x _ a (by omega) m b c d e f (by omega)) m C hm hU (by omega)) vl_X10_105 dX10_solvedClass_48 o_145 rfl rfl (Nat.le_of_ble_eq_true rfl) ⟨(show (6 + 2 * r9 + 1) + 1 ≤ 6 + 2 * (r9 + 1) by omega), (show 8 + (7 + 11) + 40 * ((6 + 2 * r9 + 1)) ≤ 40 * (6 + 2 * (r9 + 1)) by omega)⟩ rfl rfl (Nat.le_of_ble_eq_true rfl) (Nat.le_of_ble_eq_true rfl) (fun r9 J_48 hq9 => ?_)
          obtain ⟨z_48, rfl, hz_48, m_48, q_48, h_48⟩ := hq9
          refine tz_aS (pc := 51) (z := x) dX10_solvedClass_51 a_150 rfl (by omega) (by omega) ?_
          refine tz_aload_n (pc := 52) dX10_solvedClass_52 rfl rfl ?_
          refine tz_fR (pc := 53) dX10_solvedClass_53 fl_X10_24 r_145_5 ?_
          refine tz_iload_n (pc := 56) dX10_solvedClass_56 rfl rfl ?_
          refine tz_aL (pc := 57) (z := x) (v := z_48) dX10_solvedClass_57 a_150 rfl (by omega) (by simp [zup]) (fun r_57 => ?_)
          exact tz_iret (pc := 58) (z := z_48) dX10_solvedClass_58 rfl (Nat.le_of_ble_eq_true rfl) (Nat.le_of_ble_eq_true rfl) ⟨Nat.le_refl _, Nat.le_add_right _ _⟩ ⟨_, rfl, (by omega), ⟨m_48, q_48.sv h_48, h_48⟩⟩
        · refine tz_aload_n (pc := 36) dX10_solvedClass_36 rfl rfl ?_
          refine tz_fR (pc := 37) dX10_solvedClass_37 fl_X10_21 r_145_4 ?_
          refine tz_iload_n (pc := 40) dX10_solvedClass_40 rfl rfl ?_
          refine tz_aL (pc := 41) (z := x) (v := (J 149 x)) dX10_solvedClass_41 a_149 rfl (by omega) rfl (fun r_41 => ?_)
          refine tz_goto (pc := 42) (tgt := 51) dX10_solvedClass_42 (by decide) ?_
          refine tz_aS (pc := 51) (z := x) dX10_solvedClass_51 a_150 rfl (by omega) (by omega) ?_
          refine tz_aload_n (pc := 52) dX10_solvedClass_52 rfl rfl ?_
          refine tz_fR (pc := 53) dX10_solvedClass_53 fl_X10_24 r_145_5 ?_
          refine tz_iload_n (pc := 56) dX10_solvedClass_56 rfl rfl ?_
          refine tz_aL (pc := 57) (z := x) (v := (J 149 x)) dX10_solvedClass_57 a_150 rfl (by omega) (by simp [zup]) (fun r_57 => ?_)
          exact tz_iret (pc := 58) (z := (J 149 x)) dX10_solvedClass_58 rfl (Nat.le_of_ble_eq_true rfl) (Nat.le_of_ble_eq_true rfl) ⟨Nat.le_refl _, Nat.le_add_right _ _⟩ ⟨_, rfl, (by omega), ⟨m, (UG.rf C hm hU).sv (Or.inr hl9), Or.inr hl9⟩⟩
    · refine tz_bipush (pc := 6) dX10_solvedClass_6 (by decide) ?_
      exact tz_iret (pc := 8) (z := (-3)) dX10_solvedClass_8 rfl (Nat.le_of_ble_eq_true rfl) (Nat.le_of_ble_eq_true rfl) ⟨Nat.le_refl _, Nat.le_add_right _ _⟩ ⟨_, rfl, (by decide), ⟨m, UG.rf C hm hU, by omega⟩⟩

set_option maxHeartbeats 4000000 in
set_option maxRecDepth 100000 in
theorem c_boundOf {l : Launch} {G : tb_G} (hl : l.stackTraces = false) (n : Nat) (J : zJ) (x : Int) (hr_x : -2147483648 ≤ x ∧ x < 2147483648) (m : Int) (C : CT J m) (hm : J 6 12 = m) (hU : UI J 0 m) (hx : x = -3 ∨ (0 ≤ x ∧ x < m)) : tz_Ok l G M_X10_boundOf 21 0 0 [.ref 145, zi x] n J (zqi (fun z J' => ∃ m', UG J' J m m' ∧ (z = -3 ∨ (-1 ≤ z ∧ z < m')))) zN := by
  refine tz_Ok.of hl (by decide +kernel) rfl (tb_c1 rfl) (Nat.le_of_ble_eq_true rfl) ?_
  show tz_At l G M_X10_boundOf (tb_rm 21 0 0) none (tb_ZM G 0 0 (zQ n 0 (zqi (fun z J' => ∃ m', UG J' J m m' ∧ (z = -3 ∨ (-1 ≤ z ∧ z < m'))))) (zX n 0 zN)) 0 0 n J 0 [some (.ref 145), some (zi x), none] []
  have hb := C.told
  refine tz_iload_n (pc := 0) dX10_boundOf_0 rfl rfl ?_
  refine tz_if_ge (pc := 1) (tgt := 7) dX10_boundOf_1 (by decide) (by omega) (fun h_1 => ?_) (fun h_1 => ?_)
  · refine tz_aload_n (pc := 7) dX10_boundOf_7 rfl rfl ?_
    refine tz_iload_n (pc := 8) dX10_boundOf_8 rfl rfl ?_
    refine tz_cV (pc := 9) (c_top hl n _ _ (by omega) 0 m hb.2 (Or.inl (by omega)) hU) vl_X10_54 dX10_boundOf_9 o_145 rfl rfl (Nat.le_of_ble_eq_true rfl) ⟨(Nat.le_of_ble_eq_true rfl), (Nat.le_of_ble_eq_true rfl)⟩ rfl rfl (Nat.le_of_ble_eq_true rfl) (Nat.le_of_ble_eq_true rfl) (fun r9 J9 hq9 => ?_)
    obtain ⟨z9, rfl, hz_9, u_9, ⟨v_9, w_9⟩, f_9⟩ := hq9
    have q_9 := UG.top (UG.rf C hm hU) u_9 f_9
    refine tz_istore_n (pc := 12) (L2 := [_, _, _]) dX10_boundOf_12 rfl (by decide) rfl ?_
    have hu9 := u_9.at hb.2 v_9 w_9
    have hv9 := v_9.z
    have hl9 := hu9.2.2.2.1.z
    refine tz_aload_n (pc := 13) dX10_boundOf_13 rfl rfl ?_
    refine tz_fR (pc := 14) dX10_boundOf_14 fl_X10_18 r_145_3 ?_
    refine tz_iload_n (pc := 17) dX10_boundOf_17 rfl rfl ?_
    refine tz_aL (pc := 18) (z := z9) (v := (J9 148 z9)) dX10_boundOf_18 a_148 rfl (by omega) rfl (fun r_18 => ?_)
    refine tz_iconst (pc := 19) dX10_boundOf_19 ?_
    refine tz_icmp_eq (pc := 20) (tgt := 30) dX10_boundOf_20 (by decide) (by omega) (by decide) (fun h_20 => ?_) (fun h_20 => ?_)
    · refine tz_aload_n (pc := 30) dX10_boundOf_30 rfl rfl ?_
      refine tz_fR (pc := 31) dX10_boundOf_31 fl_X10_21 r_145_4 ?_
      refine tz_iload_n (pc := 34) dX10_boundOf_34 rfl rfl ?_
      refine tz_aL (pc := 35) (z := z9) (v := (J9 149 z9)) dX10_boundOf_35 a_149 rfl (by omega) rfl (fun r_35 => ?_)
      refine tz_iload_n (pc := 36) dX10_boundOf_36 rfl rfl ?_
      refine tz_icmp_ne (pc := 37) (tgt := 44) dX10_boundOf_37 (by decide) (by omega) (by omega) (fun h_37 => ?_) (fun h_37 => ?_)
      · refine tz_aload_n (pc := 44) dX10_boundOf_44 rfl rfl ?_
        refine tz_fR (pc := 45) dX10_boundOf_45 fl_X10_21 r_145_4 ?_
        refine tz_iload_n (pc := 48) dX10_boundOf_48 rfl rfl ?_
        refine tz_aL (pc := 49) (z := z9) (v := (J9 149 z9)) dX10_boundOf_49 a_149 rfl (by omega) rfl (fun r_49 => ?_)
        exact tz_iret (pc := 50) (z := (J9 149 z9)) dX10_boundOf_50 rfl (Nat.le_of_ble_eq_true rfl) (Nat.le_of_ble_eq_true rfl) ⟨Nat.le_refl _, Nat.le_add_right _ _⟩ ⟨_, rfl, (by omega), (by first | exact ⟨m1, q_9.tr g1, by omega⟩ | exact ⟨m, q_9, by omega⟩)⟩
      · refine tz_iconst (pc := 40) dX10_boundOf_40 ?_
        refine tz_goto (pc := 41) (tgt := 50) dX10_boundOf_41 (by decide) ?_
        exact tz_iret (pc := 50) (z := (-1)) dX10_boundOf_50 rfl (Nat.le_of_ble_eq_true rfl) (Nat.le_of_ble_eq_true rfl) ⟨Nat.le_refl _, Nat.le_add_right _ _⟩ ⟨_, rfl, (by decide), (by first | exact ⟨m1, q_9.tr g1, by omega⟩ | exact ⟨m, q_9, by omega⟩)⟩
    · refine tz_aload_n (pc := 23) dX10_boundOf_23 rfl rfl ?_
      refine tz_iload_n (pc := 24) dX10_boundOf_24 rfl rfl ?_
      refine tz_iconst (pc := 25) dX10_boundOf_25 ?_
      refine tz_cV (pc := 26) (c_solvedClass hl n 7 _ _ _ (by omega) (by omega) m q_9.1.2.1 q_9.1.2.2.1 u_9.1 hv9 (by rw [w_9, u_9.2.1]) (by decide)) vl_X10_102 dX10_boundOf_26 o_145 rfl rfl (Nat.le_of_ble_eq_true rfl) ⟨(Nat.le_of_ble_eq_true rfl), (Nat.le_of_ble_eq_true rfl)⟩ rfl rfl (Nat.le_of_ble_eq_true rfl) (Nat.le_of_ble_eq_true rfl) (fun r9 J_26 hq9 => ?_)
      obtain ⟨z_26, rfl, hz_26, m1, g1, h1⟩ := hq9
      exact tz_iret (pc := 29) (z := z_26) dX10_boundOf_29 rfl (Nat.le_of_ble_eq_true rfl) (Nat.le_of_ble_eq_true rfl) ⟨Nat.le_refl _, Nat.le_add_right _ _⟩ ⟨_, rfl, (by omega), (by first | exact ⟨m1, q_9.tr g1, by omega⟩ | exact ⟨m, q_9, by omega⟩)⟩
  · refine tz_bipush (pc := 4) dX10_boundOf_4 (by decide) ?_
    exact tz_iret (pc := 6) (z := (-3)) dX10_boundOf_6 rfl (Nat.le_of_ble_eq_true rfl) (Nat.le_of_ble_eq_true rfl) ⟨Nat.le_refl _, Nat.le_add_right _ _⟩ ⟨_, rfl, (by decide), ⟨m, UG.rf C hm hU, Or.inl rfl⟩⟩

theorem GX.b {J2 J1 J : zJ} {m m1 m2 : Int} (g : GX [19, 146, 147, 148, 149, 150, 154] J1 J m m1) (h : UG J2 J1 m1 m2) : GX [19, 146, 147, 148, 149, 150, 154] J2 J m m2 := g.tr (h.1.mono (fun c hc => by simp at hc ⊢; omega))
theorem UG.made0 {J2 J1 : zJ} {m1 m2 : Int} (hU : UI J1 0 m1) (h : GR J2 J1 m1 m2) : UI J2 0 m2 := hU.of h.1 (congrFun (h.2.2.2.2 145 rfl) 10) (fun c hc => h.2.2.2.2 c (by simp [zbut]; omega))
set_option maxHeartbeats 4000000 in
set_option maxRecDepth 100000 in
theorem c_bindAll {l : Launch} {G : tb_G} (hl : l.stackTraces = false) (n : Nat) (J : zJ) (bs : Int) (hr_bs : -2147483648 ≤ bs ∧ bs < 2147483648) (m : Int) (C : CT J m) (hm : J 6 12 = m) (hU : UI J 0 m) (hL : LI (J 19) m) (h0 : 0 ≤ J 145 10) : tz_Ok l G M_X10_bindAll 22 0 0 [.ref 145, zi bs, .ref 19, zi 7] n J (zqi (fun z J' => ∃ m', GX [19, 146, 147, 148, 149, 150, 154] J' J m m' ∧ RU J' ∧ LI (J' 19) m' ∧ (z = -3 ∨ z = 1))) zN := by
  refine tz_Ok.of hl (by decide +kernel) rfl (tb_c1 rfl) (Nat.le_of_ble_eq_true rfl) ?_
  show tz_At l G M_X10_bindAll (tb_rm 22 0 0) none (tb_ZM G 0 0 (zQ n 0 (zqi (fun z J' => ∃ m', GX [19, 146, 147, 148, 149, 150, 154] J' J m m' ∧ RU J' ∧ LI (J' 19) m' ∧ (z = -3 ∨ z = 1)))) (zX n 0 zN)) 0 0 n J 0 [some (.ref 145), some (zi bs), some (.ref 19), some (zi 7), none, none] []
  have hb := C.told
  refine tz_iconst (pc := 0) dX10_bindAll_0 ?_
  refine tz_istore (pc := 1) (L2 := [_, _, _, _, _, _]) dX10_bindAll_1 (by decide) rfl ?_
  have loop3 : ∀ (f9 : Nat) (v : Int) (d5 : Option Value) (J1 : zJ) (m1 : Int), ((8 - v).toNat) < f9 → (0 ≤ v ∧ v ≤ 8) → (GX [19, 146, 147, 148, 149, 150, 154] J1 J m m1) → (UI J1 0 m1) → (LI (J1 19) m1) → tz_At l G M_X10_bindAll (tb_rm 22 0 0) none (tb_ZM G 0 0 (zQ n 0 (zqi (fun z J' => ∃ m', GX [19, 146, 147, 148, 149, 150, 154] J' J m m' ∧ RU J' ∧ LI (J' 19) m' ∧ (z = -3 ∨ z = 1)))) (zX n 0 zN)) 0 0 n J1 3 [some (.ref 145), some (zi bs), some (.ref 19), some (zi 7), some (zi v), d5] [] := by
    intro f9
    induction f9 with
    | zero => intro v d5 J1 m1 hm9; exact absurd hm9 (Nat.not_lt_zero _)
    | succ f9 ih3 =>
      intro v d5 J1 m1 hm3 hv g1 u1 l1
      have b1 := g1.2.1.told
      have e1 := congrFun (g1.2.2.2.2 145 rfl) 10
      refine tz_iload (pc := 3) dX10_bindAll_3 rfl ?_
      refine tz_bipush (pc := 5) dX10_bindAll_5 (by decide) ?_
      refine tz_icmp_ge (pc := 7) (tgt := 62) dX10_bindAll_7 (by decide) (by omega) (by decide) (fun h_7 => ?_) (fun h_7 => ?_)
      · refine tz_iconst (pc := 62) dX10_bindAll_62 ?_
        exact tz_iret (pc := 63) (z := 1) dX10_bindAll_63 rfl (Nat.le_of_ble_eq_true rfl) (Nat.le_of_ble_eq_true rfl) ⟨Nat.le_refl _, Nat.le_add_right _ _⟩ ⟨_, rfl, (by decide), ⟨m1, g1, u1.rest (by omega), l1, by omega⟩⟩
      · refine tz_iload_n (pc := 10) dX10_bindAll_10 rfl rfl ?_
        refine tz_iload (pc := 11) dX10_bindAll_11 rfl ?_
        refine tz_ishr (pc := 13) (v := zshr bs v) dX10_bindAll_13 rfl ?_
        have r_13 := zshr_rg bs v
        refine tz_iconst (pc := 14) dX10_bindAll_14 ?_
        refine tz_iand (pc := 15) (v := zand (zshr bs v) 1) dX10_bindAll_15 rfl ?_
        refine tz_if_ne (pc := 16) (tgt := 23) dX10_bindAll_16 (by decide) (zand_rg _ _) (fun h_16 => ?_) (fun h_16 => ?_)
        · refine tz_aload_n (pc := 23) dX10_bindAll_23 rfl rfl ?_
          refine tz_aload_n (pc := 24) dX10_bindAll_24 rfl rfl ?_
          refine tz_fR (pc := 25) dX10_bindAll_25 fl_X10_46 r_145_0 ?_
          refine tz_iload (pc := 28) dX10_bindAll_28 rfl ?_
          refine tz_cV (pc := 30) (c_varTerm hl n _ _ (by omega) m1 g1.2.1 g1.2.2.1 (by omega)) vl_X10_96 dX10_bindAll_30 o_6 rfl rfl (Nat.le_of_ble_eq_true rfl) ⟨(Nat.le_of_ble_eq_true rfl), (Nat.le_of_ble_eq_true rfl)⟩ rfl rfl (Nat.le_of_ble_eq_true rfl) (Nat.le_of_ble_eq_true rfl) (fun r9 J_30 hq9 => ?_)
          obtain ⟨z_30, rfl, hz_30, p_30⟩ := hq9
          obtain ⟨m4, g4, h9⟩ := GR.made p_30 b1.2.1
          refine tz_cV (pc := 33) (c_boundOf hl n _ _ (by omega) m4 g4.2.1 g4.2.2.1 (UG.made0 u1 g4) (by omega)) vl_X10_99 dX10_bindAll_33 o_145 rfl rfl (Nat.le_of_ble_eq_true rfl) ⟨(Nat.le_of_ble_eq_true rfl), (Nat.le_of_ble_eq_true rfl)⟩ rfl rfl (Nat.le_of_ble_eq_true rfl) (Nat.le_of_ble_eq_true rfl) (fun r9 J_33 hq9 => ?_)
          obtain ⟨z_33, rfl, hz_33, m5, h4, h5⟩ := hq9
          have g5 := GX.b (g1.tr g4.x) h4
          have l5 : LI (J_33 19) m5 := by rw [h4.1.2.2.2.2 19 rfl, g4.2.2.2.2 19 rfl]; exact l1.mono (by have := g4.1; have := h4.1.1; omega)
          have b5 := g5.2.1.told
          refine tz_istore (pc := 36) (L2 := [_, _, _, _, _, _]) dX10_bindAll_36 (by decide) rfl ?_
          refine tz_iload (pc := 38) dX10_bindAll_38 rfl ?_
          refine tz_bipush (pc := 40) dX10_bindAll_40 (by decide) ?_
          refine tz_icmp_ne (pc := 42) (tgt := 48) dX10_bindAll_42 (by decide) (by omega) (by decide) (fun h_42 => ?_) (fun h_42 => ?_)
          · refine tz_aload_n (pc := 48) dX10_bindAll_48 rfl rfl ?_
            refine tz_iload_n (pc := 49) dX10_bindAll_49 rfl rfl ?_
            refine tz_iload (pc := 50) dX10_bindAll_50 rfl ?_
            refine tz_iadd (pc := 52) (v := 7 + v) dX10_bindAll_52 rfl ?_
            refine tz_iload (pc := 53) dX10_bindAll_53 rfl ?_
            refine tz_aS (pc := 55) (z := (7 + v)) dX10_bindAll_55 a_19 rfl (by omega) (by omega) ?_
            refine tz_iinc (pc := 56) (z := v + 1) (L2 := [_, _, _, _, _, _]) dX10_bindAll_56 rfl (by omega) rfl ?_
            refine tz_goto (pc := 59) (tgt := 3) dX10_bindAll_59 (by decide) ?_
            exact ih3 (v + 1) _ _ m5 (by omega) (by omega) (GX.off g5 rfl (zOf.up rfl zOf.rf)) (h4.2.1.of (Int.le_refl _) rfl (fun c hc => zup_nc (by omega))) (LI.bind l5 (by omega) (by omega))
          · refine tz_bipush (pc := 45) dX10_bindAll_45 (by decide) ?_
            exact tz_iret (pc := 47) (z := (-3)) dX10_bindAll_47 rfl (Nat.le_of_ble_eq_true rfl) (Nat.le_of_ble_eq_true rfl) ⟨Nat.le_refl _, Nat.le_add_right _ _⟩ ⟨_, rfl, (by decide), ⟨m5, g5, h4.2.1.rest (by have := congrFun (g5.2.2.2.2 145 rfl) 10; omega), l5, Or.inl rfl⟩⟩
        · refine tz_iconst (pc := 19) dX10_bindAll_19 ?_
          refine tz_goto (pc := 20) (tgt := 36) dX10_bindAll_20 (by decide) ?_
          refine tz_istore (pc := 36) (L2 := [_, _, _, _, _, _]) dX10_bindAll_36 (by decide) rfl ?_
          refine tz_iload (pc := 38) dX10_bindAll_38 rfl ?_
          refine tz_bipush (pc := 40) dX10_bindAll_40 (by decide) ?_
          refine tz_icmp_neT (pc := 42) (tgt := 48) (by decide) dX10_bindAll_42 (by decide) (by decide) (by decide) ?_
          refine tz_aload_n (pc := 48) dX10_bindAll_48 rfl rfl ?_
          refine tz_iload_n (pc := 49) dX10_bindAll_49 rfl rfl ?_
          refine tz_iload (pc := 50) dX10_bindAll_50 rfl ?_
          refine tz_iadd (pc := 52) (v := 7 + v) dX10_bindAll_52 rfl ?_
          refine tz_iload (pc := 53) dX10_bindAll_53 rfl ?_
          refine tz_aS (pc := 55) (z := (7 + v)) dX10_bindAll_55 a_19 rfl (by omega) (by decide) ?_
          refine tz_iinc (pc := 56) (z := v + 1) (L2 := [_, _, _, _, _, _]) dX10_bindAll_56 rfl (by omega) rfl ?_
          refine tz_goto (pc := 59) (tgt := 3) dX10_bindAll_59 (by decide) ?_
          exact ih3 (v + 1) _ _ m1 (by omega) (by omega) (GX.off g1 rfl (zOf.up rfl zOf.rf)) (u1.of (Int.le_refl _) rfl (fun c hc => zup_nc (by omega))) (LI.bind l1 (by omega) (by omega))
  exact loop3 _ 0 none _ m (Nat.lt_succ_self _) (by omega) (GX.rf C hm) hU hL

