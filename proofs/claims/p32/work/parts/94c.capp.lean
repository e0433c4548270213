section
/-! ===== applied of the class, exact ===== -/
theorem ap_v {J S : zJ} {β : Int → Int} {k : Nat} {t z m : Int} (hG : S 164 21 = 0) (E : A0 J S) (hm : J 6 12 = m) (ht : 0 ≤ t ∧ t < m) (hv : J 7 t < 0) (hz : 0 ≤ z) (e : (β (-1 - J 7 t) = -1 ∧ z = t) ∨ (¬ β (-1 - J 7 t) = -1 ∧ z = β (-1 - J 7 t))) : EXO (apO β (k + 1) S t) z J := by
  have eh : S 166 (0 + t) = J 7 t := (E.2.2.1 t ht.1 (by have := E.2.1; omega)).1.symm
  rw [apO_s, if_pos hG, eh, if_pos hv]
  refine Or.inr ⟨hz, hG, E, ?_⟩
  rcases e with ⟨a, b⟩ | ⟨a, b⟩
  · dsimp only; rw [if_pos a]; exact b
  · dsimp only; rw [if_neg a]; exact b
theorem ap_c {β : Int → Int} {k : Nat} {S J J' : zJ} {t z m : Int} (hG : S 164 21 = 0) (E : A0 J S) (hm : J 6 12 = m) (ht : 0 ≤ t ∧ t < m) (hv : ¬ J 7 t < 0) (e : EXO (apR (apO β k) S t) z J') : EXO (apO β (k + 1) S t) z J' := by
  have eh : S 166 (0 + t) = J 7 t := (E.2.2.1 t ht.1 (by have := E.2.1; omega)).1.symm
  rw [apO_s, if_pos hG, eh, if_neg hv]
  exact e
set_option maxHeartbeats 4000000 in
set_option maxRecDepth 100000 in
theorem x_app19_7 {l : Launch} {G : tb_G} (hl : l.stackTraces = false) (n : Nat) (J : zJ) (t : Int) (hr_t : -2147483648 ≤ t ∧ t < 2147483648) (m : Int) (C : CT J m) (hm : J 6 12 = m) (ht : 0 ≤ t ∧ t < m) (hr : rOK J 19 7 m) : tz_Ok l G M_X2_appliedPart 0 0 0 [.ref 141, zi t, .ref 19, zi 7, zi 7] n J (zqi (fun z J' => ∃ m', GR J' J m m' ∧ (z = -3 ∨ (0 ≤ z ∧ z < m')) ∧ ∀ (S : zJ) (β : Int → Int), (∀ v, 0 ≤ v → v < 8 → β v = J 19 (7 + v)) → S 164 21 = 0 → A0 J S → EXO (apO β 0 S t) z J')) zN := by
  refine tz_Ok.of hl (by decide +kernel) rfl (tb_c1 rfl) (Nat.le_of_ble_eq_true rfl) ?_
  show tz_At l G M_X2_appliedPart (tb_rm 0 0 0) none (tb_ZM G 0 0 (zQ n 0 (zqi (fun z J' => ∃ m', GR J' J m m' ∧ (z = -3 ∨ (0 ≤ z ∧ z < m')) ∧ ∀ (S : zJ) (β : Int → Int), (∀ v, 0 ≤ v → v < 8 → β v = J 19 (7 + v)) → S 164 21 = 0 → A0 J S → EXO (apO β 0 S t) z J'))) (zX n 0 zN)) 0 0 n J 0 [some (.ref 141), some (zi t), some (.ref 19), some (zi 7), some (zi 7), none, none, none, none] []
  refine tz_iload (pc := 0) dX2_appliedPart_0 rfl ?_
  refine tz_bipush (pc := 2) dX2_appliedPart_2 (by decide) ?_
  refine tz_icmp_leF (pc := 4) (tgt := 10) (by decide) dX2_appliedPart_4 (by decide) (by decide) (by decide) ?_
  refine tz_bipush (pc := 7) dX2_appliedPart_7 (by decide) ?_
  exact tz_iret (pc := 9) (z := (-3)) dX2_appliedPart_9 rfl (Nat.le_of_ble_eq_true rfl) (Nat.le_of_ble_eq_true rfl) ⟨Nat.le_refl _, Nat.le_add_right _ _⟩ ⟨_, rfl, (by decide), ⟨m, GR.rf C hm, Or.inl rfl, fun S β _ _ _ => Or.inl ⟨rfl, by show ¬ (1 : Int) = 0; decide⟩⟩⟩

set_option maxHeartbeats 4000000 in
set_option maxRecDepth 100000 in
theorem x_app19_6 {l : Launch} {G : tb_G} (hl : l.stackTraces = false) (n : Nat) (J : zJ) (t : Int) (hr_t : -2147483648 ≤ t ∧ t < 2147483648) (m : Int) (C : CT J m) (hm : J 6 12 = m) (ht : 0 ≤ t ∧ t < m) (hr : rOK J 19 7 m) : tz_Ok l G M_X2_appliedPart 3 0 0 [.ref 141, zi t, .ref 19, zi 7, zi 6] n J (zqi (fun z J' => ∃ m', GR J' J m m' ∧ (z = -3 ∨ (0 ≤ z ∧ z < m')) ∧ ∀ (S : zJ) (β : Int → Int), (∀ v, 0 ≤ v → v < 8 → β v = J 19 (7 + v)) → S 164 21 = 0 → A0 J S → EXO (apO β 1 S t) z J')) zN := by
  refine tz_Ok.of hl (by decide +kernel) rfl (tb_c1 rfl) (Nat.le_of_ble_eq_true rfl) ?_
  show tz_At l G M_X2_appliedPart (tb_rm 3 0 0) none (tb_ZM G 0 0 (zQ n 0 (zqi (fun z J' => ∃ m', GR J' J m m' ∧ (z = -3 ∨ (0 ≤ z ∧ z < m')) ∧ ∀ (S : zJ) (β : Int → Int), (∀ v, 0 ≤ v → v < 8 → β v = J 19 (7 + v)) → S 164 21 = 0 → A0 J S → EXO (apO β 1 S t) z J'))) (zX n 0 zN)) 0 0 n J 0 [some (.ref 141), some (zi t), some (.ref 19), some (zi 7), some (zi 6), none, none, none, none] []
  have hb := C.told
  have ha := C.ar ht.1 ht.2
  refine tz_iload (pc := 0) dX2_appliedPart_0 rfl ?_
  refine tz_bipush (pc := 2) dX2_appliedPart_2 (by decide) ?_
  refine tz_icmp_leT (pc := 4) (tgt := 10) (by decide) dX2_appliedPart_4 (by decide) (by decide) (by decide) ?_
  refine tz_aload_n (pc := 10) dX2_appliedPart_10 rfl rfl ?_
  refine tz_fR (pc := 11) dX2_appliedPart_11 fl_X2_28 r_141_0 ?_
  refine tz_iload_n (pc := 14) dX2_appliedPart_14 rfl rfl ?_
  refine tz_cV (pc := 15) (c_isVar hl n _ _ (by omega) (by omega)) vl_X2_36 dX2_appliedPart_15 o_6 rfl rfl (Nat.le_of_ble_eq_true rfl) ⟨(Nat.le_of_ble_eq_true rfl), (Nat.le_of_ble_eq_true rfl)⟩ rfl rfl (Nat.le_of_ble_eq_true rfl) (Nat.le_of_ble_eq_true rfl) (fun r9 J_15 hq9 => ?_)
  obtain ⟨z_15, rfl, hz_15, rfl, rfl⟩ := hq9
  by_cases hw_18 : J 7 t < 0
  · rw [show (if J 7 t < 0 then 1 else 0 : Int) = 1 from if_pos hw_18]
    refine tz_if_eqF (pc := 18) (tgt := 51) (by decide) dX2_appliedPart_18 (by decide) (by decide) ?_
    refine tz_aload_n (pc := 21) dX2_appliedPart_21 rfl rfl ?_
    refine tz_iload_n (pc := 22) dX2_appliedPart_22 rfl rfl ?_
    refine tz_aload_n (pc := 23) dX2_appliedPart_23 rfl rfl ?_
    refine tz_fR (pc := 24) dX2_appliedPart_24 fl_X2_28 r_141_0 ?_
    refine tz_fR (pc := 27) dX2_appliedPart_27 fl_X2_42 r_6_1 ?_
    refine tz_iload_n (pc := 30) dX2_appliedPart_30 rfl rfl ?_
    refine tz_aL (pc := 31) (z := t) (v := (J 7 t)) dX2_appliedPart_31 a_7 rfl (by omega) rfl (fun r_31 => ?_)
    refine tz_iconst (pc := 32) dX2_appliedPart_32 ?_
    refine tz_ixor (pc := 33) (v := -1 - J 7 t) dX2_appliedPart_33 (z_nn (by omega)) ?_
    refine tz_iadd (pc := 34) (v := 7 + (-1 - J 7 t)) dX2_appliedPart_34 rfl ?_
    have hv := hr (-1 - J 7 t) (by omega) (by omega)
    refine tz_aL (pc := 35) (z := (7 + (-1 - J 7 t))) (v := (J 19 (7 + (-1 - J 7 t)))) dX2_appliedPart_35 a_19 rfl (by omega) rfl (fun r_35 => ?_)
    refine tz_istore (pc := 36) (L2 := [_, _, _, _, _, _, _, _, _]) dX2_appliedPart_36 (by decide) rfl ?_
    refine tz_iload (pc := 38) dX2_appliedPart_38 rfl ?_
    refine tz_iconst (pc := 40) dX2_appliedPart_40 ?_
    refine tz_icmp_ne (pc := 41) (tgt := 48) dX2_appliedPart_41 (by decide) (by omega) (by decide) (fun h_41 => ?_) (fun h_41 => ?_)
    · refine tz_iload (pc := 48) dX2_appliedPart_48 rfl ?_
      exact tz_iret (pc := 50) (z := (J 19 (7 + (-1 - J 7 t)))) dX2_appliedPart_50 rfl (Nat.le_of_ble_eq_true rfl) (Nat.le_of_ble_eq_true rfl) ⟨Nat.le_refl _, Nat.le_add_right _ _⟩ ⟨_, rfl, (by omega), ⟨m, GR.rf C hm, Or.inr (by omega), fun S β hβ hG E => ap_v hG E hm ht (by omega) (by omega) (by have := hβ (-1 - J 7 t) (by omega) (by omega); rw [this]; omega)⟩⟩
    · refine tz_iload_n (pc := 44) dX2_appliedPart_44 rfl rfl ?_
      refine tz_goto (pc := 45) (tgt := 50) dX2_appliedPart_45 (by decide) ?_
      exact tz_iret (pc := 50) (z := t) dX2_appliedPart_50 rfl (Nat.le_of_ble_eq_true rfl) (Nat.le_of_ble_eq_true rfl) ⟨Nat.le_refl _, Nat.le_add_right _ _⟩ ⟨_, rfl, (by omega), ⟨m, GR.rf C hm, Or.inr (by omega), fun S β hβ hG E => ap_v hG E hm ht (by omega) (by omega) (by have := hβ (-1 - J 7 t) (by omega) (by omega); rw [this]; omega)⟩⟩
  · rw [show (if J 7 t < 0 then 1 else 0 : Int) = 0 from if_neg hw_18]
    refine tz_if_eqT (pc := 18) (tgt := 51) (by decide) dX2_appliedPart_18 (by decide) (by decide) ?_
    refine tz_aload_n (pc := 51) dX2_appliedPart_51 rfl rfl ?_
    refine tz_fR (pc := 52) dX2_appliedPart_52 fl_X2_28 r_141_0 ?_
    refine tz_fR (pc := 55) dX2_appliedPart_55 fl_X2_45 r_6_2 ?_
    refine tz_iload_n (pc := 58) dX2_appliedPart_58 rfl rfl ?_
    refine tz_aL (pc := 59) (z := t) (v := (J 8 t)) dX2_appliedPart_59 a_8 rfl (by omega) rfl (fun r_59 => ?_)
    refine tz_istore (pc := 60) (L2 := [_, _, _, _, _, _, _, _, _]) dX2_appliedPart_60 (by decide) rfl ?_
    refine tz_iload (pc := 62) dX2_appliedPart_62 rfl ?_
    refine tz_iconst (pc := 64) dX2_appliedPart_64 ?_
    refine tz_icmp_ge (pc := 65) (tgt := 72) dX2_appliedPart_65 (by decide) (by omega) (by decide) (fun h_65 => ?_) (fun h_65 => ?_)
    · refine tz_aload_n (pc := 72) dX2_appliedPart_72 rfl rfl ?_
      refine tz_aload_n (pc := 73) dX2_appliedPart_73 rfl rfl ?_
      refine tz_fR (pc := 74) dX2_appliedPart_74 fl_X2_28 r_141_0 ?_
      refine tz_iload_n (pc := 77) dX2_appliedPart_77 rfl rfl ?_
      refine tz_iconst (pc := 78) dX2_appliedPart_78 ?_
      refine tz_cV (pc := 79) (c_arg hl n _ _ _ (by omega) (by decide) (by omega)) vl_X2_48 dX2_appliedPart_79 o_6 rfl rfl (Nat.le_of_ble_eq_true rfl) ⟨(Nat.le_of_ble_eq_true rfl), (Nat.le_of_ble_eq_true rfl)⟩ rfl rfl (Nat.le_of_ble_eq_true rfl) (Nat.le_of_ble_eq_true rfl) (fun r9 J_79 hq9 => ?_)
      obtain ⟨z_79, rfl, hz_79, rfl, rfl⟩ := hq9
      refine tz_aload_n (pc := 82) dX2_appliedPart_82 rfl rfl ?_
      refine tz_iload_n (pc := 83) dX2_appliedPart_83 rfl rfl ?_
      refine tz_iload (pc := 84) dX2_appliedPart_84 rfl ?_
      refine tz_iconst (pc := 86) dX2_appliedPart_86 ?_
      refine tz_iadd (pc := 87) (v := 7) dX2_appliedPart_87 (by decide) ?_
      have b_88 := GR.arg (GR.rf C hm) C ht (i := 0) (by omega)
      have c_88 := ((GR.rf C hm)).1
      refine tz_cV (pc := 88) (x_app19_7 hl n _ _ (by omega) m ((GR.rf C hm)).2.1 ((GR.rf C hm)).2.2.1 (by omega) (GR.row (GR.rf C hm) rfl hr)) vl_X2_32 dX2_appliedPart_88 o_141 rfl rfl (Nat.le_of_ble_eq_true rfl) ⟨(Nat.le_of_ble_eq_true rfl), (Nat.le_of_ble_eq_true rfl)⟩ rfl rfl (Nat.le_of_ble_eq_true rfl) (Nat.le_of_ble_eq_true rfl) (fun r9 J_88 hq9 => ?_)
      obtain ⟨z_88, rfl, hz_88, m_88, g_88, hz_88, x_88⟩ := hq9
      have q_88 := GR.tr (GR.rf C hm) g_88
      have d_88 := q_88.1
      have e_88 := g_88.1
      have u_88 : J 19 = J 19 := ((GR.rf C hm)).2.2.2.2 19 rfl
      have k8_88 : J 8 t = J 8 t := (((GR.rf C hm)).2.2.2.1.1 t ht.1 ht.2).2.1
      refine tz_istore (pc := 91) (L2 := [_, _, _, _, _, _, _, _, _]) dX2_appliedPart_91 (by decide) rfl ?_
      refine tz_iload (pc := 93) dX2_appliedPart_93 rfl ?_
      refine tz_iconst (pc := 95) dX2_appliedPart_95 ?_
      refine tz_icmp_ge (pc := 96) (tgt := 103) dX2_appliedPart_96 (by decide) (by omega) (by decide) (fun h_96 => ?_) (fun h_96 => ?_)
      · refine tz_aload_n (pc := 103) dX2_appliedPart_103 rfl rfl ?_
        refine tz_aload_n (pc := 104) dX2_appliedPart_104 rfl rfl ?_
        refine tz_fR (pc := 105) dX2_appliedPart_105 fl_X2_28 r_141_0 ?_
        refine tz_iload_n (pc := 108) dX2_appliedPart_108 rfl rfl ?_
        refine tz_iconst (pc := 109) dX2_appliedPart_109 ?_
        refine tz_cV (pc := 110) (c_arg hl n _ _ _ (by omega) (by decide) (by omega)) vl_X2_48 dX2_appliedPart_110 o_6 rfl rfl (Nat.le_of_ble_eq_true rfl) ⟨(Nat.le_of_ble_eq_true rfl), (Nat.le_of_ble_eq_true rfl)⟩ rfl rfl (Nat.le_of_ble_eq_true rfl) (Nat.le_of_ble_eq_true rfl) (fun r9 J_110 hq9 => ?_)
        obtain ⟨z_110, rfl, hz_110, rfl, rfl⟩ := hq9
        refine tz_aload_n (pc := 113) dX2_appliedPart_113 rfl rfl ?_
        refine tz_iload_n (pc := 114) dX2_appliedPart_114 rfl rfl ?_
        refine tz_iload (pc := 115) dX2_appliedPart_115 rfl ?_
        refine tz_iconst (pc := 117) dX2_appliedPart_117 ?_
        refine tz_iadd (pc := 118) (v := 7) dX2_appliedPart_118 (by decide) ?_
        have b_119 := GR.arg q_88 C ht (i := 1) (by omega)
        have c_119 := (q_88).1
        refine tz_cV (pc := 119) (x_app19_7 hl n _ _ (by omega) m_88 (q_88).2.1 (q_88).2.2.1 (by omega) (GR.row q_88 rfl hr)) vl_X2_32 dX2_appliedPart_119 o_141 rfl rfl (Nat.le_of_ble_eq_true rfl) ⟨(Nat.le_of_ble_eq_true rfl), (Nat.le_of_ble_eq_true rfl)⟩ rfl rfl (Nat.le_of_ble_eq_true rfl) (Nat.le_of_ble_eq_true rfl) (fun r9 J_119 hq9 => ?_)
        obtain ⟨z_119, rfl, hz_119, m_119, g_119, hz_119, x_119⟩ := hq9
        have q_119 := GR.tr q_88 g_119
        have d_119 := q_119.1
        have e_119 := g_119.1
        have u_119 : J_88 19 = J 19 := (q_88).2.2.2.2 19 rfl
        have k8_119 : J_88 8 t = J 8 t := ((q_88).2.2.2.1.1 t ht.1 ht.2).2.1
        refine tz_istore (pc := 122) (L2 := [_, _, _, _, _, _, _, _, _]) dX2_appliedPart_122 (by decide) rfl ?_
        refine tz_iload (pc := 124) dX2_appliedPart_124 rfl ?_
        refine tz_iconst (pc := 126) dX2_appliedPart_126 ?_
        refine tz_icmp_ge (pc := 127) (tgt := 134) dX2_appliedPart_127 (by decide) (by omega) (by decide) (fun h_127 => ?_) (fun h_127 => ?_)
        · refine tz_aload_n (pc := 134) dX2_appliedPart_134 rfl rfl ?_
          refine tz_aload_n (pc := 135) dX2_appliedPart_135 rfl rfl ?_
          refine tz_fR (pc := 136) dX2_appliedPart_136 fl_X2_28 r_141_0 ?_
          refine tz_iload_n (pc := 139) dX2_appliedPart_139 rfl rfl ?_
          refine tz_iconst (pc := 140) dX2_appliedPart_140 ?_
          refine tz_cV (pc := 141) (c_arg hl n _ _ _ (by omega) (by decide) (by omega)) vl_X2_48 dX2_appliedPart_141 o_6 rfl rfl (Nat.le_of_ble_eq_true rfl) ⟨(Nat.le_of_ble_eq_true rfl), (Nat.le_of_ble_eq_true rfl)⟩ rfl rfl (Nat.le_of_ble_eq_true rfl) (Nat.le_of_ble_eq_true rfl) (fun r9 J_141 hq9 => ?_)
          obtain ⟨z_141, rfl, hz_141, rfl, rfl⟩ := hq9
          refine tz_aload_n (pc := 144) dX2_appliedPart_144 rfl rfl ?_
          refine tz_iload_n (pc := 145) dX2_appliedPart_145 rfl rfl ?_
          refine tz_iload (pc := 146) dX2_appliedPart_146 rfl ?_
          refine tz_iconst (pc := 148) dX2_appliedPart_148 ?_
          refine tz_iadd (pc := 149) (v := 7) dX2_appliedPart_149 (by decide) ?_
          have b_150 := GR.arg q_119 C ht (i := 2) (by omega)
          have c_150 := (q_119).1
          refine tz_cV (pc := 150) (x_app19_7 hl n _ _ (by omega) m_119 (q_119).2.1 (q_119).2.2.1 (by omega) (GR.row q_119 rfl hr)) vl_X2_32 dX2_appliedPart_150 o_141 rfl rfl (Nat.le_of_ble_eq_true rfl) ⟨(Nat.le_of_ble_eq_true rfl), (Nat.le_of_ble_eq_true rfl)⟩ rfl rfl (Nat.le_of_ble_eq_true rfl) (Nat.le_of_ble_eq_true rfl) (fun r9 J_150 hq9 => ?_)
          obtain ⟨z_150, rfl, hz_150, m_150, g_150, hz_150, x_150⟩ := hq9
          have q_150 := GR.tr q_119 g_150
          have d_150 := q_150.1
          have e_150 := g_150.1
          have u_150 : J_119 19 = J 19 := (q_119).2.2.2.2 19 rfl
          have k8_150 : J_119 8 t = J 8 t := ((q_119).2.2.2.1.1 t ht.1 ht.2).2.1
          refine tz_istore (pc := 153) (L2 := [_, _, _, _, _, _, _, _, _]) dX2_appliedPart_153 (by decide) rfl ?_
          refine tz_aload_n (pc := 155) dX2_appliedPart_155 rfl rfl ?_
          refine tz_fR (pc := 156) dX2_appliedPart_156 fl_X2_28 r_141_0 ?_
          refine tz_aload_n (pc := 159) dX2_appliedPart_159 rfl rfl ?_
          refine tz_fR (pc := 160) dX2_appliedPart_160 fl_X2_28 r_141_0 ?_
          refine tz_fR (pc := 163) dX2_appliedPart_163 fl_X2_42 r_6_1 ?_
          refine tz_iload_n (pc := 166) dX2_appliedPart_166 rfl rfl ?_
          refine tz_aL (pc := 167) (z := t) (v := (J_150 7 t)) dX2_appliedPart_167 a_7 rfl (by omega) rfl (fun r_167 => ?_)
          refine tz_iload (pc := 168) dX2_appliedPart_168 rfl ?_
          refine tz_iload (pc := 170) dX2_appliedPart_170 rfl ?_
          refine tz_iload (pc := 172) dX2_appliedPart_172 rfl ?_
          refine tz_cV (pc := 174) (c_made hl n _ _ _ _ _ (by omega) (by omega) (by omega) (by omega) m_150 (q_150).2.1 (q_150).2.2.1 (by have := (q_150).2.1.ar (t := t) (by omega) (by have := (q_150).1; omega); omega) (ltA_of (by omega) (by omega) (by omega))) vl_X2_52 dX2_appliedPart_174 o_6 rfl rfl (Nat.le_of_ble_eq_true rfl) ⟨(Nat.le_of_ble_eq_true rfl), (Nat.le_of_ble_eq_true rfl)⟩ rfl rfl (Nat.le_of_ble_eq_true rfl) (Nat.le_of_ble_eq_true rfl) (fun r9 J_174 hq9 => ?_)
          obtain ⟨z_174, rfl, hz_174, p_9⟩ := hq9
          obtain ⟨m9, g9, h9⟩ := GR.made p_9 (by omega)
          have q9 := GR.tr q_150 g9
          exact tz_iret (pc := 177) (z := z_174) dX2_appliedPart_177 rfl (Nat.le_of_ble_eq_true rfl) (Nat.le_of_ble_eq_true rfl) ⟨Nat.le_refl _, Nat.le_add_right _ _⟩ ⟨_, rfl, (by omega), ⟨m9, q9, h9, fun S β hβ hG E => ap_c hG E hm ht (by omega) (ap_end (fun S t h => apO_f h) hG E C hm ht (Or.inl ⟨by omega, g_88, hz_88, fun S9 h9 E9 => x_88 S9 β (fun v a c => by rw [u_88]; exact hβ v a c) h9 E9⟩) (Or.inl ⟨by omega, g_119, hz_119, fun S9 h9 E9 => x_119 S9 β (fun v a c => by rw [u_119]; exact hβ v a c) h9 E9⟩) (Or.inl ⟨by omega, g_150, hz_150, fun S9 h9 E9 => x_150 S9 β (fun v a c => by rw [u_150]; exact hβ v a c) h9 E9⟩) (by rw [show J 7 t = J_150 7 t from (((q_150).2.2.2.1.1 t ht.1 ht.2).1).symm]; exact p_9))⟩⟩
        · refine tz_iconst (pc := 130) dX2_appliedPart_130 ?_
          refine tz_goto (pc := 131) (tgt := 153) dX2_appliedPart_131 (by decide) ?_
          refine tz_istore (pc := 153) (L2 := [_, _, _, _, _, _, _, _, _]) dX2_appliedPart_153 (by decide) rfl ?_
          refine tz_aload_n (pc := 155) dX2_appliedPart_155 rfl rfl ?_
          refine tz_fR (pc := 156) dX2_appliedPart_156 fl_X2_28 r_141_0 ?_
          refine tz_aload_n (pc := 159) dX2_appliedPart_159 rfl rfl ?_
          refine tz_fR (pc := 160) dX2_appliedPart_160 fl_X2_28 r_141_0 ?_
          refine tz_fR (pc := 163) dX2_appliedPart_163 fl_X2_42 r_6_1 ?_
          refine tz_iload_n (pc := 166) dX2_appliedPart_166 rfl rfl ?_
          refine tz_aL (pc := 167) (z := t) (v := (J_119 7 t)) dX2_appliedPart_167 a_7 rfl (by omega) rfl (fun r_167 => ?_)
          refine tz_iload (pc := 168) dX2_appliedPart_168 rfl ?_
          refine tz_iload (pc := 170) dX2_appliedPart_170 rfl ?_
          refine tz_iload (pc := 172) dX2_appliedPart_172 rfl ?_
          refine tz_cV (pc := 174) (c_made hl n _ _ _ _ _ (by omega) (by omega) (by omega) (by omega) m_119 (q_119).2.1 (q_119).2.2.1 (by have := (q_119).2.1.ar (t := t) (by omega) (by have := (q_119).1; omega); omega) (ltA_of (by omega) (by omega) (by omega))) vl_X2_52 dX2_appliedPart_174 o_6 rfl rfl (Nat.le_of_ble_eq_true rfl) ⟨(Nat.le_of_ble_eq_true rfl), (Nat.le_of_ble_eq_true rfl)⟩ rfl rfl (Nat.le_of_ble_eq_true rfl) (Nat.le_of_ble_eq_true rfl) (fun r9 J_174 hq9 => ?_)
          obtain ⟨z_174, rfl, hz_174, p_9⟩ := hq9
          obtain ⟨m9, g9, h9⟩ := GR.made p_9 (by omega)
          have q9 := GR.tr q_119 g9
          exact tz_iret (pc := 177) (z := z_174) dX2_appliedPart_177 rfl (Nat.le_of_ble_eq_true rfl) (Nat.le_of_ble_eq_true rfl) ⟨Nat.le_refl _, Nat.le_add_right _ _⟩ ⟨_, rfl, (by omega), ⟨m9, q9, h9, fun S β hβ hG E => ap_c hG E hm ht (by omega) (ap_end (fun S t h => apO_f h) hG E C hm ht (Or.inl ⟨by omega, g_88, hz_88, fun S9 h9 E9 => x_88 S9 β (fun v a c => by rw [u_88]; exact hβ v a c) h9 E9⟩) (Or.inl ⟨by omega, g_119, hz_119, fun S9 h9 E9 => x_119 S9 β (fun v a c => by rw [u_119]; exact hβ v a c) h9 E9⟩) (Or.inr ⟨by rw [show J_119 8 t = J 8 t from ((q_119).2.2.2.1.1 t ht.1 ht.2).2.1]; omega, rfl, rfl⟩) (by rw [show J 7 t = J_119 7 t from (((q_119).2.2.2.1.1 t ht.1 ht.2).1).symm]; exact p_9))⟩⟩
      · refine tz_iconst (pc := 99) dX2_appliedPart_99 ?_
        refine tz_goto (pc := 100) (tgt := 122) dX2_appliedPart_100 (by decide) ?_
        refine tz_istore (pc := 122) (L2 := [_, _, _, _, _, _, _, _, _]) dX2_appliedPart_122 (by decide) rfl ?_
        refine tz_iload (pc := 124) dX2_appliedPart_124 rfl ?_
        refine tz_iconst (pc := 126) dX2_appliedPart_126 ?_
        refine tz_icmp_ge (pc := 127) (tgt := 134) dX2_appliedPart_127 (by decide) (by omega) (by decide) (fun h_127 => ?_) (fun h_127 => ?_)
        · refine tz_aload_n (pc := 134) dX2_appliedPart_134 rfl rfl ?_
          refine tz_aload_n (pc := 135) dX2_appliedPart_135 rfl rfl ?_
          refine tz_fR (pc := 136) dX2_appliedPart_136 fl_X2_28 r_141_0 ?_
          refine tz_iload_n (pc := 139) dX2_appliedPart_139 rfl rfl ?_
          refine tz_iconst (pc := 140) dX2_appliedPart_140 ?_
          refine tz_cV (pc := 141) (c_arg hl n _ _ _ (by omega) (by decide) (by omega)) vl_X2_48 dX2_appliedPart_141 o_6 rfl rfl (Nat.le_of_ble_eq_true rfl) ⟨(Nat.le_of_ble_eq_true rfl), (Nat.le_of_ble_eq_true rfl)⟩ rfl rfl (Nat.le_of_ble_eq_true rfl) (Nat.le_of_ble_eq_true rfl) (fun r9 J_141 hq9 => ?_)
          obtain ⟨z_141, rfl, hz_141, rfl, rfl⟩ := hq9
          refine tz_aload_n (pc := 144) dX2_appliedPart_144 rfl rfl ?_
          refine tz_iload_n (pc := 145) dX2_appliedPart_145 rfl rfl ?_
          refine tz_iload (pc := 146) dX2_appliedPart_146 rfl ?_
          refine tz_iconst (pc := 148) dX2_appliedPart_148 ?_
          refine tz_iadd (pc := 149) (v := 7) dX2_appliedPart_149 (by decide) ?_
          have b_150 := GR.arg q_88 C ht (i := 2) (by omega)
          have c_150 := (q_88).1
          refine tz_cV (pc := 150) (x_app19_7 hl n _ _ (by omega) m_88 (q_88).2.1 (q_88).2.2.1 (by omega) (GR.row q_88 rfl hr)) vl_X2_32 dX2_appliedPart_150 o_141 rfl rfl (Nat.le_of_ble_eq_true rfl) ⟨(Nat.le_of_ble_eq_true rfl), (Nat.le_of_ble_eq_true rfl)⟩ rfl rfl (Nat.le_of_ble_eq_true rfl) (Nat.le_of_ble_eq_true rfl) (fun r9 J_150 hq9 => ?_)
          obtain ⟨z_150, rfl, hz_150, m_150, g_150, hz_150, x_150⟩ := hq9
          have q_150 := GR.tr q_88 g_150
          have d_150 := q_150.1
          have e_150 := g_150.1
          have u_150 : J_88 19 = J 19 := (q_88).2.2.2.2 19 rfl
          have k8_150 : J_88 8 t = J 8 t := ((q_88).2.2.2.1.1 t ht.1 ht.2).2.1
          refine tz_istore (pc := 153) (L2 := [_, _, _, _, _, _, _, _, _]) dX2_appliedPart_153 (by decide) rfl ?_
          refine tz_aload_n (pc := 155) dX2_appliedPart_155 rfl rfl ?_
          refine tz_fR (pc := 156) dX2_appliedPart_156 fl_X2_28 r_141_0 ?_
          refine tz_aload_n (pc := 159) dX2_appliedPart_159 rfl rfl ?_
          refine tz_fR (pc := 160) dX2_appliedPart_160 fl_X2_28 r_141_0 ?_
          refine tz_fR (pc := 163) dX2_appliedPart_163 fl_X2_42 r_6_1 ?_
          refine tz_iload_n (pc := 166) dX2_appliedPart_166 rfl rfl ?_
          refine tz_aL (pc := 167) (z := t) (v := (J_150 7 t)) dX2_appliedPart_167 a_7 rfl (by omega) rfl (fun r_167 => ?_)
          refine tz_iload (pc := 168) dX2_appliedPart_168 rfl ?_
          refine tz_iload (pc := 170) dX2_appliedPart_170 rfl ?_
          refine tz_iload (pc := 172) dX2_appliedPart_172 rfl ?_
          refine tz_cV (pc := 174) (c_made hl n _ _ _ _ _ (by omega) (by omega) (by omega) (by omega) m_150 (q_150).2.1 (q_150).2.2.1 (by have := (q_150).2.1.ar (t := t) (by omega) (by have := (q_150).1; omega); omega) (ltA_of (by omega) (by omega) (by omega))) vl_X2_52 dX2_appliedPart_174 o_6 rfl rfl (Nat.le_of_ble_eq_true rfl) ⟨(Nat.le_of_ble_eq_true rfl), (Nat.le_of_ble_eq_true rfl)⟩ rfl rfl (Nat.le_of_ble_eq_true rfl) (Nat.le_of_ble_eq_true rfl) (fun r9 J_174 hq9 => ?_)
          obtain ⟨z_174, rfl, hz_174, p_9⟩ := hq9
          obtain ⟨m9, g9, h9⟩ := GR.made p_9 (by omega)
          have q9 := GR.tr q_150 g9
          exact tz_iret (pc := 177) (z := z_174) dX2_appliedPart_177 rfl (Nat.le_of_ble_eq_true rfl) (Nat.le_of_ble_eq_true rfl) ⟨Nat.le_refl _, Nat.le_add_right _ _⟩ ⟨_, rfl, (by omega), ⟨m9, q9, h9, fun S β hβ hG E => ap_c hG E hm ht (by omega) (ap_end (fun S t h => apO_f h) hG E C hm ht (Or.inl ⟨by omega, g_88, hz_88, fun S9 h9 E9 => x_88 S9 β (fun v a c => by rw [u_88]; exact hβ v a c) h9 E9⟩) (Or.inr ⟨by rw [show J_88 8 t = J 8 t from ((q_88).2.2.2.1.1 t ht.1 ht.2).2.1]; omega, rfl, rfl⟩) (Or.inl ⟨by omega, g_150, hz_150, fun S9 h9 E9 => x_150 S9 β (fun v a c => by rw [u_150]; exact hβ v a c) h9 E9⟩) (by rw [show J 7 t = J_150 7 t from (((q_150).2.2.2.1.1 t ht.1 ht.2).1).symm]; exact p_9))⟩⟩
        · refine tz_iconst (pc := 130) dX2_appliedPart_130 ?_
          refine tz_goto (pc := 131) (tgt := 153) dX2_appliedPart_131 (by decide) ?_
          refine tz_istore (pc := 153) (L2 := [_, _, _, _, _, _, _, _, _]) dX2_appliedPart_153 (by decide) rfl ?_
          refine tz_aload_n (pc := 155) dX2_appliedPart_155 rfl rfl ?_
          refine tz_fR (pc := 156) dX2_appliedPart_156 fl_X2_28 r_141_0 ?_
          refine tz_aload_n (pc := 159) dX2_appliedPart_159 rfl rfl ?_
          refine tz_fR (pc := 160) dX2_appliedPart_160 fl_X2_28 r_141_0 ?_
          refine tz_fR (pc := 163) dX2_appliedPart_163 fl_X2_42 r_6_1 ?_
          refine tz_iload_n (pc := 166) dX2_appliedPart_166 rfl rfl ?_
          refine tz_aL (pc := 167) (z := t) (v := (J_88 7 t)) dX2_appliedPart_167 a_7 rfl (by omega) rfl (fun r_167 => ?_)
          refine tz_iload (pc := 168) dX2_appliedPart_168 rfl ?_
          refine tz_iload (pc := 170) dX2_appliedPart_170 rfl ?_
          refine tz_iload (pc := 172) dX2_appliedPart_172 rfl ?_
          refine tz_cV (pc := 174) (c_made hl n _ _ _ _ _ (by omega) (by omega) (by omega) (by omega) m_88 (q_88).2.1 (q_88).2.2.1 (by have := (q_88).2.1.ar (t := t) (by omega) (by have := (q_88).1; omega); omega) (ltA_of (by omega) (by omega) (by omega))) vl_X2_52 dX2_appliedPart_174 o_6 rfl rfl (Nat.le_of_ble_eq_true rfl) ⟨(Nat.le_of_ble_eq_true rfl), (Nat.le_of_ble_eq_true rfl)⟩ rfl rfl (Nat.le_of_ble_eq_true rfl) (Nat.le_of_ble_eq_true rfl) (fun r9 J_174 hq9 => ?_)
          obtain ⟨z_174, rfl, hz_174, p_9⟩ := hq9
          obtain ⟨m9, g9, h9⟩ := GR.made p_9 (by omega)
          have q9 := GR.tr q_88 g9
          exact tz_iret (pc := 177) (z := z_174) dX2_appliedPart_177 rfl (Nat.le_of_ble_eq_true rfl) (Nat.le_of_ble_eq_true rfl) ⟨Nat.le_refl _, Nat.le_add_right _ _⟩ ⟨_, rfl, (by omega), ⟨m9, q9, h9, fun S β hβ hG E => ap_c hG E hm ht (by omega) (ap_end (fun S t h => apO_f h) hG E C hm ht (Or.inl ⟨by omega, g_88, hz_88, fun S9 h9 E9 => x_88 S9 β (fun v a c => by rw [u_88]; exact hβ v a c) h9 E9⟩) (Or.inr ⟨by rw [show J_88 8 t = J 8 t from ((q_88).2.2.2.1.1 t ht.1 ht.2).2.1]; omega, rfl, rfl⟩) (Or.inr ⟨by rw [show J_88 8 t = J 8 t from ((q_88).2.2.2.1.1 t ht.1 ht.2).2.1]; omega, rfl, rfl⟩) (by rw [show J 7 t = J_88 7 t from (((q_88).2.2.2.1.1 t ht.1 ht.2).1).symm]; exact p_9))⟩⟩
    · refine tz_iconst (pc := 68) dX2_appliedPart_68 ?_
      refine tz_goto (pc := 69) (tgt := 91) dX2_appliedPart_69 (by decide) ?_
      refine tz_istore (pc := 91) (L2 := [_, _, _, _, _, _, _, _, _]) dX2_appliedPart_91 (by decide) rfl ?_
      refine tz_iload (pc := 93) dX2_appliedPart_93 rfl ?_
      refine tz_iconst (pc := 95) dX2_appliedPart_95 ?_
      refine tz_icmp_ge (pc := 96) (tgt := 103) dX2_appliedPart_96 (by decide) (by omega) (by decide) (fun h_96 => ?_) (fun h_96 => ?_)
      · refine tz_aload_n (pc := 103) dX2_appliedPart_103 rfl rfl ?_
        refine tz_aload_n (pc := 104) dX2_appliedPart_104 rfl rfl ?_
        refine tz_fR (pc := 105) dX2_appliedPart_105 fl_X2_28 r_141_0 ?_
        refine tz_iload_n (pc := 108) dX2_appliedPart_108 rfl rfl ?_
        refine tz_iconst (pc := 109) dX2_appliedPart_109 ?_
        refine tz_cV (pc := 110) (c_arg hl n _ _ _ (by omega) (by decide) (by omega)) vl_X2_48 dX2_appliedPart_110 o_6 rfl rfl (Nat.le_of_ble_eq_true rfl) ⟨(Nat.le_of_ble_eq_true rfl), (Nat.le_of_ble_eq_true rfl)⟩ rfl rfl (Nat.le_of_ble_eq_true rfl) (Nat.le_of_ble_eq_true rfl) (fun r9 J_110 hq9 => ?_)
        obtain ⟨z_110, rfl, hz_110, rfl, rfl⟩ := hq9
        refine tz_aload_n (pc := 113) dX2_appliedPart_113 rfl rfl ?_
        refine tz_iload_n (pc := 114) dX2_appliedPart_114 rfl rfl ?_
        refine tz_iload (pc := 115) dX2_appliedPart_115 rfl ?_
        refine tz_iconst (pc := 117) dX2_appliedPart_117 ?_
        refine tz_iadd (pc := 118) (v := 7) dX2_appliedPart_118 (by decide) ?_
        have b_119 := GR.arg (GR.rf C hm) C ht (i := 1) (by omega)
        have c_119 := ((GR.rf C hm)).1
        refine tz_cV (pc := 119) (x_app19_7 hl n _ _ (by omega) m ((GR.rf C hm)).2.1 ((GR.rf C hm)).2.2.1 (by omega) (GR.row (GR.rf C hm) rfl hr)) vl_X2_32 dX2_appliedPart_119 o_141 rfl rfl (Nat.le_of_ble_eq_true rfl) ⟨(Nat.le_of_ble_eq_true rfl), (Nat.le_of_ble_eq_true rfl)⟩ rfl rfl (Nat.le_of_ble_eq_true rfl) (Nat.le_of_ble_eq_true rfl) (fun r9 J_119 hq9 => ?_)
        obtain ⟨z_119, rfl, hz_119, m_119, g_119, hz_119, x_119⟩ := hq9
        have q_119 := GR.tr (GR.rf C hm) g_119
        have d_119 := q_119.1
        have e_119 := g_119.1
        have u_119 : J 19 = J 19 := ((GR.rf C hm)).2.2.2.2 19 rfl
        have k8_119 : J 8 t = J 8 t := (((GR.rf C hm)).2.2.2.1.1 t ht.1 ht.2).2.1
        refine tz_istore (pc := 122) (L2 := [_, _, _, _, _, _, _, _, _]) dX2_appliedPart_122 (by decide) rfl ?_
        refine tz_iload (pc := 124) dX2_appliedPart_124 rfl ?_
        refine tz_iconst (pc := 126) dX2_appliedPart_126 ?_
        refine tz_icmp_ge (pc := 127) (tgt := 134) dX2_appliedPart_127 (by decide) (by omega) (by decide) (fun h_127 => ?_) (fun h_127 => ?_)
        · refine tz_aload_n (pc := 134) dX2_appliedPart_134 rfl rfl ?_
          refine tz_aload_n (pc := 135) dX2_appliedPart_135 rfl rfl ?_
          refine tz_fR (pc := 136) dX2_appliedPart_136 fl_X2_28 r_141_0 ?_
          refine tz_iload_n (pc := 139) dX2_appliedPart_139 rfl rfl ?_
          refine tz_iconst (pc := 140) dX2_appliedPart_140 ?_
          refine tz_cV (pc := 141) (c_arg hl n _ _ _ (by omega) (by decide) (by omega)) vl_X2_48 dX2_appliedPart_141 o_6 rfl rfl (Nat.le_of_ble_eq_true rfl) ⟨(Nat.le_of_ble_eq_true rfl), (Nat.le_of_ble_eq_true rfl)⟩ rfl rfl (Nat.le_of_ble_eq_true rfl) (Nat.le_of_ble_eq_true rfl) (fun r9 J_141 hq9 => ?_)
          obtain ⟨z_141, rfl, hz_141, rfl, rfl⟩ := hq9
          refine tz_aload_n (pc := 144) dX2_appliedPart_144 rfl rfl ?_
          refine tz_iload_n (pc := 145) dX2_appliedPart_145 rfl rfl ?_
          refine tz_iload (pc := 146) dX2_appliedPart_146 rfl ?_
          refine tz_iconst (pc := 148) dX2_appliedPart_148 ?_
          refine tz_iadd (pc := 149) (v := 7) dX2_appliedPart_149 (by decide) ?_
          have b_150 := GR.arg q_119 C ht (i := 2) (by omega)
          have c_150 := (q_119).1
          refine tz_cV (pc := 150) (x_app19_7 hl n _ _ (by omega) m_119 (q_119).2.1 (q_119).2.2.1 (by omega) (GR.row q_119 rfl hr)) vl_X2_32 dX2_appliedPart_150 o_141 rfl rfl (Nat.le_of_ble_eq_true rfl) ⟨(Nat.le_of_ble_eq_true rfl), (Nat.le_of_ble_eq_true rfl)⟩ rfl rfl (Nat.le_of_ble_eq_true rfl) (Nat.le_of_ble_eq_true rfl) (fun r9 J_150 hq9 => ?_)
          obtain ⟨z_150, rfl, hz_150, m_150, g_150, hz_150, x_150⟩ := hq9
          have q_150 := GR.tr q_119 g_150
          have d_150 := q_150.1
          have e_150 := g_150.1
          have u_150 : J_119 19 = J 19 := (q_119).2.2.2.2 19 rfl
          have k8_150 : J_119 8 t = J 8 t := ((q_119).2.2.2.1.1 t ht.1 ht.2).2.1
          refine tz_istore (pc := 153) (L2 := [_, _, _, _, _, _, _, _, _]) dX2_appliedPart_153 (by decide) rfl ?_
          refine tz_aload_n (pc := 155) dX2_appliedPart_155 rfl rfl ?_
          refine tz_fR (pc := 156) dX2_appliedPart_156 fl_X2_28 r_141_0 ?_
          refine tz_aload_n (pc := 159) dX2_appliedPart_159 rfl rfl ?_
          refine tz_fR (pc := 160) dX2_appliedPart_160 fl_X2_28 r_141_0 ?_
          refine tz_fR (pc := 163) dX2_appliedPart_163 fl_X2_42 r_6_1 ?_
          refine tz_iload_n (pc := 166) dX2_appliedPart_166 rfl rfl ?_
          refine tz_aL (pc := 167) (z := t) (v := (J_150 7 t)) dX2_appliedPart_167 a_7 rfl (by omega) rfl (fun r_167 => ?_)
          refine tz_iload (pc := 168) dX2_appliedPart_168 rfl ?_
          refine tz_iload (pc := 170) dX2_appliedPart_170 rfl ?_
          refine tz_iload (pc := 172) dX2_appliedPart_172 rfl ?_
          refine tz_cV (pc := 174) (c_made hl n _ _ _ _ _ (by omega) (by omega) (by omega) (by omega) m_150 (q_150).2.1 (q_150).2.2.1 (by have := (q_150).2.1.ar (t := t) (by omega) (by have := (q_150).1; omega); omega) (ltA_of (by omega) (by omega) (by omega))) vl_X2_52 dX2_appliedPart_174 o_6 rfl rfl (Nat.le_of_ble_eq_true rfl) ⟨(Nat.le_of_ble_eq_true rfl), (Nat.le_of_ble_eq_true rfl)⟩ rfl rfl (Nat.le_of_ble_eq_true rfl) (Nat.le_of_ble_eq_true rfl) (fun r9 J_174 hq9 => ?_)
          obtain ⟨z_174, rfl, hz_174, p_9⟩ := hq9
          obtain ⟨m9, g9, h9⟩ := GR.made p_9 (by omega)
          have q9 := GR.tr q_150 g9
          exact tz_iret (pc := 177) (z := z_174) dX2_appliedPart_177 rfl (Nat.le_of_ble_eq_true rfl) (Nat.le_of_ble_eq_true rfl) ⟨Nat.le_refl _, Nat.le_add_right _ _⟩ ⟨_, rfl, (by omega), ⟨m9, q9, h9, fun S β hβ hG E => ap_c hG E hm ht (by omega) (ap_end (fun S t h => apO_f h) hG E C hm ht (Or.inr ⟨by rw [show J 8 t = J 8 t from rfl]; omega, rfl, rfl⟩) (Or.inl ⟨by omega, g_119, hz_119, fun S9 h9 E9 => x_119 S9 β (fun v a c => by rw [u_119]; exact hβ v a c) h9 E9⟩) (Or.inl ⟨by omega, g_150, hz_150, fun S9 h9 E9 => x_150 S9 β (fun v a c => by rw [u_150]; exact hβ v a c) h9 E9⟩) (by rw [show J 7 t = J_150 7 t from (((q_150).2.2.2.1.1 t ht.1 ht.2).1).symm]; exact p_9))⟩⟩
        · refine tz_iconst (pc := 130) dX2_appliedPart_130 ?_
          refine tz_goto (pc := 131) (tgt := 153) dX2_appliedPart_131 (by decide) ?_
          refine tz_istore (pc := 153) (L2 := [_, _, _, _, _, _, _, _, _]) dX2_appliedPart_153 (by decide) rfl ?_
          refine tz_aload_n (pc := 155) dX2_appliedPart_155 rfl rfl ?_
          refine tz_fR (pc := 156) dX2_appliedPart_156 fl_X2_28 r_141_0 ?_
          refine tz_aload_n (pc := 159) dX2_appliedPart_159 rfl rfl ?_
          refine tz_fR (pc := 160) dX2_appliedPart_160 fl_X2_28 r_141_0 ?_
          refine tz_fR (pc := 163) dX2_appliedPart_163 fl_X2_42 r_6_1 ?_
          refine tz_iload_n (pc := 166) dX2_appliedPart_166 rfl rfl ?_
          refine tz_aL (pc := 167) (z := t) (v := (J_119 7 t)) dX2_appliedPart_167 a_7 rfl (by omega) rfl (fun r_167 => ?_)
          refine tz_iload (pc := 168) dX2_appliedPart_168 rfl ?_
          refine tz_iload (pc := 170) dX2_appliedPart_170 rfl ?_
          refine tz_iload (pc := 172) dX2_appliedPart_172 rfl ?_
          refine tz_cV (pc := 174) (c_made hl n _ _ _ _ _ (by omega) (by omega) (by omega) (by omega) m_119 (q_119).2.1 (q_119).2.2.1 (by have := (q_119).2.1.ar (t := t) (by omega) (by have := (q_119).1; omega); omega) (ltA_of (by omega) (by omega) (by omega))) vl_X2_52 dX2_appliedPart_174 o_6 rfl rfl (Nat.le_of_ble_eq_true rfl) ⟨(Nat.le_of_ble_eq_true rfl), (Nat.le_of_ble_eq_true rfl)⟩ rfl rfl (Nat.le_of_ble_eq_true rfl) (Nat.le_of_ble_eq_true rfl) (fun r9 J_174 hq9 => ?_)
          obtain ⟨z_174, rfl, hz_174, p_9⟩ := hq9
          obtain ⟨m9, g9, h9⟩ := GR.made p_9 (by omega)
          have q9 := GR.tr q_119 g9
          exact tz_iret (pc := 177) (z := z_174) dX2_appliedPart_177 rfl (Nat.le_of_ble_eq_true rfl) (Nat.le_of_ble_eq_true rfl) ⟨Nat.le_refl _, Nat.le_add_right _ _⟩ ⟨_, rfl, (by omega), ⟨m9, q9, h9, fun S β hβ hG E => ap_c hG E hm ht (by omega) (ap_end (fun S t h => apO_f h) hG E C hm ht (Or.inr ⟨by rw [show J 8 t = J 8 t from rfl]; omega, rfl, rfl⟩) (Or.inl ⟨by omega, g_119, hz_119, fun S9 h9 E9 => x_119 S9 β (fun v a c => by rw [u_119]; exact hβ v a c) h9 E9⟩) (Or.inr ⟨by rw [show J_119 8 t = J 8 t from ((q_119).2.2.2.1.1 t ht.1 ht.2).2.1]; omega, rfl, rfl⟩) (by rw [show J 7 t = J_119 7 t from (((q_119).2.2.2.1.1 t ht.1 ht.2).1).symm]; exact p_9))⟩⟩
      · refine tz_iconst (pc := 99) dX2_appliedPart_99 ?_
        refine tz_goto (pc := 100) (tgt := 122) dX2_appliedPart_100 (by decide) ?_
        refine tz_istore (pc := 122) (L2 := [_, _, _, _, _, _, _, _, _]) dX2_appliedPart_122 (by decide) rfl ?_
        refine tz_iload (pc := 124) dX2_appliedPart_124 rfl ?_
        refine tz_iconst (pc := 126) dX2_appliedPart_126 ?_
        refine tz_icmp_ge (pc := 127) (tgt := 134) dX2_appliedPart_127 (by decide) (by omega) (by decide) (fun h_127 => ?_) (fun h_127 => ?_)
        · refine tz_aload_n (pc := 134) dX2_appliedPart_134 rfl rfl ?_
          refine tz_aload_n (pc := 135) dX2_appliedPart_135 rfl rfl ?_
          refine tz_fR (pc := 136) dX2_appliedPart_136 fl_X2_28 r_141_0 ?_
          refine tz_iload_n (pc := 139) dX2_appliedPart_139 rfl rfl ?_
          refine tz_iconst (pc := 140) dX2_appliedPart_140 ?_
          refine tz_cV (pc := 141) (c_arg hl n _ _ _ (by omega) (by decide) (by omega)) vl_X2_48 dX2_appliedPart_141 o_6 rfl rfl (Nat.le_of_ble_eq_true rfl) ⟨(Nat.le_of_ble_eq_true rfl), (Nat.le_of_ble_eq_true rfl)⟩ rfl rfl (Nat.le_of_ble_eq_true rfl) (Nat.le_of_ble_eq_true rfl) (fun r9 J_141 hq9 => ?_)
          obtain ⟨z_141, rfl, hz_141, rfl, rfl⟩ := hq9
          refine tz_aload_n (pc := 144) dX2_appliedPart_144 rfl rfl ?_
          refine tz_iload_n (pc := 145) dX2_appliedPart_145 rfl rfl ?_
          refine tz_iload (pc := 146) dX2_appliedPart_146 rfl ?_
          refine tz_iconst (pc := 148) dX2_appliedPart_148 ?_
          refine tz_iadd (pc := 149) (v := 7) dX2_appliedPart_149 (by decide) ?_
          have b_150 := GR.arg (GR.rf C hm) C ht (i := 2) (by omega)
          have c_150 := ((GR.rf C hm)).1
          refine tz_cV (pc := 150) (x_app19_7 hl n _ _ (by omega) m ((GR.rf C hm)).2.1 ((GR.rf C hm)).2.2.1 (by omega) (GR.row (GR.rf C hm) rfl hr)) vl_X2_32 dX2_appliedPart_150 o_141 rfl rfl (Nat.le_of_ble_eq_true rfl) ⟨(Nat.le_of_ble_eq_true rfl), (Nat.le_of_ble_eq_true rfl)⟩ rfl rfl (Nat.le_of_ble_eq_true rfl) (Nat.le_of_ble_eq_true rfl) (fun r9 J_150 hq9 => ?_)
          obtain ⟨z_150, rfl, hz_150, m_150, g_150, hz_150, x_150⟩ := hq9
          have q_150 := GR.tr (GR.rf C hm) g_150
          have d_150 := q_150.1
          have e_150 := g_150.1
          have u_150 : J 19 = J 19 := ((GR.rf C hm)).2.2.2.2 19 rfl
          have k8_150 : J 8 t = J 8 t := (((GR.rf C hm)).2.2.2.1.1 t ht.1 ht.2).2.1
          refine tz_istore (pc := 153) (L2 := [_, _, _, _, _, _, _, _, _]) dX2_appliedPart_153 (by decide) rfl ?_
          refine tz_aload_n (pc := 155) dX2_appliedPart_155 rfl rfl ?_
          refine tz_fR (pc := 156) dX2_appliedPart_156 fl_X2_28 r_141_0 ?_
          refine tz_aload_n (pc := 159) dX2_appliedPart_159 rfl rfl ?_
          refine tz_fR (pc := 160) dX2_appliedPart_160 fl_X2_28 r_141_0 ?_
          refine tz_fR (pc := 163) dX2_appliedPart_163 fl_X2_42 r_6_1 ?_
          refine tz_iload_n (pc := 166) dX2_appliedPart_166 rfl rfl ?_
          refine tz_aL (pc := 167) (z := t) (v := (J_150 7 t)) dX2_appliedPart_167 a_7 rfl (by omega) rfl (fun r_167 => ?_)
          refine tz_iload (pc := 168) dX2_appliedPart_168 rfl ?_
          refine tz_iload (pc := 170) dX2_appliedPart_170 rfl ?_
          refine tz_iload (pc := 172) dX2_appliedPart_172 rfl ?_
          refine tz_cV (pc := 174) (c_made hl n _ _ _ _ _ (by omega) (by omega) (by omega) (by omega) m_150 (q_150).2.1 (q_150).2.2.1 (by have := (q_150).2.1.ar (t := t) (by omega) (by have := (q_150).1; omega); omega) (ltA_of (by omega) (by omega) (by omega))) vl_X2_52 dX2_appliedPart_174 o_6 rfl rfl (Nat.le_of_ble_eq_true rfl) ⟨(Nat.le_of_ble_eq_true rfl), (Nat.le_of_ble_eq_true rfl)⟩ rfl rfl (Nat.le_of_ble_eq_true rfl) (Nat.le_of_ble_eq_true rfl) (fun r9 J_174 hq9 => ?_)
          obtain ⟨z_174, rfl, hz_174, p_9⟩ := hq9
          obtain ⟨m9, g9, h9⟩ := GR.made p_9 (by omega)
          have q9 := GR.tr q_150 g9
          exact tz_iret (pc := 177) (z := z_174) dX2_appliedPart_177 rfl (Nat.le_of_ble_eq_true rfl) (Nat.le_of_ble_eq_true rfl) ⟨Nat.le_refl _, Nat.le_add_right _ _⟩ ⟨_, rfl, (by omega), ⟨m9, q9, h9, fun S β hβ hG E => ap_c hG E hm ht (by omega) (ap_end (fun S t h => apO_f h) hG E C hm ht (Or.inr ⟨by rw [show J 8 t = J 8 t from rfl]; omega, rfl, rfl⟩) (Or.inr ⟨by rw [show J 8 t = J 8 t from rfl]; omega, rfl, rfl⟩) (Or.inl ⟨by omega, g_150, hz_150, fun S9 h9 E9 => x_150 S9 β (fun v a c => by rw [u_150]; exact hβ v a c) h9 E9⟩) (by rw [show J 7 t = J_150 7 t from (((q_150).2.2.2.1.1 t ht.1 ht.2).1).symm]; exact p_9))⟩⟩
        · refine tz_iconst (pc := 130) dX2_appliedPart_130 ?_
          refine tz_goto (pc := 131) (tgt := 153) dX2_appliedPart_131 (by decide) ?_
          refine tz_istore (pc := 153) (L2 := [_, _, _, _, _, _, _, _, _]) dX2_appliedPart_153 (by decide) rfl ?_
          refine tz_aload_n (pc := 155) dX2_appliedPart_155 rfl rfl ?_
          refine tz_fR (pc := 156) dX2_appliedPart_156 fl_X2_28 r_141_0 ?_
          refine tz_aload_n (pc := 159) dX2_appliedPart_159 rfl rfl ?_
          refine tz_fR (pc := 160) dX2_appliedPart_160 fl_X2_28 r_141_0 ?_
          refine tz_fR (pc := 163) dX2_appliedPart_163 fl_X2_42 r_6_1 ?_
          refine tz_iload_n (pc := 166) dX2_appliedPart_166 rfl rfl ?_
          refine tz_aL (pc := 167) (z := t) (v := (J 7 t)) dX2_appliedPart_167 a_7 rfl (by omega) rfl (fun r_167 => ?_)
          refine tz_iload (pc := 168) dX2_appliedPart_168 rfl ?_
          refine tz_iload (pc := 170) dX2_appliedPart_170 rfl ?_
          refine tz_iload (pc := 172) dX2_appliedPart_172 rfl ?_
          refine tz_cV (pc := 174) (c_made hl n _ _ _ _ _ (by omega) (by omega) (by omega) (by omega) m ((GR.rf C hm)).2.1 ((GR.rf C hm)).2.2.1 (by have := ((GR.rf C hm)).2.1.ar (t := t) (by omega) (by have := ((GR.rf C hm)).1; omega); omega) (ltA_of (by omega) (by omega) (by omega))) vl_X2_52 dX2_appliedPart_174 o_6 rfl rfl (Nat.le_of_ble_eq_true rfl) ⟨(Nat.le_of_ble_eq_true rfl), (Nat.le_of_ble_eq_true rfl)⟩ rfl rfl (Nat.le_of_ble_eq_true rfl) (Nat.le_of_ble_eq_true rfl) (fun r9 J_174 hq9 => ?_)
          obtain ⟨z_174, rfl, hz_174, p_9⟩ := hq9
          obtain ⟨m9, g9, h9⟩ := GR.made p_9 (by omega)
          have q9 := GR.tr (GR.rf C hm) g9
          exact tz_iret (pc := 177) (z := z_174) dX2_appliedPart_177 rfl (Nat.le_of_ble_eq_true rfl) (Nat.le_of_ble_eq_true rfl) ⟨Nat.le_refl _, Nat.le_add_right _ _⟩ ⟨_, rfl, (by omega), ⟨m9, q9, h9, fun S β hβ hG E => ap_c hG E hm ht (by omega) (ap_end (fun S t h => apO_f h) hG E C hm ht (Or.inr ⟨by rw [show J 8 t = J 8 t from rfl]; omega, rfl, rfl⟩) (Or.inr ⟨by rw [show J 8 t = J 8 t from rfl]; omega, rfl, rfl⟩) (Or.inr ⟨by rw [show J 8 t = J 8 t from rfl]; omega, rfl, rfl⟩) (by rw [show J 7 t = J 7 t from rfl]; exact p_9))⟩⟩

set_option maxHeartbeats 4000000 in
set_option maxRecDepth 100000 in
theorem x_app19_5 {l : Launch} {G : tb_G} (hl : l.stackTraces = false) (n : Nat) (J : zJ) (t : Int) (hr_t : -2147483648 ≤ t ∧ t < 2147483648) (m : Int) (C : CT J m) (hm : J 6 12 = m) (ht : 0 ≤ t ∧ t < m) (hr : rOK J 19 7 m) : tz_Ok l G M_X2_appliedPart 4 0 0 [.ref 141, zi t, .ref 19, zi 7, zi 5] n J (zqi (fun z J' => ∃ m', GR J' J m m' ∧ (z = -3 ∨ (0 ≤ z ∧ z < m')) ∧ ∀ (S : zJ) (β : Int → Int), (∀ v, 0 ≤ v → v < 8 → β v = J 19 (7 + v)) → S 164 21 = 0 → A0 J S → EXO (apO β 2 S t) z J')) zN := by
  refine tz_Ok.of hl (by decide +kernel) rfl (tb_c1 rfl) (Nat.le_of_ble_eq_true rfl) ?_
  show tz_At l G M_X2_appliedPart (tb_rm 4 0 0) none (tb_ZM G 0 0 (zQ n 0 (zqi (fun z J' => ∃ m', GR J' J m m' ∧ (z = -3 ∨ (0 ≤ z ∧ z < m')) ∧ ∀ (S : zJ) (β : Int → Int), (∀ v, 0 ≤ v → v < 8 → β v = J 19 (7 + v)) → S 164 21 = 0 → A0 J S → EXO (apO β 2 S t) z J'))) (zX n 0 zN)) 0 0 n J 0 [some (.ref 141), some (zi t), some (.ref 19), some (zi 7), some (zi 5), none, none, none, none] []
  have hb := C.told
  have ha := C.ar ht.1 ht.2
  refine tz_iload (pc := 0) dX2_appliedPart_0 rfl ?_
  refine tz_bipush (pc := 2) dX2_appliedPart_2 (by decide) ?_
  refine tz_icmp_leT (pc := 4) (tgt := 10) (by decide) dX2_appliedPart_4 (by decide) (by decide) (by decide) ?_
  refine tz_aload_n (pc := 10) dX2_appliedPart_10 rfl rfl ?_
  refine tz_fR (pc := 11) dX2_appliedPart_11 fl_X2_28 r_141_0 ?_
  refine tz_iload_n (pc := 14) dX2_appliedPart_14 rfl rfl ?_
  refine tz_cV (pc := 15) (c_isVar hl n _ _ (by omega) (by omega)) vl_X2_36 dX2_appliedPart_15 o_6 rfl rfl (Nat.le_of_ble_eq_true rfl) ⟨(Nat.le_of_ble_eq_true rfl), (Nat.le_of_ble_eq_true rfl)⟩ rfl rfl (Nat.le_of_ble_eq_true rfl) (Nat.le_of_ble_eq_true rfl) (fun r9 J_15 hq9 => ?_)
  obtain ⟨z_15, rfl, hz_15, rfl, rfl⟩ := hq9
  by_cases hw_18 : J 7 t < 0
  · rw [show (if J 7 t < 0 then 1 else 0 : Int) = 1 from if_pos hw_18]
    refine tz_if_eqF (pc := 18) (tgt := 51) (by decide) dX2_appliedPart_18 (by decide) (by decide) ?_
    refine tz_aload_n (pc := 21) dX2_appliedPart_21 rfl rfl ?_
    refine tz_iload_n (pc := 22) dX2_appliedPart_22 rfl rfl ?_
    refine tz_aload_n (pc := 23) dX2_appliedPart_23 rfl rfl ?_
    refine tz_fR (pc := 24) dX2_appliedPart_24 fl_X2_28 r_141_0 ?_
    refine tz_fR (pc := 27) dX2_appliedPart_27 fl_X2_42 r_6_1 ?_
    refine tz_iload_n (pc := 30) dX2_appliedPart_30 rfl rfl ?_
    refine tz_aL (pc := 31) (z := t) (v := (J 7 t)) dX2_appliedPart_31 a_7 rfl (by omega) rfl (fun r_31 => ?_)
    refine tz_iconst (pc := 32) dX2_appliedPart_32 ?_
    refine tz_ixor (pc := 33) (v := -1 - J 7 t) dX2_appliedPart_33 (z_nn (by omega)) ?_
    refine tz_iadd (pc := 34) (v := 7 + (-1 - J 7 t)) dX2_appliedPart_34 rfl ?_
    have hv := hr (-1 - J 7 t) (by omega) (by omega)
    refine tz_aL (pc := 35) (z := (7 + (-1 - J 7 t))) (v := (J 19 (7 + (-1 - J 7 t)))) dX2_appliedPart_35 a_19 rfl (by omega) rfl (fun r_35 => ?_)
    refine tz_istore (pc := 36) (L2 := [_, _, _, _, _, _, _, _, _]) dX2_appliedPart_36 (by decide) rfl ?_
    refine tz_iload (pc := 38) dX2_appliedPart_38 rfl ?_
    refine tz_iconst (pc := 40) dX2_appliedPart_40 ?_
    refine tz_icmp_ne (pc := 41) (tgt := 48) dX2_appliedPart_41 (by decide) (by omega) (by decide) (fun h_41 => ?_) (fun h_41 => ?_)
    · refine tz_iload (pc := 48) dX2_appliedPart_48 rfl ?_
      exact tz_iret (pc := 50) (z := (J 19 (7 + (-1 - J 7 t)))) dX2_appliedPart_50 rfl (Nat.le_of_ble_eq_true rfl) (Nat.le_of_ble_eq_true rfl) ⟨Nat.le_refl _, Nat.le_add_right _ _⟩ ⟨_, rfl, (by omega), ⟨m, GR.rf C hm, Or.inr (by omega), fun S β hβ hG E => ap_v hG E hm ht (by omega) (by omega) (by have := hβ (-1 - J 7 t) (by omega) (by omega); rw [this]; omega)⟩⟩
    · refine tz_iload_n (pc := 44) dX2_appliedPart_44 rfl rfl ?_
      refine tz_goto (pc := 45) (tgt := 50) dX2_appliedPart_45 (by decide) ?_
      exact tz_iret (pc := 50) (z := t) dX2_appliedPart_50 rfl (Nat.le_of_ble_eq_true rfl) (Nat.le_of_ble_eq_true rfl) ⟨Nat.le_refl _, Nat.le_add_right _ _⟩ ⟨_, rfl, (by omega), ⟨m, GR.rf C hm, Or.inr (by omega), fun S β hβ hG E => ap_v hG E hm ht (by omega) (by omega) (by have := hβ (-1 - J 7 t) (by omega) (by omega); rw [this]; omega)⟩⟩
  · rw [show (if J 7 t < 0 then 1 else 0 : Int) = 0 from if_neg hw_18]
    refine tz_if_eqT (pc := 18) (tgt := 51) (by decide) dX2_appliedPart_18 (by decide) (by decide) ?_
    refine tz_aload_n (pc := 51) dX2_appliedPart_51 rfl rfl ?_
    refine tz_fR (pc := 52) dX2_appliedPart_52 fl_X2_28 r_141_0 ?_
    refine tz_fR (pc := 55) dX2_appliedPart_55 fl_X2_45 r_6_2 ?_
    refine tz_iload_n (pc := 58) dX2_appliedPart_58 rfl rfl ?_
    refine tz_aL (pc := 59) (z := t) (v := (J 8 t)) dX2_appliedPart_59 a_8 rfl (by omega) rfl (fun r_59 => ?_)
    refine tz_istore (pc := 60) (L2 := [_, _, _, _, _, _, _, _, _]) dX2_appliedPart_60 (by decide) rfl ?_
    refine tz_iload (pc := 62) dX2_appliedPart_62 rfl ?_
    refine tz_iconst (pc := 64) dX2_appliedPart_64 ?_
    refine tz_icmp_ge (pc := 65) (tgt := 72) dX2_appliedPart_65 (by decide) (by omega) (by decide) (fun h_65 => ?_) (fun h_65 => ?_)
    · refine tz_aload_n (pc := 72) dX2_appliedPart_72 rfl rfl ?_
      refine tz_aload_n (pc := 73) dX2_appliedPart_73 rfl rfl ?_
      refine tz_fR (pc := 74) dX2_appliedPart_74 fl_X2_28 r_141_0 ?_
      refine tz_iload_n (pc := 77) dX2_appliedPart_77 rfl rfl ?_
      refine tz_iconst (pc := 78) dX2_appliedPart_78 ?_
      refine tz_cV (pc := 79) (c_arg hl n _ _ _ (by omega) (by decide) (by omega)) vl_X2_48 dX2_appliedPart_79 o_6 rfl rfl (Nat.le_of_ble_eq_true rfl) ⟨(Nat.le_of_ble_eq_true rfl), (Nat.le_of_ble_eq_true rfl)⟩ rfl rfl (Nat.le_of_ble_eq_true rfl) (Nat.le_of_ble_eq_true rfl) (fun r9 J_79 hq9 => ?_)
      obtain ⟨z_79, rfl, hz_79, rfl, rfl⟩ := hq9
      refine tz_aload_n (pc := 82) dX2_appliedPart_82 rfl rfl ?_
      refine tz_iload_n (pc := 83) dX2_appliedPart_83 rfl rfl ?_
      refine tz_iload (pc := 84) dX2_appliedPart_84 rfl ?_
      refine tz_iconst (pc := 86) dX2_appliedPart_86 ?_
      refine tz_iadd (pc := 87) (v := 6) dX2_appliedPart_87 (by decide) ?_
      have b_88 := GR.arg (GR.rf C hm) C ht (i := 0) (by omega)
      have c_88 := ((GR.rf C hm)).1
      refine tz_cV (pc := 88) (x_app19_6 hl n _ _ (by omega) m ((GR.rf C hm)).2.1 ((GR.rf C hm)).2.2.1 (by omega) (GR.row (GR.rf C hm) rfl hr)) vl_X2_32 dX2_appliedPart_88 o_141 rfl rfl (Nat.le_of_ble_eq_true rfl) ⟨(Nat.le_of_ble_eq_true rfl), (Nat.le_of_ble_eq_true rfl)⟩ rfl rfl (Nat.le_of_ble_eq_true rfl) (Nat.le_of_ble_eq_true rfl) (fun r9 J_88 hq9 => ?_)
      obtain ⟨z_88, rfl, hz_88, m_88, g_88, hz_88, x_88⟩ := hq9
      have q_88 := GR.tr (GR.rf C hm) g_88
      have d_88 := q_88.1
      have e_88 := g_88.1
      have u_88 : J 19 = J 19 := ((GR.rf C hm)).2.2.2.2 19 rfl
      have k8_88 : J 8 t = J 8 t := (((GR.rf C hm)).2.2.2.1.1 t ht.1 ht.2).2.1
      refine tz_istore (pc := 91) (L2 := [_, _, _, _, _, _, _, _, _]) dX2_appliedPart_91 (by decide) rfl ?_
      refine tz_iload (pc := 93) dX2_appliedPart_93 rfl ?_
      refine tz_iconst (pc := 95) dX2_appliedPart_95 ?_
      refine tz_icmp_ge (pc := 96) (tgt := 103) dX2_appliedPart_96 (by decide) (by omega) (by decide) (fun h_96 => ?_) (fun h_96 => ?_)
      · refine tz_aload_n (pc := 103) dX2_appliedPart_103 rfl rfl ?_
        refine tz_aload_n (pc := 104) dX2_appliedPart_104 rfl rfl ?_
        refine tz_fR (pc := 105) dX2_appliedPart_105 fl_X2_28 r_141_0 ?_
        refine tz_iload_n (pc := 108) dX2_appliedPart_108 rfl rfl ?_
        refine tz_iconst (pc := 109) dX2_appliedPart_109 ?_
        refine tz_cV (pc := 110) (c_arg hl n _ _ _ (by omega) (by decide) (by omega)) vl_X2_48 dX2_appliedPart_110 o_6 rfl rfl (Nat.le_of_ble_eq_true rfl) ⟨(Nat.le_of_ble_eq_true rfl), (Nat.le_of_ble_eq_true rfl)⟩ rfl rfl (Nat.le_of_ble_eq_true rfl) (Nat.le_of_ble_eq_true rfl) (fun r9 J_110 hq9 => ?_)
        obtain ⟨z_110, rfl, hz_110, rfl, rfl⟩ := hq9
        refine tz_aload_n (pc := 113) dX2_appliedPart_113 rfl rfl ?_
        refine tz_iload_n (pc := 114) dX2_appliedPart_114 rfl rfl ?_
        refine tz_iload (pc := 115) dX2_appliedPart_115 rfl ?_
        refine tz_iconst (pc := 117) dX2_appliedPart_117 ?_
        refine tz_iadd (pc := 118) (v := 6) dX2_appliedPart_118 (by decide) ?_
        have b_119 := GR.arg q_88 C ht (i := 1) (by omega)
        have c_119 := (q_88).1
        refine tz_cV (pc := 119) (x_app19_6 hl n _ _ (by omega) m_88 (q_88).2.1 (q_88).2.2.1 (by omega) (GR.row q_88 rfl hr)) vl_X2_32 dX2_appliedPart_119 o_141 rfl rfl (Nat.le_of_ble_eq_true rfl) ⟨(Nat.le_of_ble_eq_true rfl), (Nat.le_of_ble_eq_true rfl)⟩ rfl rfl (Nat.le_of_ble_eq_true rfl) (Nat.le_of_ble_eq_true rfl) (fun r9 J_119 hq9 => ?_)
        obtain ⟨z_119, rfl, hz_119, m_119, g_119, hz_119, x_119⟩ := hq9
        have q_119 := GR.tr q_88 g_119
        have d_119 := q_119.1
        have e_119 := g_119.1
        have u_119 : J_88 19 = J 19 := (q_88).2.2.2.2 19 rfl
        have k8_119 : J_88 8 t = J 8 t := ((q_88).2.2.2.1.1 t ht.1 ht.2).2.1
        refine tz_istore (pc := 122) (L2 := [_, _, _, _, _, _, _, _, _]) dX2_appliedPart_122 (by decide) rfl ?_
        refine tz_iload (pc := 124) dX2_appliedPart_124 rfl ?_
        refine tz_iconst (pc := 126) dX2_appliedPart_126 ?_
        refine tz_icmp_ge (pc := 127) (tgt := 134) dX2_appliedPart_127 (by decide) (by omega) (by decide) (fun h_127 => ?_) (fun h_127 => ?_)
        · refine tz_aload_n (pc := 134) dX2_appliedPart_134 rfl rfl ?_
          refine tz_aload_n (pc := 135) dX2_appliedPart_135 rfl rfl ?_
          refine tz_fR (pc := 136) dX2_appliedPart_136 fl_X2_28 r_141_0 ?_
          refine tz_iload_n (pc := 139) dX2_appliedPart_139 rfl rfl ?_
          refine tz_iconst (pc := 140) dX2_appliedPart_140 ?_
          refine tz_cV (pc := 141) (c_arg hl n _ _ _ (by omega) (by decide) (by omega)) vl_X2_48 dX2_appliedPart_141 o_6 rfl rfl (Nat.le_of_ble_eq_true rfl) ⟨(Nat.le_of_ble_eq_true rfl), (Nat.le_of_ble_eq_true rfl)⟩ rfl rfl (Nat.le_of_ble_eq_true rfl) (Nat.le_of_ble_eq_true rfl) (fun r9 J_141 hq9 => ?_)
          obtain ⟨z_141, rfl, hz_141, rfl, rfl⟩ := hq9
          refine tz_aload_n (pc := 144) dX2_appliedPart_144 rfl rfl ?_
          refine tz_iload_n (pc := 145) dX2_appliedPart_145 rfl rfl ?_
          refine tz_iload (pc := 146) dX2_appliedPart_146 rfl ?_
          refine tz_iconst (pc := 148) dX2_appliedPart_148 ?_
          refine tz_iadd (pc := 149) (v := 6) dX2_appliedPart_149 (by decide) ?_
          have b_150 := GR.arg q_119 C ht (i := 2) (by omega)
          have c_150 := (q_119).1
          refine tz_cV (pc := 150) (x_app19_6 hl n _ _ (by omega) m_119 (q_119).2.1 (q_119).2.2.1 (by omega) (GR.row q_119 rfl hr)) vl_X2_32 dX2_appliedPart_150 o_141 rfl rfl (Nat.le_of_ble_eq_true rfl) ⟨(Nat.le_of_ble_eq_true rfl), (Nat.le_of_ble_eq_true rfl)⟩ rfl rfl (Nat.le_of_ble_eq_true rfl) (Nat.le_of_ble_eq_true rfl) (fun r9 J_150 hq9 => ?_)
          obtain ⟨z_150, rfl, hz_150, m_150, g_150, hz_150, x_150⟩ := hq9
          have q_150 := GR.tr q_119 g_150
          have d_150 := q_150.1
          have e_150 := g_150.1
          have u_150 : J_119 19 = J 19 := (q_119).2.2.2.2 19 rfl
          have k8_150 : J_119 8 t = J 8 t := ((q_119).2.2.2.1.1 t ht.1 ht.2).2.1
          refine tz_istore (pc := 153) (L2 := [_, _, _, _, _, _, _, _, _]) dX2_appliedPart_153 (by decide) rfl ?_
          refine tz_aload_n (pc := 155) dX2_appliedPart_155 rfl rfl ?_
          refine tz_fR (pc := 156) dX2_appliedPart_156 fl_X2_28 r_141_0 ?_
          refine tz_aload_n (pc := 159) dX2_appliedPart_159 rfl rfl ?_
          refine tz_fR (pc := 160) dX2_appliedPart_160 fl_X2_28 r_141_0 ?_
          refine tz_fR (pc := 163) dX2_appliedPart_163 fl_X2_42 r_6_1 ?_
          refine tz_iload_n (pc := 166) dX2_appliedPart_166 rfl rfl ?_
          refine tz_aL (pc := 167) (z := t) (v := (J_150 7 t)) dX2_appliedPart_167 a_7 rfl (by omega) rfl (fun r_167 => ?_)
          refine tz_iload (pc := 168) dX2_appliedPart_168 rfl ?_
          refine tz_iload (pc := 170) dX2_appliedPart_170 rfl ?_
          refine tz_iload (pc := 172) dX2_appliedPart_172 rfl ?_
          refine tz_cV (pc := 174) (c_made hl n _ _ _ _ _ (by omega) (by omega) (by omega) (by omega) m_150 (q_150).2.1 (q_150).2.2.1 (by have := (q_150).2.1.ar (t := t) (by omega) (by have := (q_150).1; omega); omega) (ltA_of (by omega) (by omega) (by omega))) vl_X2_52 dX2_appliedPart_174 o_6 rfl rfl (Nat.le_of_ble_eq_true rfl) ⟨(Nat.le_of_ble_eq_true rfl), (Nat.le_of_ble_eq_true rfl)⟩ rfl rfl (Nat.le_of_ble_eq_true rfl) (Nat.le_of_ble_eq_true rfl) (fun r9 J_174 hq9 => ?_)
          obtain ⟨z_174, rfl, hz_174, p_9⟩ := hq9
          obtain ⟨m9, g9, h9⟩ := GR.made p_9 (by omega)
          have q9 := GR.tr q_150 g9
          exact tz_iret (pc := 177) (z := z_174) dX2_appliedPart_177 rfl (Nat.le_of_ble_eq_true rfl) (Nat.le_of_ble_eq_true rfl) ⟨Nat.le_refl _, Nat.le_add_right _ _⟩ ⟨_, rfl, (by omega), ⟨m9, q9, h9, fun S β hβ hG E => ap_c hG E hm ht (by omega) (ap_end (fun S t h => apO_f h) hG E C hm ht (Or.inl ⟨by omega, g_88, hz_88, fun S9 h9 E9 => x_88 S9 β (fun v a c => by rw [u_88]; exact hβ v a c) h9 E9⟩) (Or.inl ⟨by omega, g_119, hz_119, fun S9 h9 E9 => x_119 S9 β (fun v a c => by rw [u_119]; exact hβ v a c) h9 E9⟩) (Or.inl ⟨by omega, g_150, hz_150, fun S9 h9 E9 => x_150 S9 β (fun v a c => by rw [u_150]; exact hβ v a c) h9 E9⟩) (by rw [show J 7 t = J_150 7 t from (((q_150).2.2.2.1.1 t ht.1 ht.2).1).symm]; exact p_9))⟩⟩
        · refine tz_iconst (pc := 130) dX2_appliedPart_130 ?_
          refine tz_goto (pc := 131) (tgt := 153) dX2_appliedPart_131 (by decide) ?_
          refine tz_istore (pc := 153) (L2 := [_, _, _, _, _, _, _, _, _]) dX2_appliedPart_153 (by decide) rfl ?_
          refine tz_aload_n (pc := 155) dX2_appliedPart_155 rfl rfl ?_
          refine tz_fR (pc := 156) dX2_appliedPart_156 fl_X2_28 r_141_0 ?_
          refine tz_aload_n (pc := 159) dX2_appliedPart_159 rfl rfl ?_
          refine tz_fR (pc := 160) dX2_appliedPart_160 fl_X2_28 r_141_0 ?_
          refine tz_fR (pc := 163) dX2_appliedPart_163 fl_X2_42 r_6_1 ?_
          refine tz_iload_n (pc := 166) dX2_appliedPart_166 rfl rfl ?_
          refine tz_aL (pc := 167) (z := t) (v := (J_119 7 t)) dX2_appliedPart_167 a_7 rfl (by omega) rfl (fun r_167 => ?_)
          refine tz_iload (pc := 168) dX2_appliedPart_168 rfl ?_
          refine tz_iload (pc := 170) dX2_appliedPart_170 rfl ?_
          refine tz_iload (pc := 172) dX2_appliedPart_172 rfl ?_
          refine tz_cV (pc := 174) (c_made hl n _ _ _ _ _ (by omega) (by omega) (by omega) (by omega) m_119 (q_119).2.1 (q_119).2.2.1 (by have := (q_119).2.1.ar (t := t) (by omega) (by have := (q_119).1; omega); omega) (ltA_of (by omega) (by omega) (by omega))) vl_X2_52 dX2_appliedPart_174 o_6 rfl rfl (Nat.le_of_ble_eq_true rfl) ⟨(Nat.le_of_ble_eq_true rfl), (Nat.le_of_ble_eq_true rfl)⟩ rfl rfl (Nat.le_of_ble_eq_true rfl) (Nat.le_of_ble_eq_true rfl) (fun r9 J_174 hq9 => ?_)
          obtain ⟨z_174, rfl, hz_174, p_9⟩ := hq9
          obtain ⟨m9, g9, h9⟩ := GR.made p_9 (by omega)
          have q9 := GR.tr q_119 g9
          exact tz_iret (pc := 177) (z := z_174) dX2_appliedPart_177 rfl (Nat.le_of_ble_eq_true rfl) (Nat.le_of_ble_eq_true rfl) ⟨Nat.le_refl _, Nat.le_add_right _ _⟩ ⟨_, rfl, (by omega), ⟨m9, q9, h9, fun S β hβ hG E => ap_c hG E hm ht (by omega) (ap_end (fun S t h => apO_f h) hG E C hm ht (Or.inl ⟨by omega, g_88, hz_88, fun S9 h9 E9 => x_88 S9 β (fun v a c => by rw [u_88]; exact hβ v a c) h9 E9⟩) (Or.inl ⟨by omega, g_119, hz_119, fun S9 h9 E9 => x_119 S9 β (fun v a c => by rw [u_119]; exact hβ v a c) h9 E9⟩) (Or.inr ⟨by rw [show J_119 8 t = J 8 t from ((q_119).2.2.2.1.1 t ht.1 ht.2).2.1]; omega, rfl, rfl⟩) (by rw [show J 7 t = J_119 7 t from (((q_119).2.2.2.1.1 t ht.1 ht.2).1).symm]; exact p_9))⟩⟩
      · refine tz_iconst (pc := 99) dX2_appliedPart_99 ?_
        refine tz_goto (pc := 100) (tgt := 122) dX2_appliedPart_100 (by decide) ?_
        refine tz_istore (pc := 122) (L2 := [_, _, _, _, _, _, _, _, _]) dX2_appliedPart_122 (by decide) rfl ?_
        refine tz_iload (pc := 124) dX2_appliedPart_124 rfl ?_
        refine tz_iconst (pc := 126) dX2_appliedPart_126 ?_
        refine tz_icmp_ge (pc := 127) (tgt := 134) dX2_appliedPart_127 (by decide) (by omega) (by decide) (fun h_127 => ?_) (fun h_127 => ?_)
        · refine tz_aload_n (pc := 134) dX2_appliedPart_134 rfl rfl ?_
          refine tz_aload_n (pc := 135) dX2_appliedPart_135 rfl rfl ?_
          refine tz_fR (pc := 136) dX2_appliedPart_136 fl_X2_28 r_141_0 ?_
          refine tz_iload_n (pc := 139) dX2_appliedPart_139 rfl rfl ?_
          refine tz_iconst (pc := 140) dX2_appliedPart_140 ?_
          refine tz_cV (pc := 141) (c_arg hl n _ _ _ (by omega) (by decide) (by omega)) vl_X2_48 dX2_appliedPart_141 o_6 rfl rfl (Nat.le_of_ble_eq_true rfl) ⟨(Nat.le_of_ble_eq_true rfl), (Nat.le_of_ble_eq_true rfl)⟩ rfl rfl (Nat.le_of_ble_eq_true rfl) (Nat.le_of_ble_eq_true rfl) (fun r9 J_141 hq9 => ?_)
          obtain ⟨z_141, rfl, hz_141, rfl, rfl⟩ := hq9
          refine tz_aload_n (pc := 144) dX2_appliedPart_144 rfl rfl ?_
          refine tz_iload_n (pc := 145) dX2_appliedPart_145 rfl rfl ?_
          refine tz_iload (pc := 146) dX2_appliedPart_146 rfl ?_
          refine tz_iconst (pc := 148) dX2_appliedPart_148 ?_
          refine tz_iadd (pc := 149) (v := 6) dX2_appliedPart_149 (by decide) ?_
          have b_150 := GR.arg q_88 C ht (i := 2) (by omega)
          have c_150 := (q_88).1
          refine tz_cV (pc := 150) (x_app19_6 hl n _ _ (by omega) m_88 (q_88).2.1 (q_88).2.2.1 (by omega) (GR.row q_88 rfl hr)) vl_X2_32 dX2_appliedPart_150 o_141 rfl rfl (Nat.le_of_ble_eq_true rfl) ⟨(Nat.le_of_ble_eq_true rfl), (Nat.le_of_ble_eq_true rfl)⟩ rfl rfl (Nat.le_of_ble_eq_true rfl) (Nat.le_of_ble_eq_true rfl) (fun r9 J_150 hq9 => ?_)
          obtain ⟨z_150, rfl, hz_150, m_150, g_150, hz_150, x_150⟩ := hq9
          have q_150 := GR.tr q_88 g_150
          have d_150 := q_150.1
          have e_150 := g_150.1
          have u_150 : J_88 19 = J 19 := (q_88).2.2.2.2 19 rfl
          have k8_150 : J_88 8 t = J 8 t := ((q_88).2.2.2.1.1 t ht.1 ht.2).2.1
          refine tz_istore (pc := 153) (L2 := [_, _, _, _, _, _, _, _, _]) dX2_appliedPart_153 (by decide) rfl ?_
          refine tz_aload_n (pc := 155) dX2_appliedPart_155 rfl rfl ?_
          refine tz_fR (pc := 156) dX2_appliedPart_156 fl_X2_28 r_141_0 ?_
          refine tz_aload_n (pc := 159) dX2_appliedPart_159 rfl rfl ?_
          refine tz_fR (pc := 160) dX2_appliedPart_160 fl_X2_28 r_141_0 ?_
          refine tz_fR (pc := 163) dX2_appliedPart_163 fl_X2_42 r_6_1 ?_
          refine tz_iload_n (pc := 166) dX2_appliedPart_166 rfl rfl ?_
          refine tz_aL (pc := 167) (z := t) (v := (J_150 7 t)) dX2_appliedPart_167 a_7 rfl (by omega) rfl (fun r_167 => ?_)
          refine tz_iload (pc := 168) dX2_appliedPart_168 rfl ?_
          refine tz_iload (pc := 170) dX2_appliedPart_170 rfl ?_
          refine tz_iload (pc := 172) dX2_appliedPart_172 rfl ?_
          refine tz_cV (pc := 174) (c_made hl n _ _ _ _ _ (by omega) (by omega) (by omega) (by omega) m_150 (q_150).2.1 (q_150).2.2.1 (by have := (q_150).2.1.ar (t := t) (by omega) (by have := (q_150).1; omega); omega) (ltA_of (by omega) (by omega) (by omega))) vl_X2_52 dX2_appliedPart_174 o_6 rfl rfl (Nat.le_of_ble_eq_true rfl) ⟨(Nat.le_of_ble_eq_true rfl), (Nat.le_of_ble_eq_true rfl)⟩ rfl rfl (Nat.le_of_ble_eq_true rfl) (Nat.le_of_ble_eq_true rfl) (fun r9 J_174 hq9 => ?_)
          obtain ⟨z_174, rfl, hz_174, p_9⟩ := hq9
          obtain ⟨m9, g9, h9⟩ := GR.made p_9 (by omega)
          have q9 := GR.tr q_150 g9
          exact tz_iret (pc := 177) (z := z_174) dX2_appliedPart_177 rfl (Nat.le_of_ble_eq_true rfl) (Nat.le_of_ble_eq_true rfl) ⟨Nat.le_refl _, Nat.le_add_right _ _⟩ ⟨_, rfl, (by omega), ⟨m9, q9, h9, fun S β hβ hG E => ap_c hG E hm ht (by omega) (ap_end (fun S t h => apO_f h) hG E C hm ht (Or.inl ⟨by omega, g_88, hz_88, fun S9 h9 E9 => x_88 S9 β (fun v a c => by rw [u_88]; exact hβ v a c) h9 E9⟩) (Or.inr ⟨by rw [show J_88 8 t = J 8 t from ((q_88).2.2.2.1.1 t ht.1 ht.2).2.1]; omega, rfl, rfl⟩) (Or.inl ⟨by omega, g_150, hz_150, fun S9 h9 E9 => x_150 S9 β (fun v a c => by rw [u_150]; exact hβ v a c) h9 E9⟩) (by rw [show J 7 t = J_150 7 t from (((q_150).2.2.2.1.1 t ht.1 ht.2).1).symm]; exact p_9))⟩⟩
        · refine tz_iconst (pc := 130) dX2_appliedPart_130 ?_
          refine tz_goto (pc := 131) (tgt := 153) dX2_appliedPart_131 (by decide) ?_
          refine tz_istore (pc := 153) (L2 := [_, _, _, _, _, _, _, _, _]) dX2_appliedPart_153 (by decide) rfl ?_
          refine tz_aload_n (pc := 155) dX2_appliedPart_155 rfl rfl ?_
          refine tz_fR (pc := 156) dX2_appliedPart_156 fl_X2_28 r_141_0 ?_
          refine tz_aload_n (pc := 159) dX2_appliedPart_159 rfl rfl ?_
          refine tz_fR (pc := 160) dX2_appliedPart_160 fl_X2_28 r_141_0 ?_
          refine tz_fR (pc := 163) dX2_appliedPart_163 fl_X2_42 r_6_1 ?_
          refine tz_iload_n (pc := 166) dX2_appliedPart_166 rfl rfl ?_
          refine tz_aL (pc := 167) (z := t) (v := (J_88 7 t)) dX2_appliedPart_167 a_7 rfl (by omega) rfl (fun r_167 => ?_)
          refine tz_iload (pc := 168) dX2_appliedPart_168 rfl ?_
          refine tz_iload (pc := 170) dX2_appliedPart_170 rfl ?_
          refine tz_iload (pc := 172) dX2_appliedPart_172 rfl ?_
          refine tz_cV (pc := 174) (c_made hl n _ _ _ _ _ (by omega) (by omega) (by omega) (by omega) m_88 (q_88).2.1 (q_88).2.2.1 (by have := (q_88).2.1.ar (t := t) (by omega) (by have := (q_88).1; omega); omega) (ltA_of (by omega) (by omega) (by omega))) vl_X2_52 dX2_appliedPart_174 o_6 rfl rfl (Nat.le_of_ble_eq_true rfl) ⟨(Nat.le_of_ble_eq_true rfl), (Nat.le_of_ble_eq_true rfl)⟩ rfl rfl (Nat.le_of_ble_eq_true rfl) (Nat.le_of_ble_eq_true rfl) (fun r9 J_174 hq9 => ?_)
          obtain ⟨z_174, rfl, hz_174, p_9⟩ := hq9
          obtain ⟨m9, g9, h9⟩ := GR.made p_9 (by omega)
          have q9 := GR.tr q_88 g9
          exact tz_iret (pc := 177) (z := z_174) dX2_appliedPart_177 rfl (Nat.le_of_ble_eq_true rfl) (Nat.le_of_ble_eq_true rfl) ⟨Nat.le_refl _, Nat.le_add_right _ _⟩ ⟨_, rfl, (by omega), ⟨m9, q9, h9, fun S β hβ hG E => ap_c hG E hm ht (by omega) (ap_end (fun S t h => apO_f h) hG E C hm ht (Or.inl ⟨by omega, g_88, hz_88, fun S9 h9 E9 => x_88 S9 β (fun v a c => by rw [u_88]; exact hβ v a c) h9 E9⟩) (Or.inr ⟨by rw [show J_88 8 t = J 8 t from ((q_88).2.2.2.1.1 t ht.1 ht.2).2.1]; omega, rfl, rfl⟩) (Or.inr ⟨by rw [show J_88 8 t = J 8 t from ((q_88).2.2.2.1.1 t ht.1 ht.2).2.1]; omega, rfl, rfl⟩) (by rw [show J 7 t = J_88 7 t from (((q_88).2.2.2.1.1 t ht.1 ht.2).1).symm]; exact p_9))⟩⟩
    · refine tz_iconst (pc := 68) dX2_appliedPart_68 ?_
      refine tz_goto (pc := 69) (tgt := 91) dX2_appliedPart_69 (by decide) ?_
      refine tz_istore (pc := 91) (L2 := [_, _, _, _, _, _, _, _, _]) dX2_appliedPart_91 (by decide) rfl ?_
      refine tz_iload (pc := 93) dX2_appliedPart_93 rfl ?_
      refine tz_iconst (pc := 95) dX2_appliedPart_95 ?_
      refine tz_icmp_ge (pc := 96) (tgt := 103) dX2_appliedPart_96 (by decide) (by omega) (by decide) (fun h_96 => ?_) (fun h_96 => ?_)
      · refine tz_aload_n (pc := 103) dX2_appliedPart_103 rfl rfl ?_
        refine tz_aload_n (pc := 104) dX2_appliedPart_104 rfl rfl ?_
        refine tz_fR (pc := 105) dX2_appliedPart_105 fl_X2_28 r_141_0 ?_
        refine tz_iload_n (pc := 108) dX2_appliedPart_108 rfl rfl ?_
        refine tz_iconst (pc := 109) dX2_appliedPart_109 ?_
        refine tz_cV (pc := 110) (c_arg hl n _ _ _ (by omega) (by decide) (by omega)) vl_X2_48 dX2_appliedPart_110 o_6 rfl rfl (Nat.le_of_ble_eq_true rfl) ⟨(Nat.le_of_ble_eq_true rfl), (Nat.le_of_ble_eq_true rfl)⟩ rfl rfl (Nat.le_of_ble_eq_true rfl) (Nat.le_of_ble_eq_true rfl) (fun r9 J_110 hq9 => ?_)
        obtain ⟨z_110, rfl, hz_110, rfl, rfl⟩ := hq9
        refine tz_aload_n (pc := 113) dX2_appliedPart_113 rfl rfl ?_
        refine tz_iload_n (pc := 114) dX2_appliedPart_114 rfl rfl ?_
        refine tz_iload (pc := 115) dX2_appliedPart_115 rfl ?_
        refine tz_iconst (pc := 117) dX2_appliedPart_117 ?_
        refine tz_iadd (pc := 118) (v := 6) dX2_appliedPart_118 (by decide) ?_
        have b_119 := GR.arg (GR.rf C hm) C ht (i := 1) (by omega)
        have c_119 := ((GR.rf C hm)).1
        refine tz_cV (pc := 119) (x_app19_6 hl n _ _ (by omega) m ((GR.rf C hm)).2.1 ((GR.rf C hm)).2.2.1 (by omega) (GR.row (GR.rf C hm) rfl hr)) vl_X2_32 dX2_appliedPart_119 o_141 rfl rfl (Nat.le_of_ble_eq_true rfl) ⟨(Nat.le_of_ble_eq_true rfl), (Nat.le_of_ble_eq_true rfl)⟩ rfl rfl (Nat.le_of_ble_eq_true rfl) (Nat.le_of_ble_eq_true rfl) (fun r9 J_119 hq9 => ?_)
        obtain ⟨z_119, rfl, hz_119, m_119, g_119, hz_119, x_119⟩ := hq9
        have q_119 := GR.tr (GR.rf C hm) g_119
        have d_119 := q_119.1
        have e_119 := g_119.1
        have u_119 : J 19 = J 19 := ((GR.rf C hm)).2.2.2.2 19 rfl
        have k8_119 : J 8 t = J 8 t := (((GR.rf C hm)).2.2.2.1.1 t ht.1 ht.2).2.1
        refine tz_istore (pc := 122) (L2 := [_, _, _, _, _, _, _, _, _]) dX2_appliedPart_122 (by decide) rfl ?_
        refine tz_iload (pc := 124) dX2_appliedPart_124 rfl ?_
        refine tz_iconst (pc := 126) dX2_appliedPart_126 ?_
        refine tz_icmp_ge (pc := 127) (tgt := 134) dX2_appliedPart_127 (by decide) (by omega) (by decide) (fun h_127 => ?_) (fun h_127 => ?_)
        · refine tz_aload_n (pc := 134) dX2_appliedPart_134 rfl rfl ?_
          refine tz_aload_n (pc := 135) dX2_appliedPart_135 rfl rfl ?_
          refine tz_fR (pc := 136) dX2_appliedPart_136 fl_X2_28 r_141_0 ?_
          refine tz_iload_n (pc := 139) dX2_appliedPart_139 rfl rfl ?_
          refine tz_iconst (pc := 140) dX2_appliedPart_140 ?_
          refine tz_cV (pc := 141) (c_arg hl n _ _ _ (by omega) (by decide) (by omega)) vl_X2_48 dX2_appliedPart_141 o_6 rfl rfl (Nat.le_of_ble_eq_true rfl) ⟨(Nat.le_of_ble_eq_true rfl), (Nat.le_of_ble_eq_true rfl)⟩ rfl rfl (Nat.le_of_ble_eq_true rfl) (Nat.le_of_ble_eq_true rfl) (fun r9 J_141 hq9 => ?_)
          obtain ⟨z_141, rfl, hz_141, rfl, rfl⟩ := hq9
          refine tz_aload_n (pc := 144) dX2_appliedPart_144 rfl rfl ?_
          refine tz_iload_n (pc := 145) dX2_appliedPart_145 rfl rfl ?_
          refine tz_iload (pc := 146) dX2_appliedPart_146 rfl ?_
          refine tz_iconst (pc := 148) dX2_appliedPart_148 ?_
          refine tz_iadd (pc := 149) (v := 6) dX2_appliedPart_149 (by decide) ?_
          have b_150 := GR.arg q_119 C ht (i := 2) (by omega)
          have c_150 := (q_119).1
          refine tz_cV (pc := 150) (x_app19_6 hl n _ _ (by omega) m_119 (q_119).2.1 (q_119).2.2.1 (by omega) (GR.row q_119 rfl hr)) vl_X2_32 dX2_appliedPart_150 o_141 rfl rfl (Nat.le_of_ble_eq_true rfl) ⟨(Nat.le_of_ble_eq_true rfl), (Nat.le_of_ble_eq_true rfl)⟩ rfl rfl (Nat.le_of_ble_eq_true rfl) (Nat.le_of_ble_eq_true rfl) (fun r9 J_150 hq9 => ?_)
          obtain ⟨z_150, rfl, hz_150, m_150, g_150, hz_150, x_150⟩ := hq9
          have q_150 := GR.tr q_119 g_150
          have d_150 := q_150.1
          have e_150 := g_150.1
          have u_150 : J_119 19 = J 19 := (q_119).2.2.2.2 19 rfl
          have k8_150 : J_119 8 t = J 8 t := ((q_119).2.2.2.1.1 t ht.1 ht.2).2.1
          refine tz_istore (pc := 153) (L2 := [_, _, _, _, _, _, _, _, _]) dX2_appliedPart_153 (by decide) rfl ?_
          refine tz_aload_n (pc := 155) dX2_appliedPart_155 rfl rfl ?_
          refine tz_fR (pc := 156) dX2_appliedPart_156 fl_X2_28 r_141_0 ?_
          refine tz_aload_n (pc := 159) dX2_appliedPart_159 rfl rfl ?_
          refine tz_fR (pc := 160) dX2_appliedPart_160 fl_X2_28 r_141_0 ?_
          refine tz_fR (pc := 163) dX2_appliedPart_163 fl_X2_42 r_6_1 ?_
          refine tz_iload_n (pc := 166) dX2_appliedPart_166 rfl rfl ?_
          refine tz_aL (pc := 167) (z := t) (v := (J_150 7 t)) dX2_appliedPart_167 a_7 rfl (by omega) rfl (fun r_167 => ?_)
          refine tz_iload (pc := 168) dX2_appliedPart_168 rfl ?_
          refine tz_iload (pc := 170) dX2_appliedPart_170 rfl ?_
          refine tz_iload (pc := 172) dX2_appliedPart_172 rfl ?_
          refine tz_cV (pc := 174) (c_made hl n _ _ _ _ _ (by omega) (by omega) (by omega) (by omega) m_150 (q_150).2.1 (q_150).2.2.1 (by have := (q_150).2.1.ar (t := t) (by omega) (by have := (q_150).1; omega); omega) (ltA_of (by omega) (by omega) (by omega))) vl_X2_52 dX2_appliedPart_174 o_6 rfl rfl (Nat.le_of_ble_eq_true rfl) ⟨(Nat.le_of_ble_eq_true rfl), (Nat.le_of_ble_eq_true rfl)⟩ rfl rfl (Nat.le_of_ble_eq_true rfl) (Nat.le_of_ble_eq_true rfl) (fun r9 J_174 hq9 => ?_)
          obtain ⟨z_174, rfl, hz_174, p_9⟩ := hq9
          obtain ⟨m9, g9, h9⟩ := GR.made p_9 (by omega)
          have q9 := GR.tr q_150 g9
          exact tz_iret (pc := 177) (z := z_174) dX2_appliedPart_177 rfl (Nat.le_of_ble_eq_true rfl) (Nat.le_of_ble_eq_true rfl) ⟨Nat.le_refl _, Nat.le_add_right _ _⟩ ⟨_, rfl, (by omega), ⟨m9, q9, h9, fun S β hβ hG E => ap_c hG E hm ht (by omega) (ap_end (fun S t h => apO_f h) hG E C hm ht (Or.inr ⟨by rw [show J 8 t = J 8 t from rfl]; omega, rfl, rfl⟩) (Or.inl ⟨by omega, g_119, hz_119, fun S9 h9 E9 => x_119 S9 β (fun v a c => by rw [u_119]; exact hβ v a c) h9 E9⟩) (Or.inl ⟨by omega, g_150, hz_150, fun S9 h9 E9 => x_150 S9 β (fun v a c => by rw [u_150]; exact hβ v a c) h9 E9⟩) (by rw [show J 7 t = J_150 7 t from (((q_150).2.2.2.1.1 t ht.1 ht.2).1).symm]; exact p_9))⟩⟩
        · refine tz_iconst (pc := 130) dX2_appliedPart_130 ?_
          refine tz_goto (pc := 131) (tgt := 153) dX2_appliedPart_131 (by decide) ?_
          refine tz_istore (pc := 153) (L2 := [_, _, _, _, _, _, _, _, _]) dX2_appliedPart_153 (by decide) rfl ?_
          refine tz_aload_n (pc := 155) dX2_appliedPart_155 rfl rfl ?_
          refine tz_fR (pc := 156) dX2_appliedPart_156 fl_X2_28 r_141_0 ?_
          refine tz_aload_n (pc := 159) dX2_appliedPart_159 rfl rfl ?_
          refine tz_fR (pc := 160) dX2_appliedPart_160 fl_X2_28 r_141_0 ?_
          refine tz_fR (pc := 163) dX2_appliedPart_163 fl_X2_42 r_6_1 ?_
          refine tz_iload_n (pc := 166) dX2_appliedPart_166 rfl rfl ?_
          refine tz_aL (pc := 167) (z := t) (v := (J_119 7 t)) dX2_appliedPart_167 a_7 rfl (by omega) rfl (fun r_167 => ?_)
          refine tz_iload (pc := 168) dX2_appliedPart_168 rfl ?_
          refine tz_iload (pc := 170) dX2_appliedPart_170 rfl ?_
          refine tz_iload (pc := 172) dX2_appliedPart_172 rfl ?_
          refine tz_cV (pc := 174) (c_made hl n _ _ _ _ _ (by omega) (by omega) (by omega) (by omega) m_119 (q_119).2.1 (q_119).2.2.1 (by have := (q_119).2.1.ar (t := t) (by omega) (by have := (q_119).1; omega); omega) (ltA_of (by omega) (by omega) (by omega))) vl_X2_52 dX2_appliedPart_174 o_6 rfl rfl (Nat.le_of_ble_eq_true rfl) ⟨(Nat.le_of_ble_eq_true rfl), (Nat.le_of_ble_eq_true rfl)⟩ rfl rfl (Nat.le_of_ble_eq_true rfl) (Nat.le_of_ble_eq_true rfl) (fun r9 J_174 hq9 => ?_)
          obtain ⟨z_174, rfl, hz_174, p_9⟩ := hq9
          obtain ⟨m9, g9, h9⟩ := GR.made p_9 (by omega)
          have q9 := GR.tr q_119 g9
          exact tz_iret (pc := 177) (z := z_174) dX2_appliedPart_177 rfl (Nat.le_of_ble_eq_true rfl) (Nat.le_of_ble_eq_true rfl) ⟨Nat.le_refl _, Nat.le_add_right _ _⟩ ⟨_, rfl, (by omega), ⟨m9, q9, h9, fun S β hβ hG E => ap_c hG E hm ht (by omega) (ap_end (fun S t h => apO_f h) hG E C hm ht (Or.inr ⟨by rw [show J 8 t = J 8 t from rfl]; omega, rfl, rfl⟩) (Or.inl ⟨by omega, g_119, hz_119, fun S9 h9 E9 => x_119 S9 β (fun v a c => by rw [u_119]; exact hβ v a c) h9 E9⟩) (Or.inr ⟨by rw [show J_119 8 t = J 8 t from ((q_119).2.2.2.1.1 t ht.1 ht.2).2.1]; omega, rfl, rfl⟩) (by rw [show J 7 t = J_119 7 t from (((q_119).2.2.2.1.1 t ht.1 ht.2).1).symm]; exact p_9))⟩⟩
      · refine tz_iconst (pc := 99) dX2_appliedPart_99 ?_
        refine tz_goto (pc := 100) (tgt := 122) dX2_appliedPart_100 (by decide) ?_
        refine tz_istore (pc := 122) (L2 := [_, _, _, _, _, _, _, _, _]) dX2_appliedPart_122 (by decide) rfl ?_
        refine tz_iload (pc := 124) dX2_appliedPart_124 rfl ?_
        refine tz_iconst (pc := 126) dX2_appliedPart_126 ?_
        refine tz_icmp_ge (pc := 127) (tgt := 134) dX2_appliedPart_127 (by decide) (by omega) (by decide) (fun h_127 => ?_) (fun h_127 => ?_)
        · refine tz_aload_n (pc := 134) dX2_appliedPart_134 rfl rfl ?_
          refine tz_aload_n (pc := 135) dX2_appliedPart_135 rfl rfl ?_
          refine tz_fR (pc := 136) dX2_appliedPart_136 fl_X2_28 r_141_0 ?_
          refine tz_iload_n (pc := 139) dX2_appliedPart_139 rfl rfl ?_
          refine tz_iconst (pc := 140) dX2_appliedPart_140 ?_
          refine tz_cV (pc := 141) (c_arg hl n _ _ _ (by omega) (by decide) (by omega)) vl_X2_48 dX2_appliedPart_141 o_6 rfl rfl (Nat.le_of_ble_eq_true rfl) ⟨(Nat.le_of_ble_eq_true rfl), (Nat.le_of_ble_eq_true rfl)⟩ rfl rfl (Nat.le_of_ble_eq_true rfl) (Nat.le_of_ble_eq_true rfl) (fun r9 J_141 hq9 => ?_)
          obtain ⟨z_141, rfl, hz_141, rfl, rfl⟩ := hq9
          refine tz_aload_n (pc := 144) dX2_appliedPart_144 rfl rfl ?_
          refine tz_iload_n (pc := 145) dX2_appliedPart_145 rfl rfl ?_
          refine tz_iload (pc := 146) dX2_appliedPart_146 rfl ?_
          refine tz_iconst (pc := 148) dX2_appliedPart_148 ?_
          refine tz_iadd (pc := 149) (v := 6) dX2_appliedPart_149 (by decide) ?_
          have b_150 := GR.arg (GR.rf C hm) C ht (i := 2) (by omega)
          have c_150 := ((GR.rf C hm)).1
          refine tz_cV (pc := 150) (x_app19_6 hl n _ _ (by omega) m ((GR.rf C hm)).2.1 ((GR.rf C hm)).2.2.1 (by omega) (GR.row (GR.rf C hm) rfl hr)) vl_X2_32 dX2_appliedPart_150 o_141 rfl rfl (Nat.le_of_ble_eq_true rfl) ⟨(Nat.le_of_ble_eq_true rfl), (Nat.le_of_ble_eq_true rfl)⟩ rfl rfl (Nat.le_of_ble_eq_true rfl) (Nat.le_of_ble_eq_true rfl) (fun r9 J_150 hq9 => ?_)
          obtain ⟨z_150, rfl, hz_150, m_150, g_150, hz_150, x_150⟩ := hq9
          have q_150 := GR.tr (GR.rf C hm) g_150
          have d_150 := q_150.1
          have e_150 := g_150.1
          have u_150 : J 19 = J 19 := ((GR.rf C hm)).2.2.2.2 19 rfl
          have k8_150 : J 8 t = J 8 t := (((GR.rf C hm)).2.2.2.1.1 t ht.1 ht.2).2.1
          refine tz_istore (pc := 153) (L2 := [_, _, _, _, _, _, _, _, _]) dX2_appliedPart_153 (by decide) rfl ?_
          refine tz_aload_n (pc := 155) dX2_appliedPart_155 rfl rfl ?_
          refine tz_fR (pc := 156) dX2_appliedPart_156 fl_X2_28 r_141_0 ?_
          refine tz_aload_n (pc := 159) dX2_appliedPart_159 rfl rfl ?_
          refine tz_fR (pc := 160) dX2_appliedPart_160 fl_X2_28 r_141_0 ?_
          refine tz_fR (pc := 163) dX2_appliedPart_163 fl_X2_42 r_6_1 ?_
          refine tz_iload_n (pc := 166) dX2_appliedPart_166 rfl rfl ?_
          refine tz_aL (pc := 167) (z := t) (v := (J_150 7 t)) dX2_appliedPart_167 a_7 rfl (by omega) rfl (fun r_167 => ?_)
          refine tz_iload (pc := 168) dX2_appliedPart_168 rfl ?_
          refine tz_iload (pc := 170) dX2_appliedPart_170 rfl ?_
          refine tz_iload (pc := 172) dX2_appliedPart_172 rfl ?_
          refine tz_cV (pc := 174) (c_made hl n _ _ _ _ _ (by omega) (by omega) (by omega) (by omega) m_150 (q_150).2.1 (q_150).2.2.1 (by have := (q_150).2.1.ar (t := t) (by omega) (by have := (q_150).1; omega); omega) (ltA_of (by omega) (by omega) (by omega))) vl_X2_52 dX2_appliedPart_174 o_6 rfl rfl (Nat.le_of_ble_eq_true rfl) ⟨(Nat.le_of_ble_eq_true rfl), (Nat.le_of_ble_eq_true rfl)⟩ rfl rfl (Nat.le_of_ble_eq_true rfl) (Nat.le_of_ble_eq_true rfl) (fun r9 J_174 hq9 => ?_)
          obtain ⟨z_174, rfl, hz_174, p_9⟩ := hq9
          obtain ⟨m9, g9, h9⟩ := GR.made p_9 (by omega)
          have q9 := GR.tr q_150 g9
          exact tz_iret (pc := 177) (z := z_174) dX2_appliedPart_177 rfl (Nat.le_of_ble_eq_true rfl) (Nat.le_of_ble_eq_true rfl) ⟨Nat.le_refl _, Nat.le_add_right _ _⟩ ⟨_, rfl, (by omega), ⟨m9, q9, h9, fun S β hβ hG E => ap_c hG E hm ht (by omega) (ap_end (fun S t h => apO_f h) hG E C hm ht (Or.inr ⟨by rw [show J 8 t = J 8 t from rfl]; omega, rfl, rfl⟩) (Or.inr ⟨by rw [show J 8 t = J 8 t from rfl]; omega, rfl, rfl⟩) (Or.inl ⟨by omega, g_150, hz_150, fun S9 h9 E9 => x_150 S9 β (fun v a c => by rw [u_150]; exact hβ v a c) h9 E9⟩) (by rw [show J 7 t = J_150 7 t from (((q_150).2.2.2.1.1 t ht.1 ht.2).1).symm]; exact p_9))⟩⟩
        · refine tz_iconst (pc := 130) dX2_appliedPart_130 ?_
          refine tz_goto (pc := 131) (tgt := 153) dX2_appliedPart_131 (by decide) ?_
          refine tz_istore (pc := 153) (L2 := [_, _, _, _, _, _, _, _, _]) dX2_appliedPart_153 (by decide) rfl ?_
          refine tz_aload_n (pc := 155) dX2_appliedPart_155 rfl rfl ?_
          refine tz_fR (pc := 156) dX2_appliedPart_156 fl_X2_28 r_141_0 ?_
          refine tz_aload_n (pc := 159) dX2_appliedPart_159 rfl rfl ?_
          refine tz_fR (pc := 160) dX2_appliedPart_160 fl_X2_28 r_141_0 ?_
          refine tz_fR (pc := 163) dX2_appliedPart_163 fl_X2_42 r_6_1 ?_
          refine tz_iload_n (pc := 166) dX2_appliedPart_166 rfl rfl ?_
          refine tz_aL (pc := 167) (z := t) (v := (J 7 t)) dX2_appliedPart_167 a_7 rfl (by omega) rfl (fun r_167 => ?_)
          refine tz_iload (pc := 168) dX2_appliedPart_168 rfl ?_
          refine tz_iload (pc := 170) dX2_appliedPart_170 rfl ?_
          refine tz_iload (pc := 172) dX2_appliedPart_172 rfl ?_
          refine tz_cV (pc := 174) (c_made hl n _ _ _ _ _ (by omega) (by omega) (by omega) (by omega) m ((GR.rf C hm)).2.1 ((GR.rf C hm)).2.2.1 (by have := ((GR.rf C hm)).2.1.ar (t := t) (by omega) (by have := ((GR.rf C hm)).1; omega); omega) (ltA_of (by omega) (by omega) (by omega))) vl_X2_52 dX2_appliedPart_174 o_6 rfl rfl (Nat.le_of_ble_eq_true rfl) ⟨(Nat.le_of_ble_eq_true rfl), (Nat.le_of_ble_eq_true rfl)⟩ rfl rfl (Nat.le_of_ble_eq_true rfl) (Nat.le_of_ble_eq_true rfl) (fun r9 J_174 hq9 => ?_)
          obtain ⟨z_174, rfl, hz_174, p_9⟩ := hq9
          obtain ⟨m9, g9, h9⟩ := GR.made p_9 (by omega)
          have q9 := GR.tr (GR.rf C hm) g9
          exact tz_iret (pc := 177) (z := z_174) dX2_appliedPart_177 rfl (Nat.le_of_ble_eq_true rfl) (Nat.le_of_ble_eq_true rfl) ⟨Nat.le_refl _, Nat.le_add_right _ _⟩ ⟨_, rfl, (by omega), ⟨m9, q9, h9, fun S β hβ hG E => ap_c hG E hm ht (by omega) (ap_end (fun S t h => apO_f h) hG E C hm ht (Or.inr ⟨by rw [show J 8 t = J 8 t from rfl]; omega, rfl, rfl⟩) (Or.inr ⟨by rw [show J 8 t = J 8 t from rfl]; omega, rfl, rfl⟩) (Or.inr ⟨by rw [show J 8 t = J 8 t from rfl]; omega, rfl, rfl⟩) (by rw [show J 7 t = J 7 t from rfl]; exact p_9))⟩⟩

set_option maxHeartbeats 4000000 in
set_option maxRecDepth 100000 in
theorem x_app19_4 {l : Launch} {G : tb_G} (hl : l.stackTraces = false) (n : Nat) (J : zJ) (t : Int) (hr_t : -2147483648 ≤ t ∧ t < 2147483648) (m : Int) (C : CT J m) (hm : J 6 12 = m) (ht : 0 ≤ t ∧ t < m) (hr : rOK J 19 7 m) : tz_Ok l G M_X2_appliedPart 5 0 0 [.ref 141, zi t, .ref 19, zi 7, zi 4] n J (zqi (fun z J' => ∃ m', GR J' J m m' ∧ (z = -3 ∨ (0 ≤ z ∧ z < m')) ∧ ∀ (S : zJ) (β : Int → Int), (∀ v, 0 ≤ v → v < 8 → β v = J 19 (7 + v)) → S 164 21 = 0 → A0 J S → EXO (apO β 3 S t) z J')) zN := by
  refine tz_Ok.of hl (by decide +kernel) rfl (tb_c1 rfl) (Nat.le_of_ble_eq_true rfl) ?_
  show tz_At l G M_X2_appliedPart (tb_rm 5 0 0) none (tb_ZM G 0 0 (zQ n 0 (zqi (fun z J' => ∃ m', GR J' J m m' ∧ (z = -3 ∨ (0 ≤ z ∧ z < m')) ∧ ∀ (S : zJ) (β : Int → Int), (∀ v, 0 ≤ v → v < 8 → β v = J 19 (7 + v)) → S 164 21 = 0 → A0 J S → EXO (apO β 3 S t) z J'))) (zX n 0 zN)) 0 0 n J 0 [some (.ref 141), some (zi t), some (.ref 19), some (zi 7), some (zi 4), none, none, none, none] []
  have hb := C.told
  have ha := C.ar ht.1 ht.2
  refine tz_iload (pc := 0) dX2_appliedPart_0 rfl ?_
  refine tz_bipush (pc := 2) dX2_appliedPart_2 (by decide) ?_
  refine tz_icmp_leT (pc := 4) (tgt := 10) (by decide) dX2_appliedPart_4 (by decide) (by decide) (by decide) ?_
  refine tz_aload_n (pc := 10) dX2_appliedPart_10 rfl rfl ?_
  refine tz_fR (pc := 11) dX2_appliedPart_11 fl_X2_28 r_141_0 ?_
  refine tz_iload_n (pc := 14) dX2_appliedPart_14 rfl rfl ?_
  refine tz_cV (pc := 15) (c_isVar hl n _ _ (by omega) (by omega)) vl_X2_36 dX2_appliedPart_15 o_6 rfl rfl (Nat.le_of_ble_eq_true rfl) ⟨(Nat.le_of_ble_eq_true rfl), (Nat.le_of_ble_eq_true rfl)⟩ rfl rfl (Nat.le_of_ble_eq_true rfl) (Nat.le_of_ble_eq_true rfl) (fun r9 J_15 hq9 => ?_)
  obtain ⟨z_15, rfl, hz_15, rfl, rfl⟩ := hq9
  by_cases hw_18 : J 7 t < 0
  · rw [show (if J 7 t < 0 then 1 else 0 : Int) = 1 from if_pos hw_18]
    refine tz_if_eqF (pc := 18) (tgt := 51) (by decide) dX2_appliedPart_18 (by decide) (by decide) ?_
    refine tz_aload_n (pc := 21) dX2_appliedPart_21 rfl rfl ?_
    refine tz_iload_n (pc := 22) dX2_appliedPart_22 rfl rfl ?_
    refine tz_aload_n (pc := 23) dX2_appliedPart_23 rfl rfl ?_
    refine tz_fR (pc := 24) dX2_appliedPart_24 fl_X2_28 r_141_0 ?_
    refine tz_fR (pc := 27) dX2_appliedPart_27 fl_X2_42 r_6_1 ?_
    refine tz_iload_n (pc := 30) dX2_appliedPart_30 rfl rfl ?_
    refine tz_aL (pc := 31) (z := t) (v := (J 7 t)) dX2_appliedPart_31 a_7 rfl (by omega) rfl (fun r_31 => ?_)
    refine tz_iconst (pc := 32) dX2_appliedPart_32 ?_
    refine tz_ixor (pc := 33) (v := -1 - J 7 t) dX2_appliedPart_33 (z_nn (by omega)) ?_
    refine tz_iadd (pc := 34) (v := 7 + (-1 - J 7 t)) dX2_appliedPart_34 rfl ?_
    have hv := hr (-1 - J 7 t) (by omega) (by omega)
    refine tz_aL (pc := 35) (z := (7 + (-1 - J 7 t))) (v := (J 19 (7 + (-1 - J 7 t)))) dX2_appliedPart_35 a_19 rfl (by omega) rfl (fun r_35 => ?_)
    refine tz_istore (pc := 36) (L2 := [_, _, _, _, _, _, _, _, _]) dX2_appliedPart_36 (by decide) rfl ?_
    refine tz_iload (pc := 38) dX2_appliedPart_38 rfl ?_
    refine tz_iconst (pc := 40) dX2_appliedPart_40 ?_
    refine tz_icmp_ne (pc := 41) (tgt := 48) dX2_appliedPart_41 (by decide) (by omega) (by decide) (fun h_41 => ?_) (fun h_41 => ?_)
    · refine tz_iload (pc := 48) dX2_appliedPart_48 rfl ?_
      exact tz_iret (pc := 50) (z := (J 19 (7 + (-1 - J 7 t)))) dX2_appliedPart_50 rfl (Nat.le_of_ble_eq_true rfl) (Nat.le_of_ble_eq_true rfl) ⟨Nat.le_refl _, Nat.le_add_right _ _⟩ ⟨_, rfl, (by omega), ⟨m, GR.rf C hm, Or.inr (by omega), fun S β hβ hG E => ap_v hG E hm ht (by omega) (by omega) (by have := hβ (-1 - J 7 t) (by omega) (by omega); rw [this]; omega)⟩⟩
    · refine tz_iload_n (pc := 44) dX2_appliedPart_44 rfl rfl ?_
      refine tz_goto (pc := 45) (tgt := 50) dX2_appliedPart_45 (by decide) ?_
      exact tz_iret (pc := 50) (z := t) dX2_appliedPart_50 rfl (Nat.le_of_ble_eq_true rfl) (Nat.le_of_ble_eq_true rfl) ⟨Nat.le_refl _, Nat.le_add_right _ _⟩ ⟨_, rfl, (by omega), ⟨m, GR.rf C hm, Or.inr (by omega), fun S β hβ hG E => ap_v hG E hm ht (by omega) (by omega) (by have := hβ (-1 - J 7 t) (by omega) (by omega); rw [this]; omega)⟩⟩
  · rw [show (if J 7 t < 0 then 1 else 0 : Int) = 0 from if_neg hw_18]
    refine tz_if_eqT (pc := 18) (tgt := 51) (by decide) dX2_appliedPart_18 (by decide) (by decide) ?_
    refine tz_aload_n (pc := 51) dX2_appliedPart_51 rfl rfl ?_
    refine tz_fR (pc := 52) dX2_appliedPart_52 fl_X2_28 r_141_0 ?_
    refine tz_fR (pc := 55) dX2_appliedPart_55 fl_X2_45 r_6_2 ?_
    refine tz_iload_n (pc := 58) dX2_appliedPart_58 rfl rfl ?_
    refine tz_aL (pc := 59) (z := t) (v := (J 8 t)) dX2_appliedPart_59 a_8 rfl (by omega) rfl (fun r_59 => ?_)
    refine tz_istore (pc := 60) (L2 := [_, _, _, _, _, _, _, _, _]) dX2_appliedPart_60 (by decide) rfl ?_
    refine tz_iload (pc := 62) dX2_appliedPart_62 rfl ?_
    refine tz_iconst (pc := 64) dX2_appliedPart_64 ?_
    refine tz_icmp_ge (pc := 65) (tgt := 72) dX2_appliedPart_65 (by decide) (by omega) (by decide) (fun h_65 => ?_) (fun h_65 => ?_)
    · refine tz_aload_n (pc := 72) dX2_appliedPart_72 rfl rfl ?_
      refine tz_aload_n (pc := 73) dX2_appliedPart_73 rfl rfl ?_
      refine tz_fR (pc := 74) dX2_appliedPart_74 fl_X2_28 r_141_0 ?_
      refine tz_iload_n (pc := 77) dX2_appliedPart_77 rfl rfl ?_
      refine tz_iconst (pc := 78) dX2_appliedPart_78 ?_
      refine tz_cV (pc := 79) (c_arg hl n _ _ _ (by omega) (by decide) (by omega)) vl_X2_48 dX2_appliedPart_79 o_6 rfl rfl (Nat.le_of_ble_eq_true rfl) ⟨(Nat.le_of_ble_eq_true rfl), (Nat.le_of_ble_eq_true rfl)⟩ rfl rfl (Nat.le_of_ble_eq_true rfl) (Nat.le_of_ble_eq_true rfl) (fun r9 J_79 hq9 => ?_)
      obtain ⟨z_79, rfl, hz_79, rfl, rfl⟩ := hq9
      refine tz_aload_n (pc := 82) dX2_appliedPart_82 rfl rfl ?_
      refine tz_iload_n (pc := 83) dX2_appliedPart_83 rfl rfl ?_
      refine tz_iload (pc := 84) dX2_appliedPart_84 rfl ?_
      refine tz_iconst (pc := 86) dX2_appliedPart_86 ?_
      refine tz_iadd (pc := 87) (v := 5) dX2_appliedPart_87 (by decide) ?_
      have b_88 := GR.arg (GR.rf C hm) C ht (i := 0) (by omega)
      have c_88 := ((GR.rf C hm)).1
      refine tz_cV (pc := 88) (x_app19_5 hl n _ _ (by omega) m ((GR.rf C hm)).2.1 ((GR.rf C hm)).2.2.1 (by omega) (GR.row (GR.rf C hm) rfl hr)) vl_X2_32 dX2_appliedPart_88 o_141 rfl rfl (Nat.le_of_ble_eq_true rfl) ⟨(Nat.le_of_ble_eq_true rfl), (Nat.le_of_ble_eq_true rfl)⟩ rfl rfl (Nat.le_of_ble_eq_true rfl) (Nat.le_of_ble_eq_true rfl) (fun r9 J_88 hq9 => ?_)
      obtain ⟨z_88, rfl, hz_88, m_88, g_88, hz_88, x_88⟩ := hq9
      have q_88 := GR.tr (GR.rf C hm) g_88
      have d_88 := q_88.1
      have e_88 := g_88.1
      have u_88 : J 19 = J 19 := ((GR.rf C hm)).2.2.2.2 19 rfl
      have k8_88 : J 8 t = J 8 t := (((GR.rf C hm)).2.2.2.1.1 t ht.1 ht.2).2.1
      refine tz_istore (pc := 91) (L2 := [_, _, _, _, _, _, _, _, _]) dX2_appliedPart_91 (by decide) rfl ?_
      refine tz_iload (pc := 93) dX2_appliedPart_93 rfl ?_
      refine tz_iconst (pc := 95) dX2_appliedPart_95 ?_
      refine tz_icmp_ge (pc := 96) (tgt := 103) dX2_appliedPart_96 (by decide) (by omega) (by decide) (fun h_96 => ?_) (fun h_96 => ?_)
      · refine tz_aload_n (pc := 103) dX2_appliedPart_103 rfl rfl ?_
        refine tz_aload_n (pc := 104) dX2_appliedPart_104 rfl rfl ?_
        refine tz_fR (pc := 105) dX2_appliedPart_105 fl_X2_28 r_141_0 ?_
        refine tz_iload_n (pc := 108) dX2_appliedPart_108 rfl rfl ?_
        refine tz_iconst (pc := 109) dX2_appliedPart_109 ?_
        refine tz_cV (pc := 110) (c_arg hl n _ _ _ (by omega) (by decide) (by omega)) vl_X2_48 dX2_appliedPart_110 o_6 rfl rfl (Nat.le_of_ble_eq_true rfl) ⟨(Nat.le_of_ble_eq_true rfl), (Nat.le_of_ble_eq_true rfl)⟩ rfl rfl (Nat.le_of_ble_eq_true rfl) (Nat.le_of_ble_eq_true rfl) (fun r9 J_110 hq9 => ?_)
        obtain ⟨z_110, rfl, hz_110, rfl, rfl⟩ := hq9
        refine tz_aload_n (pc := 113) dX2_appliedPart_113 rfl rfl ?_
        refine tz_iload_n (pc := 114) dX2_appliedPart_114 rfl rfl ?_
        refine tz_iload (pc := 115) dX2_appliedPart_115 rfl ?_
        refine tz_iconst (pc := 117) dX2_appliedPart_117 ?_
        refine tz_iadd (pc := 118) (v := 5) dX2_appliedPart_118 (by decide) ?_
        have b_119 := GR.arg q_88 C ht (i := 1) (by omega)
        have c_119 := (q_88).1
        refine tz_cV (pc := 119) (x_app19_5 hl n _ _ (by omega) m_88 (q_88).2.1 (q_88).2.2.1 (by omega) (GR.row q_88 rfl hr)) vl_X2_32 dX2_appliedPart_119 o_141 rfl rfl (Nat.le_of_ble_eq_true rfl) ⟨(Nat.le_of_ble_eq_true rfl), (Nat.le_of_ble_eq_true rfl)⟩ rfl rfl (Nat.le_of_ble_eq_true rfl) (Nat.le_of_ble_eq_true rfl) (fun r9 J_119 hq9 => ?_)
        obtain ⟨z_119, rfl, hz_119, m_119, g_119, hz_119, x_119⟩ := hq9
        have q_119 := GR.tr q_88 g_119
        have d_119 := q_119.1
        have e_119 := g_119.1
        have u_119 : J_88 19 = J 19 := (q_88).2.2.2.2 19 rfl
        have k8_119 : J_88 8 t = J 8 t := ((q_88).2.2.2.1.1 t ht.1 ht.2).2.1
        refine tz_istore (pc := 122) (L2 := [_, _, _, _, _, _, _, _, _]) dX2_appliedPart_122 (by decide) rfl ?_
        refine tz_iload (pc := 124) dX2_appliedPart_124 rfl ?_
        refine tz_iconst (pc := 126) dX2_appliedPart_126 ?_
        refine tz_icmp_ge (pc := 127) (tgt := 134) dX2_appliedPart_127 (by decide) (by omega) (by decide) (fun h_127 => ?_) (fun h_127 => ?_)
        · refine tz_aload_n (pc := 134) dX2_appliedPart_134 rfl rfl ?_
          refine tz_aload_n (pc := 135) dX2_appliedPart_135 rfl rfl ?_
          refine tz_fR (pc := 136) dX2_appliedPart_136 fl_X2_28 r_141_0 ?_
          refine tz_iload_n (pc := 139) dX2_appliedPart_139 rfl rfl ?_
          refine tz_iconst (pc := 140) dX2_appliedPart_140 ?_
          refine tz_cV (pc := 141) (c_arg hl n _ _ _ (by omega) (by decide) (by omega)) vl_X2_48 dX2_appliedPart_141 o_6 rfl rfl (Nat.le_of_ble_eq_true rfl) ⟨(Nat.le_of_ble_eq_true rfl), (Nat.le_of_ble_eq_true rfl)⟩ rfl rfl (Nat.le_of_ble_eq_true rfl) (Nat.le_of_ble_eq_true rfl) (fun r9 J_141 hq9 => ?_)
          obtain ⟨z_141, rfl, hz_141, rfl, rfl⟩ := hq9
          refine tz_aload_n (pc := 144) dX2_appliedPart_144 rfl rfl ?_
          refine tz_iload_n (pc := 145) dX2_appliedPart_145 rfl rfl ?_
          refine tz_iload (pc := 146) dX2_appliedPart_146 rfl ?_
          refine tz_iconst (pc := 148) dX2_appliedPart_148 ?_
          refine tz_iadd (pc := 149) (v := 5) dX2_appliedPart_149 (by decide) ?_
          have b_150 := GR.arg q_119 C ht (i := 2) (by omega)
          have c_150 := (q_119).1
          refine tz_cV (pc := 150) (x_app19_5 hl n _ _ (by omega) m_119 (q_119).2.1 (q_119).2.2.1 (by omega) (GR.row q_119 rfl hr)) vl_X2_32 dX2_appliedPart_150 o_141 rfl rfl (Nat.le_of_ble_eq_true rfl) ⟨(Nat.le_of_ble_eq_true rfl), (Nat.le_of_ble_eq_true rfl)⟩ rfl rfl (Nat.le_of_ble_eq_true rfl) (Nat.le_of_ble_eq_true rfl) (fun r9 J_150 hq9 => ?_)
          obtain ⟨z_150, rfl, hz_150, m_150, g_150, hz_150, x_150⟩ := hq9
          have q_150 := GR.tr q_119 g_150
          have d_150 := q_150.1
          have e_150 := g_150.1
          have u_150 : J_119 19 = J 19 := (q_119).2.2.2.2 19 rfl
          have k8_150 : J_119 8 t = J 8 t := ((q_119).2.2.2.1.1 t ht.1 ht.2).2.1
          refine tz_istore (pc := 153) (L2 := [_, _, _, _, _, _, _, _, _]) dX2_appliedPart_153 (by decide) rfl ?_
          refine tz_aload_n (pc := 155) dX2_appliedPart_155 rfl rfl ?_
          refine tz_fR (pc := 156) dX2_appliedPart_156 fl_X2_28 r_141_0 ?_
          refine tz_aload_n (pc := 159) dX2_appliedPart_159 rfl rfl ?_
          refine tz_fR (pc := 160) dX2_appliedPart_160 fl_X2_28 r_141_0 ?_
          refine tz_fR (pc := 163) dX2_appliedPart_163 fl_X2_42 r_6_1 ?_
          refine tz_iload_n (pc := 166) dX2_appliedPart_166 rfl rfl ?_
          refine tz_aL (pc := 167) (z := t) (v := (J_150 7 t)) dX2_appliedPart_167 a_7 rfl (by omega) rfl (fun r_167 => ?_)
          refine tz_iload (pc := 168) dX2_appliedPart_168 rfl ?_
          refine tz_iload (pc := 170) dX2_appliedPart_170 rfl ?_
          refine tz_iload (pc := 172) dX2_appliedPart_172 rfl ?_
          refine tz_cV (pc := 174) (c_made hl n _ _ _ _ _ (by omega) (by omega) (by omega) (by omega) m_150 (q_150).2.1 (q_150).2.2.1 (by have := (q_150).2.1.ar (t := t) (by omega) (by have := (q_150).1; omega); omega) (ltA_of (by omega) (by omega) (by omega))) vl_X2_52 dX2_appliedPart_174 o_6 rfl rfl (Nat.le_of_ble_eq_true rfl) ⟨(Nat.le_of_ble_eq_true rfl), (Nat.le_of_ble_eq_true rfl)⟩ rfl rfl (Nat.le_of_ble_eq_true rfl) (Nat.le_of_ble_eq_true rfl) (fun r9 J_174 hq9 => ?_)
          obtain ⟨z_174, rfl, hz_174, p_9⟩ := hq9
          obtain ⟨m9, g9, h9⟩ := GR.made p_9 (by omega)
          have q9 := GR.tr q_150 g9
          exact tz_iret (pc := 177) (z := z_174) dX2_appliedPart_177 rfl (Nat.le_of_ble_eq_true rfl) (Nat.le_of_ble_eq_true rfl) ⟨Nat.le_refl _, Nat.le_add_right _ _⟩ ⟨_, rfl, (by omega), ⟨m9, q9, h9, fun S β hβ hG E => ap_c hG E hm ht (by omega) (ap_end (fun S t h => apO_f h) hG E C hm ht (Or.inl ⟨by omega, g_88, hz_88, fun S9 h9 E9 => x_88 S9 β (fun v a c => by rw [u_88]; exact hβ v a c) h9 E9⟩) (Or.inl ⟨by omega, g_119, hz_119, fun S9 h9 E9 => x_119 S9 β (fun v a c => by rw [u_119]; exact hβ v a c) h9 E9⟩) (Or.inl ⟨by omega, g_150, hz_150, fun S9 h9 E9 => x_150 S9 β (fun v a c => by rw [u_150]; exact hβ v a c) h9 E9⟩) (by rw [show J 7 t = J_150 7 t from (((q_150).2.2.2.1.1 t ht.1 ht.2).1).symm]; exact p_9))⟩⟩
        · refine tz_iconst (pc := 130) dX2_appliedPart_130 ?_
          refine tz_goto (pc := 131) (tgt := 153) dX2_appliedPart_131 (by decide) ?_
          refine tz_istore (pc := 153) (L2 := [_, _, _, _, _, _, _, _, _]) dX2_appliedPart_153 (by decide) rfl ?_
          refine tz_aload_n (pc := 155) dX2_appliedPart_155 rfl rfl ?_
          refine tz_fR (pc := 156) dX2_appliedPart_156 fl_X2_28 r_141_0 ?_
          refine tz_aload_n (pc := 159) dX2_appliedPart_159 rfl rfl ?_
          refine tz_fR (pc := 160) dX2_appliedPart_160 fl_X2_28 r_141_0 ?_
          refine tz_fR (pc := 163) dX2_appliedPart_163 fl_X2_42 r_6_1 ?_
          refine tz_iload_n (pc := 166) dX2_appliedPart_166 rfl rfl ?_
          refine tz_aL (pc := 167) (z := t) (v := (J_119 7 t)) dX2_appliedPart_167 a_7 rfl (by omega) rfl (fun r_167 => ?_)
          refine tz_iload (pc := 168) dX2_appliedPart_168 rfl ?_
          refine tz_iload (pc := 170) dX2_appliedPart_170 rfl ?_
          refine tz_iload (pc := 172) dX2_appliedPart_172 rfl ?_
          refine tz_cV (pc := 174) (c_made hl n _ _ _ _ _ (by omega) (by omega) (by omega) (by omega) m_119 (q_119).2.1 (q_119).2.2.1 (by have := (q_119).2.1.ar (t := t) (by omega) (by have := (q_119).1; omega); omega) (ltA_of (by omega) (by omega) (by omega))) vl_X2_52 dX2_appliedPart_174 o_6 rfl rfl (Nat.le_of_ble_eq_true rfl) ⟨(Nat.le_of_ble_eq_true rfl), (Nat.le_of_ble_eq_true rfl)⟩ rfl rfl (Nat.le_of_ble_eq_true rfl) (Nat.le_of_ble_eq_true rfl) (fun r9 J_174 hq9 => ?_)
          obtain ⟨z_174, rfl, hz_174, p_9⟩ := hq9
          obtain ⟨m9, g9, h9⟩ := GR.made p_9 (by omega)
          have q9 := GR.tr q_119 g9
          exact tz_iret (pc := 177) (z := z_174) dX2_appliedPart_177 rfl (Nat.le_of_ble_eq_true rfl) (Nat.le_of_ble_eq_true rfl) ⟨Nat.le_refl _, Nat.le_add_right _ _⟩ ⟨_, rfl, (by omega), ⟨m9, q9, h9, fun S β hβ hG E => ap_c hG E hm ht (by omega) (ap_end (fun S t h => apO_f h) hG E C hm ht (Or.inl ⟨by omega, g_88, hz_88, fun S9 h9 E9 => x_88 S9 β (fun v a c => by rw [u_88]; exact hβ v a c) h9 E9⟩) (Or.inl ⟨by omega, g_119, hz_119, fun S9 h9 E9 => x_119 S9 β (fun v a c => by rw [u_119]; exact hβ v a c) h9 E9⟩) (Or.inr ⟨by rw [show J_119 8 t = J 8 t from ((q_119).2.2.2.1.1 t ht.1 ht.2).2.1]; omega, rfl, rfl⟩) (by rw [show J 7 t = J_119 7 t from (((q_119).2.2.2.1.1 t ht.1 ht.2).1).symm]; exact p_9))⟩⟩
      · refine tz_iconst (pc := 99) dX2_appliedPart_99 ?_
        refine tz_goto (pc := 100) (tgt := 122) dX2_appliedPart_100 (by decide) ?_
        refine tz_istore (pc := 122) (L2 := [_, _, _, _, _, _, _, _, _]) dX2_appliedPart_122 (by decide) rfl ?_
        refine tz_iload (pc := 124) dX2_appliedPart_124 rfl ?_
        refine tz_iconst (pc := 126) dX2_appliedPart_126 ?_
        refine tz_icmp_ge (pc := 127) (tgt := 134) dX2_appliedPart_127 (by decide) (by omega) (by decide) (fun h_127 => ?_) (fun h_127 => ?_)
        · refine tz_aload_n (pc := 134) dX2_appliedPart_134 rfl rfl ?_
          refine tz_aload_n (pc := 135) dX2_appliedPart_135 rfl rfl ?_
          refine tz_fR (pc := 136) dX2_appliedPart_136 fl_X2_28 r_141_0 ?_
          refine tz_iload_n (pc := 139) dX2_appliedPart_139 rfl rfl ?_
          refine tz_iconst (pc := 140) dX2_appliedPart_140 ?_
          refine tz_cV (pc := 141) (c_arg hl n _ _ _ (by omega) (by decide) (by omega)) vl_X2_48 dX2_appliedPart_141 o_6 rfl rfl (Nat.le_of_ble_eq_true rfl) ⟨(Nat.le_of_ble_eq_true rfl), (Nat.le_of_ble_eq_true rfl)⟩ rfl rfl (Nat.le_of_ble_eq_true rfl) (Nat.le_of_ble_eq_true rfl) (fun r9 J_141 hq9 => ?_)
          obtain ⟨z_141, rfl, hz_141, rfl, rfl⟩ := hq9
          refine tz_aload_n (pc := 144) dX2_appliedPart_144 rfl rfl ?_
          refine tz_iload_n (pc := 145) dX2_appliedPart_145 rfl rfl ?_
          refine tz_iload (pc := 146) dX2_appliedPart_146 rfl ?_
          refine tz_iconst (pc := 148) dX2_appliedPart_148 ?_
          refine tz_iadd (pc := 149) (v := 5) dX2_appliedPart_149 (by decide) ?_
          have b_150 := GR.arg q_88 C ht (i := 2) (by omega)
          have c_150 := (q_88).1
          refine tz_cV (pc := 150) (x_app19_5 hl n _ _ (by omega) m_88 (q_88).2.1 (q_88).2.2.1 (by omega) (GR.row q_88 rfl hr)) vl_X2_32 dX2_appliedPart_150 o_141 rfl rfl (Nat.le_of_ble_eq_true rfl) ⟨(Nat.le_of_ble_eq_true rfl), (Nat.le_of_ble_eq_true rfl)⟩ rfl rfl (Nat.le_of_ble_eq_true rfl) (Nat.le_of_ble_eq_true rfl) (fun r9 J_150 hq9 => ?_)
          obtain ⟨z_150, rfl, hz_150, m_150, g_150, hz_150, x_150⟩ := hq9
          have q_150 := GR.tr q_88 g_150
          have d_150 := q_150.1
          have e_150 := g_150.1
          have u_150 : J_88 19 = J 19 := (q_88).2.2.2.2 19 rfl
          have k8_150 : J_88 8 t = J 8 t := ((q_88).2.2.2.1.1 t ht.1 ht.2).2.1
          refine tz_istore (pc := 153) (L2 := [_, _, _, _, _, _, _, _, _]) dX2_appliedPart_153 (by decide) rfl ?_
          refine tz_aload_n (pc := 155) dX2_appliedPart_155 rfl rfl ?_
          refine tz_fR (pc := 156) dX2_appliedPart_156 fl_X2_28 r_141_0 ?_
          refine tz_aload_n (pc := 159) dX2_appliedPart_159 rfl rfl ?_
          refine tz_fR (pc := 160) dX2_appliedPart_160 fl_X2_28 r_141_0 ?_
          refine tz_fR (pc := 163) dX2_appliedPart_163 fl_X2_42 r_6_1 ?_
          refine tz_iload_n (pc := 166) dX2_appliedPart_166 rfl rfl ?_
          refine tz_aL (pc := 167) (z := t) (v := (J_150 7 t)) dX2_appliedPart_167 a_7 rfl (by omega) rfl (fun r_167 => ?_)
          refine tz_iload (pc := 168) dX2_appliedPart_168 rfl ?_
          refine tz_iload (pc := 170) dX2_appliedPart_170 rfl ?_
          refine tz_iload (pc := 172) dX2_appliedPart_172 rfl ?_
          refine tz_cV (pc := 174) (c_made hl n _ _ _ _ _ (by omega) (by omega) (by omega) (by omega) m_150 (q_150).2.1 (q_150).2.2.1 (by have := (q_150).2.1.ar (t := t) (by omega) (by have := (q_150).1; omega); omega) (ltA_of (by omega) (by omega) (by omega))) vl_X2_52 dX2_appliedPart_174 o_6 rfl rfl (Nat.le_of_ble_eq_true rfl) ⟨(Nat.le_of_ble_eq_true rfl), (Nat.le_of_ble_eq_true rfl)⟩ rfl rfl (Nat.le_of_ble_eq_true rfl) (Nat.le_of_ble_eq_true rfl) (fun r9 J_174 hq9 => ?_)
          obtain ⟨z_174, rfl, hz_174, p_9⟩ := hq9
          obtain ⟨m9, g9, h9⟩ := GR.made p_9 (by omega)
          have q9 := GR.tr q_150 g9
          exact tz_iret (pc := 177) (z := z_174) dX2_appliedPart_177 rfl (Nat.le_of_ble_eq_true rfl) (Nat.le_of_ble_eq_true rfl) ⟨Nat.le_refl _, Nat.le_add_right _ _⟩ ⟨_, rfl, (by omega), ⟨m9, q9, h9, fun S β hβ hG E => ap_c hG E hm ht (by omega) (ap_end (fun S t h => apO_f h) hG E C hm ht (Or.inl ⟨by omega, g_88, hz_88, fun S9 h9 E9 => x_88 S9 β (fun v a c => by rw [u_88]; exact hβ v a c) h9 E9⟩) (Or.inr ⟨by rw [show J_88 8 t = J 8 t from ((q_88).2.2.2.1.1 t ht.1 ht.2).2.1]; omega, rfl, rfl⟩) (Or.inl ⟨by omega, g_150, hz_150, fun S9 h9 E9 => x_150 S9 β (fun v a c => by rw [u_150]; exact hβ v a c) h9 E9⟩) (by rw [show J 7 t = J_150 7 t from (((q_150).2.2.2.1.1 t ht.1 ht.2).1).symm]; exact p_9))⟩⟩
        · refine tz_iconst (pc := 130) dX2_appliedPart_130 ?_
          refine tz_goto (pc := 131) (tgt := 153) dX2_appliedPart_131 (by decide) ?_
          refine tz_istore (pc := 153) (L2 := [_, _, _, _, _, _, _, _, _]) dX2_appliedPart_153 (by decide) rfl ?_
          refine tz_aload_n (pc := 155) dX2_appliedPart_155 rfl rfl ?_
          refine tz_fR (pc := 156) dX2_appliedPart_156 fl_X2_28 r_141_0 ?_
          refine tz_aload_n (pc := 159) dX2_appliedPart_159 rfl rfl ?_
          refine tz_fR (pc := 160) dX2_appliedPart_160 fl_X2_28 r_141_0 ?_
          refine tz_fR (pc := 163) dX2_appliedPart_163 fl_X2_42 r_6_1 ?_
          refine tz_iload_n (pc := 166) dX2_appliedPart_166 rfl rfl ?_
          refine tz_aL (pc := 167) (z := t) (v := (J_88 7 t)) dX2_appliedPart_167 a_7 rfl (by omega) rfl (fun r_167 => ?_)
          refine tz_iload (pc := 168) dX2_appliedPart_168 rfl ?_
          refine tz_iload (pc := 170) dX2_appliedPart_170 rfl ?_
          refine tz_iload (pc := 172) dX2_appliedPart_172 rfl ?_
          refine tz_cV (pc := 174) (c_made hl n _ _ _ _ _ (by omega) (by omega) (by omega) (by omega) m_88 (q_88).2.1 (q_88).2.2.1 (by have := (q_88).2.1.ar (t := t) (by omega) (by have := (q_88).1; omega); omega) (ltA_of (by omega) (by omega) (by omega))) vl_X2_52 dX2_appliedPart_174 o_6 rfl rfl (Nat.le_of_ble_eq_true rfl) ⟨(Nat.le_of_ble_eq_true rfl), (Nat.le_of_ble_eq_true rfl)⟩ rfl rfl (Nat.le_of_ble_eq_true rfl) (Nat.le_of_ble_eq_true rfl) (fun r9 J_174 hq9 => ?_)
          obtain ⟨z_174, rfl, hz_174, p_9⟩ := hq9
          obtain ⟨m9, g9, h9⟩ := GR.made p_9 (by omega)
          have q9 := GR.tr q_88 g9
          exact tz_iret (pc := 177) (z := z_174) dX2_appliedPart_177 rfl (Nat.le_of_ble_eq_true rfl) (Nat.le_of_ble_eq_true rfl) ⟨Nat.le_refl _, Nat.le_add_right _ _⟩ ⟨_, rfl, (by omega), ⟨m9, q9, h9, fun S β hβ hG E => ap_c hG E hm ht (by omega) (ap_end (fun S t h => apO_f h) hG E C hm ht (Or.inl ⟨by omega, g_88, hz_88, fun S9 h9 E9 => x_88 S9 β (fun v a c => by rw [u_88]; exact hβ v a c) h9 E9⟩) (Or.inr ⟨by rw [show J_88 8 t = J 8 t from ((q_88).2.2.2.1.1 t ht.1 ht.2).2.1]; omega, rfl, rfl⟩) (Or.inr ⟨by rw [show J_88 8 t = J 8 t from ((q_88).2.2.2.1.1 t ht.1 ht.2).2.1]; omega, rfl, rfl⟩) (by rw [show J 7 t = J_88 7 t from (((q_88).2.2.2.1.1 t ht.1 ht.2).1).symm]; exact p_9))⟩⟩
    · refine tz_iconst (pc := 68) dX2_appliedPart_68 ?_
      refine tz_goto (pc := 69) (tgt := 91) dX2_appliedPart_69 (by decide) ?_
      refine tz_istore (pc := 91) (L2 := [_, _, _, _, _, _, _, _, _]) dX2_appliedPart_91 (by decide) rfl ?_
      refine tz_iload (pc := 93) dX2_appliedPart_93 rfl ?_
      refine tz_iconst (pc := 95) dX2_appliedPart_95 ?_
      refine tz_icmp_ge (pc := 96) (tgt := 103) dX2_appliedPart_96 (by decide) (by omega) (by decide) (fun h_96 => ?_) (fun h_96 => ?_)
      · refine tz_aload_n (pc := 103) dX2_appliedPart_103 rfl rfl ?_
        refine tz_aload_n (pc := 104) dX2_appliedPart_104 rfl rfl ?_
        refine tz_fR (pc := 105) dX2_appliedPart_105 fl_X2_28 r_141_0 ?_
        refine tz_iload_n (pc := 108) dX2_appliedPart_108 rfl rfl ?_
        refine tz_iconst (pc := 109) dX2_appliedPart_109 ?_
        refine tz_cV (pc := 110) (c_arg hl n _ _ _ (by omega) (by decide) (by omega)) vl_X2_48 dX2_appliedPart_110 o_6 rfl rfl (Nat.le_of_ble_eq_true rfl) ⟨(Nat.le_of_ble_eq_true rfl), (Nat.le_of_ble_eq_true rfl)⟩ rfl rfl (Nat.le_of_ble_eq_true rfl) (Nat.le_of_ble_eq_true rfl) (fun r9 J_110 hq9 => ?_)
        obtain ⟨z_110, rfl, hz_110, rfl, rfl⟩ := hq9
        refine tz_aload_n (pc := 113) dX2_appliedPart_113 rfl rfl ?_
        refine tz_iload_n (pc := 114) dX2_appliedPart_114 rfl rfl ?_
        refine tz_iload (pc := 115) dX2_appliedPart_115 rfl ?_
        refine tz_iconst (pc := 117) dX2_appliedPart_117 ?_
        refine tz_iadd (pc := 118) (v := 5) dX2_appliedPart_118 (by decide) ?_
        have b_119 := GR.arg (GR.rf C hm) C ht (i := 1) (by omega)
        have c_119 := ((GR.rf C hm)).1
        refine tz_cV (pc := 119) (x_app19_5 hl n _ _ (by omega) m ((GR.rf C hm)).2.1 ((GR.rf C hm)).2.2.1 (by omega) (GR.row (GR.rf C hm) rfl hr)) vl_X2_32 dX2_appliedPart_119 o_141 rfl rfl (Nat.le_of_ble_eq_true rfl) ⟨(Nat.le_of_ble_eq_true rfl), (Nat.le_of_ble_eq_true rfl)⟩ rfl rfl (Nat.le_of_ble_eq_true rfl) (Nat.le_of_ble_eq_true rfl) (fun r9 J_119 hq9 => ?_)
        obtain ⟨z_119, rfl, hz_119, m_119, g_119, hz_119, x_119⟩ := hq9
        have q_119 := GR.tr (GR.rf C hm) g_119
        have d_119 := q_119.1
        have e_119 := g_119.1
        have u_119 : J 19 = J 19 := ((GR.rf C hm)).2.2.2.2 19 rfl
        have k8_119 : J 8 t = J 8 t := (((GR.rf C hm)).2.2.2.1.1 t ht.1 ht.2).2.1
        refine tz_istore (pc := 122) (L2 := [_, _, _, _, _, _, _, _, _]) dX2_appliedPart_122 (by decide) rfl ?_
        refine tz_iload (pc := 124) dX2_appliedPart_124 rfl ?_
        refine tz_iconst (pc := 126) dX2_appliedPart_126 ?_
        refine tz_icmp_ge (pc := 127) (tgt := 134) dX2_appliedPart_127 (by decide) (by omega) (by decide) (fun h_127 => ?_) (fun h_127 => ?_)
        · refine tz_aload_n (pc := 134) dX2_appliedPart_134 rfl rfl ?_
          refine tz_aload_n (pc := 135) dX2_appliedPart_135 rfl rfl ?_
          refine tz_fR (pc := 136) dX2_appliedPart_136 fl_X2_28 r_141_0 ?_
          refine tz_iload_n (pc := 139) dX2_appliedPart_139 rfl rfl ?_
          refine tz_iconst (pc := 140) dX2_appliedPart_140 ?_
          refine tz_cV (pc := 141) (c_arg hl n _ _ _ (by omega) (by decide) (by omega)) vl_X2_48 dX2_appliedPart_141 o_6 rfl rfl (Nat.le_of_ble_eq_true rfl) ⟨(Nat.le_of_ble_eq_true rfl), (Nat.le_of_ble_eq_true rfl)⟩ rfl rfl (Nat.le_of_ble_eq_true rfl) (Nat.le_of_ble_eq_true rfl) (fun r9 J_141 hq9 => ?_)
          obtain ⟨z_141, rfl, hz_141, rfl, rfl⟩ := hq9
          refine tz_aload_n (pc := 144) dX2_appliedPart_144 rfl rfl ?_
          refine tz_iload_n (pc := 145) dX2_appliedPart_145 rfl rfl ?_
          refine tz_iload (pc := 146) dX2_appliedPart_146 rfl ?_
          refine tz_iconst (pc := 148) dX2_appliedPart_148 ?_
          refine tz_iadd (pc := 149) (v := 5) dX2_appliedPart_149 (by decide) ?_
          have b_150 := GR.arg q_119 C ht (i := 2) (by omega)
          have c_150 := (q_119).1
          refine tz_cV (pc := 150) (x_app19_5 hl n _ _ (by omega) m_119 (q_119).2.1 (q_119).2.2.1 (by omega) (GR.row q_119 rfl hr)) vl_X2_32 dX2_appliedPart_150 o_141 rfl rfl (Nat.le_of_ble_eq_true rfl) ⟨(Nat.le_of_ble_eq_true rfl), (Nat.le_of_ble_eq_true rfl)⟩ rfl rfl (Nat.le_of_ble_eq_true rfl) (Nat.le_of_ble_eq_true rfl) (fun r9 J_150 hq9 => ?_)
          obtain ⟨z_150, rfl, hz_150, m_150, g_150, hz_150, x_150⟩ := hq9
          have q_150 := GR.tr q_119 g_150
          have d_150 := q_150.1
          have e_150 := g_150.1
          have u_150 : J_119 19 = J 19 := (q_119).2.2.2.2 19 rfl
          have k8_150 : J_119 8 t = J 8 t := ((q_119).2.2.2.1.1 t ht.1 ht.2).2.1
          refine tz_istore (pc := 153) (L2 := [_, _, _, _, _, _, _, _, _]) dX2_appliedPart_153 (by decide) rfl ?_
          refine tz_aload_n (pc := 155) dX2_appliedPart_155 rfl rfl ?_
          refine tz_fR (pc := 156) dX2_appliedPart_156 fl_X2_28 r_141_0 ?_
          refine tz_aload_n (pc := 159) dX2_appliedPart_159 rfl rfl ?_
          refine tz_fR (pc := 160) dX2_appliedPart_160 fl_X2_28 r_141_0 ?_
          refine tz_fR (pc := 163) dX2_appliedPart_163 fl_X2_42 r_6_1 ?_
          refine tz_iload_n (pc := 166) dX2_appliedPart_166 rfl rfl ?_
          refine tz_aL (pc := 167) (z := t) (v := (J_150 7 t)) dX2_appliedPart_167 a_7 rfl (by omega) rfl (fun r_167 => ?_)
          refine tz_iload (pc := 168) dX2_appliedPart_168 rfl ?_
          refine tz_iload (pc := 170) dX2_appliedPart_170 rfl ?_
          refine tz_iload (pc := 172) dX2_appliedPart_172 rfl ?_
          refine tz_cV (pc := 174) (c_made hl n _ _ _ _ _ (by omega) (by omega) (by omega) (by omega) m_150 (q_150).2.1 (q_150).2.2.1 (by have := (q_150).2.1.ar (t := t) (by omega) (by have := (q_150).1; omega); omega) (ltA_of (by omega) (by omega) (by omega))) vl_X2_52 dX2_appliedPart_174 o_6 rfl rfl (Nat.le_of_ble_eq_true rfl) ⟨(Nat.le_of_ble_eq_true rfl), (Nat.le_of_ble_eq_true rfl)⟩ rfl rfl (Nat.le_of_ble_eq_true rfl) (Nat.le_of_ble_eq_true rfl) (fun r9 J_174 hq9 => ?_)
          obtain ⟨z_174, rfl, hz_174, p_9⟩ := hq9
          obtain ⟨m9, g9, h9⟩ := GR.made p_9 (by omega)
          have q9 := GR.tr q_150 g9
          exact tz_iret (pc := 177) (z := z_174) dX2_appliedPart_177 rfl (Nat.le_of_ble_eq_true rfl) (Nat.le_of_ble_eq_true rfl) ⟨Nat.le_refl _, Nat.le_add_right _ _⟩ ⟨_, rfl, (by omega), ⟨m9, q9, h9, fun S β hβ hG E => ap_c hG E hm ht (by omega) (ap_end (fun S t h => apO_f h) hG E C hm ht (Or.inr ⟨by rw [show J 8 t = J 8 t from rfl]; omega, rfl, rfl⟩) (Or.inl ⟨by omega, g_119, hz_119, fun S9 h9 E9 => x_119 S9 β (fun v a c => by rw [u_119]; exact hβ v a c) h9 E9⟩) (Or.inl ⟨by omega, g_150, hz_150, fun S9 h9 E9 => x_150 S9 β (fun v a c => by rw [u_150]; exact hβ v a c) h9 E9⟩) (by rw [show J 7 t = J_150 7 t from (((q_150).2.2.2.1.1 t ht.1 ht.2).1).symm]; exact p_9))⟩⟩
        · refine tz_iconst (pc := 130) dX2_appliedPart_130 ?_
          refine tz_goto (pc := 131) (tgt := 153) dX2_appliedPart_131 (by decide) ?_
          refine tz_istore (pc := 153) (L2 := [_, _, _, _, _, _, _, _, _]) dX2_appliedPart_153 (by decide) rfl ?_
          refine tz_aload_n (pc := 155) dX2_appliedPart_155 rfl rfl ?_
          refine tz_fR (pc := 156) dX2_appliedPart_156 fl_X2_28 r_141_0 ?_
          refine tz_aload_n (pc := 159) dX2_appliedPart_159 rfl rfl ?_
          refine tz_fR (pc := 160) dX2_appliedPart_160 fl_X2_28 r_141_0 ?_
          refine tz_fR (pc := 163) dX2_appliedPart_163 fl_X2_42 r_6_1 ?_
          refine tz_iload_n (pc := 166) dX2_appliedPart_166 rfl rfl ?_
          refine tz_aL (pc := 167) (z := t) (v := (J_119 7 t)) dX2_appliedPart_167 a_7 rfl (by omega) rfl (fun r_167 => ?_)
          refine tz_iload (pc := 168) dX2_appliedPart_168 rfl ?_
          refine tz_iload (pc := 170) dX2_appliedPart_170 rfl ?_
          refine tz_iload (pc := 172) dX2_appliedPart_172 rfl ?_
          refine tz_cV (pc := 174) (c_made hl n _ _ _ _ _ (by omega) (by omega) (by omega) (by omega) m_119 (q_119).2.1 (q_119).2.2.1 (by have := (q_119).2.1.ar (t := t) (by omega) (by have := (q_119).1; omega); omega) (ltA_of (by omega) (by omega) (by omega))) vl_X2_52 dX2_appliedPart_174 o_6 rfl rfl (Nat.le_of_ble_eq_true rfl) ⟨(Nat.le_of_ble_eq_true rfl), (Nat.le_of_ble_eq_true rfl)⟩ rfl rfl (Nat.le_of_ble_eq_true rfl) (Nat.le_of_ble_eq_true rfl) (fun r9 J_174 hq9 => ?_)
          obtain ⟨z_174, rfl, hz_174, p_9⟩ := hq9
          obtain ⟨m9, g9, h9⟩ := GR.made p_9 (by omega)
          have q9 := GR.tr q_119 g9
          exact tz_iret (pc := 177) (z := z_174) dX2_appliedPart_177 rfl (Nat.le_of_ble_eq_true rfl) (Nat.le_of_ble_eq_true rfl) ⟨Nat.le_refl _, Nat.le_add_right _ _⟩ ⟨_, rfl, (by omega), ⟨m9, q9, h9, fun S β hβ hG E => ap_c hG E hm ht (by omega) (ap_end (fun S t h => apO_f h) hG E C hm ht (Or.inr ⟨by rw [show J 8 t = J 8 t from rfl]; omega, rfl, rfl⟩) (Or.inl ⟨by omega, g_119, hz_119, fun S9 h9 E9 => x_119 S9 β (fun v a c => by rw [u_119]; exact hβ v a c) h9 E9⟩) (Or.inr ⟨by rw [show J_119 8 t = J 8 t from ((q_119).2.2.2.1.1 t ht.1 ht.2).2.1]; omega, rfl, rfl⟩) (by rw [show J 7 t = J_119 7 t from (((q_119).2.2.2.1.1 t ht.1 ht.2).1).symm]; exact p_9))⟩⟩
      · refine tz_iconst (pc := 99) dX2_appliedPart_99 ?_
        refine tz_goto (pc := 100) (tgt := 122) dX2_appliedPart_100 (by decide) ?_
        refine tz_istore (pc := 122) (L2 := [_, _, _, _, _, _, _, _, _]) dX2_appliedPart_122 (by decide) rfl ?_
        refine tz_iload (pc := 124) dX2_appliedPart_124 rfl ?_
        refine tz_iconst (pc := 126) dX2_appliedPart_126 ?_
        refine tz_icmp_ge (pc := 127) (tgt := 134) dX2_appliedPart_127 (by decide) (by omega) (by decide) (fun h_127 => ?_) (fun h_127 => ?_)
        · refine tz_aload_n (pc := 134) dX2_appliedPart_134 rfl rfl ?_
          refine tz_aload_n (pc := 135) dX2_appliedPart_135 rfl rfl ?_
          refine tz_fR (pc := 136) dX2_appliedPart_136 fl_X2_28 r_141_0 ?_
          refine tz_iload_n (pc := 139) dX2_appliedPart_139 rfl rfl ?_
          refine tz_iconst (pc := 140) dX2_appliedPart_140 ?_
          refine tz_cV (pc := 141) (c_arg hl n _ _ _ (by omega) (by decide) (by omega)) vl_X2_48 dX2_appliedPart_141 o_6 rfl rfl (Nat.le_of_ble_eq_true rfl) ⟨(Nat.le_of_ble_eq_true rfl), (Nat.le_of_ble_eq_true rfl)⟩ rfl rfl (Nat.le_of_ble_eq_true rfl) (Nat.le_of_ble_eq_true rfl) (fun r9 J_141 hq9 => ?_)
          obtain ⟨z_141, rfl, hz_141, rfl, rfl⟩ := hq9
          refine tz_aload_n (pc := 144) dX2_appliedPart_144 rfl rfl ?_
          refine tz_iload_n (pc := 145) dX2_appliedPart_145 rfl rfl ?_
          refine tz_iload (pc := 146) dX2_appliedPart_146 rfl ?_
          refine tz_iconst (pc := 148) dX2_appliedPart_148 ?_
          refine tz_iadd (pc := 149) (v := 5) dX2_appliedPart_149 (by decide) ?_
          have b_150 := GR.arg (GR.rf C hm) C ht (i := 2) (by omega)
          have c_150 := ((GR.rf C hm)).1
          refine tz_cV (pc := 150) (x_app19_5 hl n _ _ (by omega) m ((GR.rf C hm)).2.1 ((GR.rf C hm)).2.2.1 (by omega) (GR.row (GR.rf C hm) rfl hr)) vl_X2_32 dX2_appliedPart_150 o_141 rfl rfl (Nat.le_of_ble_eq_true rfl) ⟨(Nat.le_of_ble_eq_true rfl), (Nat.le_of_ble_eq_true rfl)⟩ rfl rfl (Nat.le_of_ble_eq_true rfl) (Nat.le_of_ble_eq_true rfl) (fun r9 J_150 hq9 => ?_)
          obtain ⟨z_150, rfl, hz_150, m_150, g_150, hz_150, x_150⟩ := hq9
          have q_150 := GR.tr (GR.rf C hm) g_150
          have d_150 := q_150.1
          have e_150 := g_150.1
          have u_150 : J 19 = J 19 := ((GR.rf C hm)).2.2.2.2 19 rfl
          have k8_150 : J 8 t = J 8 t := (((GR.rf C hm)).2.2.2.1.1 t ht.1 ht.2).2.1
          refine tz_istore (pc := 153) (L2 := [_, _, _, _, _, _, _, _, _]) dX2_appliedPart_153 (by decide) rfl ?_
          refine tz_aload_n (pc := 155) dX2_appliedPart_155 rfl rfl ?_
          refine tz_fR (pc := 156) dX2_appliedPart_156 fl_X2_28 r_141_0 ?_
          refine tz_aload_n (pc := 159) dX2_appliedPart_159 rfl rfl ?_
          refine tz_fR (pc := 160) dX2_appliedPart_160 fl_X2_28 r_141_0 ?_
          refine tz_fR (pc := 163) dX2_appliedPart_163 fl_X2_42 r_6_1 ?_
          refine tz_iload_n (pc := 166) dX2_appliedPart_166 rfl rfl ?_
          refine tz_aL (pc := 167) (z := t) (v := (J_150 7 t)) dX2_appliedPart_167 a_7 rfl (by omega) rfl (fun r_167 => ?_)
          refine tz_iload (pc := 168) dX2_appliedPart_168 rfl ?_
          refine tz_iload (pc := 170) dX2_appliedPart_170 rfl ?_
          refine tz_iload (pc := 172) dX2_appliedPart_172 rfl ?_
          refine tz_cV (pc := 174) (c_made hl n _ _ _ _ _ (by omega) (by omega) (by omega) (by omega) m_150 (q_150).2.1 (q_150).2.2.1 (by have := (q_150).2.1.ar (t := t) (by omega) (by have := (q_150).1; omega); omega) (ltA_of (by omega) (by omega) (by omega))) vl_X2_52 dX2_appliedPart_174 o_6 rfl rfl (Nat.le_of_ble_eq_true rfl) ⟨(Nat.le_of_ble_eq_true rfl), (Nat.le_of_ble_eq_true rfl)⟩ rfl rfl (Nat.le_of_ble_eq_true rfl) (Nat.le_of_ble_eq_true rfl) (fun r9 J_174 hq9 => ?_)
          obtain ⟨z_174, rfl, hz_174, p_9⟩ := hq9
          obtain ⟨m9, g9, h9⟩ := GR.made p_9 (by omega)
          have q9 := GR.tr q_150 g9
          exact tz_iret (pc := 177) (z := z_174) dX2_appliedPart_177 rfl (Nat.le_of_ble_eq_true rfl) (Nat.le_of_ble_eq_true rfl) ⟨Nat.le_refl _, Nat.le_add_right _ _⟩ ⟨_, rfl, (by omega), ⟨m9, q9, h9, fun S β hβ hG E => ap_c hG E hm ht (by omega) (ap_end (fun S t h => apO_f h) hG E C hm ht (Or.inr ⟨by rw [show J 8 t = J 8 t from rfl]; omega, rfl, rfl⟩) (Or.inr ⟨by rw [show J 8 t = J 8 t from rfl]; omega, rfl, rfl⟩) (Or.inl ⟨by omega, g_150, hz_150, fun S9 h9 E9 => x_150 S9 β (fun v a c => by rw [u_150]; exact hβ v a c) h9 E9⟩) (by rw [show J 7 t = J_150 7 t from (((q_150).2.2.2.1.1 t ht.1 ht.2).1).symm]; exact p_9))⟩⟩
        · refine tz_iconst (pc := 130) dX2_appliedPart_130 ?_
          refine tz_goto (pc := 131) (tgt := 153) dX2_appliedPart_131 (by decide) ?_
          refine tz_istore (pc := 153) (L2 := [_, _, _, _, _, _, _, _, _]) dX2_appliedPart_153 (by decide) rfl ?_
          refine tz_aload_n (pc := 155) dX2_appliedPart_155 rfl rfl ?_
          refine tz_fR (pc := 156) dX2_appliedPart_156 fl_X2_28 r_141_0 ?_
          refine tz_aload_n (pc := 159) dX2_appliedPart_159 rfl rfl ?_
          refine tz_fR (pc := 160) dX2_appliedPart_160 fl_X2_28 r_141_0 ?_
          refine tz_fR (pc := 163) dX2_appliedPart_163 fl_X2_42 r_6_1 ?_
          refine tz_iload_n (pc := 166) dX2_appliedPart_166 rfl rfl ?_
          refine tz_aL (pc := 167) (z := t) (v := (J 7 t)) dX2_appliedPart_167 a_7 rfl (by omega) rfl (fun r_167 => ?_)
          refine tz_iload (pc := 168) dX2_appliedPart_168 rfl ?_
          refine tz_iload (pc := 170) dX2_appliedPart_170 rfl ?_
          refine tz_iload (pc := 172) dX2_appliedPart_172 rfl ?_
          refine tz_cV (pc := 174) (c_made hl n _ _ _ _ _ (by omega) (by omega) (by omega) (by omega) m ((GR.rf C hm)).2.1 ((GR.rf C hm)).2.2.1 (by have := ((GR.rf C hm)).2.1.ar (t := t) (by omega) (by have := ((GR.rf C hm)).1; omega); omega) (ltA_of (by omega) (by omega) (by omega))) vl_X2_52 dX2_appliedPart_174 o_6 rfl rfl (Nat.le_of_ble_eq_true rfl) ⟨(Nat.le_of_ble_eq_true rfl), (Nat.le_of_ble_eq_true rfl)⟩ rfl rfl (Nat.le_of_ble_eq_true rfl) (Nat.le_of_ble_eq_true rfl) (fun r9 J_174 hq9 => ?_)
          obtain ⟨z_174, rfl, hz_174, p_9⟩ := hq9
          obtain ⟨m9, g9, h9⟩ := GR.made p_9 (by omega)
          have q9 := GR.tr (GR.rf C hm) g9
          exact tz_iret (pc := 177) (z := z_174) dX2_appliedPart_177 rfl (Nat.le_of_ble_eq_true rfl) (Nat.le_of_ble_eq_true rfl) ⟨Nat.le_refl _, Nat.le_add_right _ _⟩ ⟨_, rfl, (by omega), ⟨m9, q9, h9, fun S β hβ hG E => ap_c hG E hm ht (by omega) (ap_end (fun S t h => apO_f h) hG E C hm ht (Or.inr ⟨by rw [show J 8 t = J 8 t from rfl]; omega, rfl, rfl⟩) (Or.inr ⟨by rw [show J 8 t = J 8 t from rfl]; omega, rfl, rfl⟩) (Or.inr ⟨by rw [show J 8 t = J 8 t from rfl]; omega, rfl, rfl⟩) (by rw [show J 7 t = J 7 t from rfl]; exact p_9))⟩⟩

set_option maxHeartbeats 4000000 in
set_option maxRecDepth 100000 in
theorem x_app19_3 {l : Launch} {G : tb_G} (hl : l.stackTraces = false) (n : Nat) (J : zJ) (t : Int) (hr_t : -2147483648 ≤ t ∧ t < 2147483648) (m : Int) (C : CT J m) (hm : J 6 12 = m) (ht : 0 ≤ t ∧ t < m) (hr : rOK J 19 7 m) : tz_Ok l G M_X2_appliedPart 6 0 0 [.ref 141, zi t, .ref 19, zi 7, zi 3] n J (zqi (fun z J' => ∃ m', GR J' J m m' ∧ (z = -3 ∨ (0 ≤ z ∧ z < m')) ∧ ∀ (S : zJ) (β : Int → Int), (∀ v, 0 ≤ v → v < 8 → β v = J 19 (7 + v)) → S 164 21 = 0 → A0 J S → EXO (apO β 4 S t) z J')) zN := by
  refine tz_Ok.of hl (by decide +kernel) rfl (tb_c1 rfl) (Nat.le_of_ble_eq_true rfl) ?_
  show tz_At l G M_X2_appliedPart (tb_rm 6 0 0) none (tb_ZM G 0 0 (zQ n 0 (zqi (fun z J' => ∃ m', GR J' J m m' ∧ (z = -3 ∨ (0 ≤ z ∧ z < m')) ∧ ∀ (S : zJ) (β : Int → Int), (∀ v, 0 ≤ v → v < 8 → β v = J 19 (7 + v)) → S 164 21 = 0 → A0 J S → EXO (apO β 4 S t) z J'))) (zX n 0 zN)) 0 0 n J 0 [some (.ref 141), some (zi t), some (.ref 19), some (zi 7), some (zi 3), none, none, none, none] []
  have hb := C.told
  have ha := C.ar ht.1 ht.2
  refine tz_iload (pc := 0) dX2_appliedPart_0 rfl ?_
  refine tz_bipush (pc := 2) dX2_appliedPart_2 (by decide) ?_
  refine tz_icmp_leT (pc := 4) (tgt := 10) (by decide) dX2_appliedPart_4 (by decide) (by decide) (by decide) ?_
  refine tz_aload_n (pc := 10) dX2_appliedPart_10 rfl rfl ?_
  refine tz_fR (pc := 11) dX2_appliedPart_11 fl_X2_28 r_141_0 ?_
  refine tz_iload_n (pc := 14) dX2_appliedPart_14 rfl rfl ?_
  refine tz_cV (pc := 15) (c_isVar hl n _ _ (by omega) (by omega)) vl_X2_36 dX2_appliedPart_15 o_6 rfl rfl (Nat.le_of_ble_eq_true rfl) ⟨(Nat.le_of_ble_eq_true rfl), (Nat.le_of_ble_eq_true rfl)⟩ rfl rfl (Nat.le_of_ble_eq_true rfl) (Nat.le_of_ble_eq_true rfl) (fun r9 J_15 hq9 => ?_)
  obtain ⟨z_15, rfl, hz_15, rfl, rfl⟩ := hq9
  by_cases hw_18 : J 7 t < 0
  · rw [show (if J 7 t < 0 then 1 else 0 : Int) = 1 from if_pos hw_18]
    refine tz_if_eqF (pc := 18) (tgt := 51) (by decide) dX2_appliedPart_18 (by decide) (by decide) ?_
    refine tz_aload_n (pc := 21) dX2_appliedPart_21 rfl rfl ?_
    refine tz_iload_n (pc := 22) dX2_appliedPart_22 rfl rfl ?_
    refine tz_aload_n (pc := 23) dX2_appliedPart_23 rfl rfl ?_
    refine tz_fR (pc := 24) dX2_appliedPart_24 fl_X2_28 r_141_0 ?_
    refine tz_fR (pc := 27) dX2_appliedPart_27 fl_X2_42 r_6_1 ?_
    refine tz_iload_n (pc := 30) dX2_appliedPart_30 rfl rfl ?_
    refine tz_aL (pc := 31) (z := t) (v := (J 7 t)) dX2_appliedPart_31 a_7 rfl (by omega) rfl (fun r_31 => ?_)
    refine tz_iconst (pc := 32) dX2_appliedPart_32 ?_
    refine tz_ixor (pc := 33) (v := -1 - J 7 t) dX2_appliedPart_33 (z_nn (by omega)) ?_
    refine tz_iadd (pc := 34) (v := 7 + (-1 - J 7 t)) dX2_appliedPart_34 rfl ?_
    have hv := hr (-1 - J 7 t) (by omega) (by omega)
    refine tz_aL (pc := 35) (z := (7 + (-1 - J 7 t))) (v := (J 19 (7 + (-1 - J 7 t)))) dX2_appliedPart_35 a_19 rfl (by omega) rfl (fun r_35 => ?_)
    refine tz_istore (pc := 36) (L2 := [_, _, _, _, _, _, _, _, _]) dX2_appliedPart_36 (by decide) rfl ?_
    refine tz_iload (pc := 38) dX2_appliedPart_38 rfl ?_
    refine tz_iconst (pc := 40) dX2_appliedPart_40 ?_
    refine tz_icmp_ne (pc := 41) (tgt := 48) dX2_appliedPart_41 (by decide) (by omega) (by decide) (fun h_41 => ?_) (fun h_41 => ?_)
    · refine tz_iload (pc := 48) dX2_appliedPart_48 rfl ?_
      exact tz_iret (pc := 50) (z := (J 19 (7 + (-1 - J 7 t)))) dX2_appliedPart_50 rfl (Nat.le_of_ble_eq_true rfl) (Nat.le_of_ble_eq_true rfl) ⟨Nat.le_refl _, Nat.le_add_right _ _⟩ ⟨_, rfl, (by omega), ⟨m, GR.rf C hm, Or.inr (by omega), fun S β hβ hG E => ap_v hG E hm ht (by omega) (by omega) (by have := hβ (-1 - J 7 t) (by omega) (by omega); rw [this]; omega)⟩⟩
    · refine tz_iload_n (pc := 44) dX2_appliedPart_44 rfl rfl ?_
      refine tz_goto (pc := 45) (tgt := 50) dX2_appliedPart_45 (by decide) ?_
      exact tz_iret (pc := 50) (z := t) dX2_appliedPart_50 rfl (Nat.le_of_ble_eq_true rfl) (Nat.le_of_ble_eq_true rfl) ⟨Nat.le_refl _, Nat.le_add_right _ _⟩ ⟨_, rfl, (by omega), ⟨m, GR.rf C hm, Or.inr (by omega), fun S β hβ hG E => ap_v hG E hm ht (by omega) (by omega) (by have := hβ (-1 - J 7 t) (by omega) (by omega); rw [this]; omega)⟩⟩
  · rw [show (if J 7 t < 0 then 1 else 0 : Int) = 0 from if_neg hw_18]
    refine tz_if_eqT (pc := 18) (tgt := 51) (by decide) dX2_appliedPart_18 (by decide) (by decide) ?_
    refine tz_aload_n (pc := 51) dX2_appliedPart_51 rfl rfl ?_
    refine tz_fR (pc := 52) dX2_appliedPart_52 fl_X2_28 r_141_0 ?_
    refine tz_fR (pc := 55) dX2_appliedPart_55 fl_X2_45 r_6_2 ?_
    refine tz_iload_n (pc := 58) dX2_appliedPart_58 rfl rfl ?_
    refine tz_aL (pc := 59) (z := t) (v := (J 8 t)) dX2_appliedPart_59 a_8 rfl (by omega) rfl (fun r_59 => ?_)
    refine tz_istore (pc := 60) (L2 := [_, _, _, _, _, _, _, _, _]) dX2_appliedPart_60 (by decide) rfl ?_
    refine tz_iload (pc := 62) dX2_appliedPart_62 rfl ?_
    refine tz_iconst (pc := 64) dX2_appliedPart_64 ?_
    refine tz_icmp_ge (pc := 65) (tgt := 72) dX2_appliedPart_65 (by decide) (by omega) (by decide) (fun h_65 => ?_) (fun h_65 => ?_)
    · refine tz_aload_n (pc := 72) dX2_appliedPart_72 rfl rfl ?_
      refine tz_aload_n (pc := 73) dX2_appliedPart_73 rfl rfl ?_
      refine tz_fR (pc := 74) dX2_appliedPart_74 fl_X2_28 r_141_0 ?_
      refine tz_iload_n (pc := 77) dX2_appliedPart_77 rfl rfl ?_
      refine tz_iconst (pc := 78) dX2_appliedPart_78 ?_
      refine tz_cV (pc := 79) (c_arg hl n _ _ _ (by omega) (by decide) (by omega)) vl_X2_48 dX2_appliedPart_79 o_6 rfl rfl (Nat.le_of_ble_eq_true rfl) ⟨(Nat.le_of_ble_eq_true rfl), (Nat.le_of_ble_eq_true rfl)⟩ rfl rfl (Nat.le_of_ble_eq_true rfl) (Nat.le_of_ble_eq_true rfl) (fun r9 J_79 hq9 => ?_)
      obtain ⟨z_79, rfl, hz_79, rfl, rfl⟩ := hq9
      refine tz_aload_n (pc := 82) dX2_appliedPart_82 rfl rfl ?_
      refine tz_iload_n (pc := 83) dX2_appliedPart_83 rfl rfl ?_
      refine tz_iload (pc := 84) dX2_appliedPart_84 rfl ?_
      refine tz_iconst (pc := 86) dX2_appliedPart_86 ?_
      refine tz_iadd (pc := 87) (v := 4) dX2_appliedPart_87 (by decide) ?_
      have b_88 := GR.arg (GR.rf C hm) C ht (i := 0) (by omega)
      have c_88 := ((GR.rf C hm)).1
      refine tz_cV (pc := 88) (x_app19_4 hl n _ _ (by omega) m ((GR.rf C hm)).2.1 ((GR.rf C hm)).2.2.1 (by omega) (GR.row (GR.rf C hm) rfl hr)) vl_X2_32 dX2_appliedPart_88 o_141 rfl rfl (Nat.le_of_ble_eq_true rfl) ⟨(Nat.le_of_ble_eq_true rfl), (Nat.le_of_ble_eq_true rfl)⟩ rfl rfl (Nat.le_of_ble_eq_true rfl) (Nat.le_of_ble_eq_true rfl) (fun r9 J_88 hq9 => ?_)
      obtain ⟨z_88, rfl, hz_88, m_88, g_88, hz_88, x_88⟩ := hq9
      have q_88 := GR.tr (GR.rf C hm) g_88
      have d_88 := q_88.1
      have e_88 := g_88.1
      have u_88 : J 19 = J 19 := ((GR.rf C hm)).2.2.2.2 19 rfl
      have k8_88 : J 8 t = J 8 t := (((GR.rf C hm)).2.2.2.1.1 t ht.1 ht.2).2.1
      refine tz_istore (pc := 91) (L2 := [_, _, _, _, _, _, _, _, _]) dX2_appliedPart_91 (by decide) rfl ?_
      refine tz_iload (pc := 93) dX2_appliedPart_93 rfl ?_
      refine tz_iconst (pc := 95) dX2_appliedPart_95 ?_
      refine tz_icmp_ge (pc := 96) (tgt := 103) dX2_appliedPart_96 (by decide) (by omega) (by decide) (fun h_96 => ?_) (fun h_96 => ?_)
      · refine tz_aload_n (pc := 103) dX2_appliedPart_103 rfl rfl ?_
        refine tz_aload_n (pc := 104) dX2_appliedPart_104 rfl rfl ?_
        refine tz_fR (pc := 105) dX2_appliedPart_105 fl_X2_28 r_141_0 ?_
        refine tz_iload_n (pc := 108) dX2_appliedPart_108 rfl rfl ?_
        refine tz_iconst (pc := 109) dX2_appliedPart_109 ?_
        refine tz_cV (pc := 110) (c_arg hl n _ _ _ (by omega) (by decide) (by omega)) vl_X2_48 dX2_appliedPart_110 o_6 rfl rfl (Nat.le_of_ble_eq_true rfl) ⟨(Nat.le_of_ble_eq_true rfl), (Nat.le_of_ble_eq_true rfl)⟩ rfl rfl (Nat.le_of_ble_eq_true rfl) (Nat.le_of_ble_eq_true rfl) (fun r9 J_110 hq9 => ?_)
        obtain ⟨z_110, rfl, hz_110, rfl, rfl⟩ := hq9
        refine tz_aload_n (pc := 113) dX2_appliedPart_113 rfl rfl ?_
        refine tz_iload_n (pc := 114) dX2_appliedPart_114 rfl rfl ?_
        refine tz_iload (pc := 115) dX2_appliedPart_115 rfl ?_
        refine tz_iconst (pc := 117) dX2_appliedPart_117 ?_
        refine tz_iadd (pc := 118) (v := 4) dX2_appliedPart_118 (by decide) ?_
        have b_119 := GR.arg q_88 C ht (i := 1) (by omega)
        have c_119 := (q_88).1
        refine tz_cV (pc := 119) (x_app19_4 hl n _ _ (by omega) m_88 (q_88).2.1 (q_88).2.2.1 (by omega) (GR.row q_88 rfl hr)) vl_X2_32 dX2_appliedPart_119 o_141 rfl rfl (Nat.le_of_ble_eq_true rfl) ⟨(Nat.le_of_ble_eq_true rfl), (Nat.le_of_ble_eq_true rfl)⟩ rfl rfl (Nat.le_of_ble_eq_true rfl) (Nat.le_of_ble_eq_true rfl) (fun r9 J_119 hq9 => ?_)
        obtain ⟨z_119, rfl, hz_119, m_119, g_119, hz_119, x_119⟩ := hq9
        have q_119 := GR.tr q_88 g_119
        have d_119 := q_119.1
        have e_119 := g_119.1
        have u_119 : J_88 19 = J 19 := (q_88).2.2.2.2 19 rfl
        have k8_119 : J_88 8 t = J 8 t := ((q_88).2.2.2.1.1 t ht.1 ht.2).2.1
        refine tz_istore (pc := 122) (L2 := [_, _, _, _, _, _, _, _, _]) dX2_appliedPart_122 (by decide) rfl ?_
        refine tz_iload (pc := 124) dX2_appliedPart_124 rfl ?_
        refine tz_iconst (pc := 126) dX2_appliedPart_126 ?_
        refine tz_icmp_ge (pc := 127) (tgt := 134) dX2_appliedPart_127 (by decide) (by omega) (by decide) (fun h_127 => ?_) (fun h_127 => ?_)
        · refine tz_aload_n (pc := 134) dX2_appliedPart_134 rfl rfl ?_
          refine tz_aload_n (pc := 135) dX2_appliedPart_135 rfl rfl ?_
          refine tz_fR (pc := 136) dX2_appliedPart_136 fl_X2_28 r_141_0 ?_
          refine tz_iload_n (pc := 139) dX2_appliedPart_139 rfl rfl ?_
          refine tz_iconst (pc := 140) dX2_appliedPart_140 ?_
          refine tz_cV (pc := 141) (c_arg hl n _ _ _ (by omega) (by decide) (by omega)) vl_X2_48 dX2_appliedPart_141 o_6 rfl rfl (Nat.le_of_ble_eq_true rfl) ⟨(Nat.le_of_ble_eq_true rfl), (Nat.le_of_ble_eq_true rfl)⟩ rfl rfl (Nat.le_of_ble_eq_true rfl) (Nat.le_of_ble_eq_true rfl) (fun r9 J_141 hq9 => ?_)
          obtain ⟨z_141, rfl, hz_141, rfl, rfl⟩ := hq9
          refine tz_aload_n (pc := 144) dX2_appliedPart_144 rfl rfl ?_
          refine tz_iload_n (pc := 145) dX2_appliedPart_145 rfl rfl ?_
          refine tz_iload (pc := 146) dX2_appliedPart_146 rfl ?_
          refine tz_iconst (pc := 148) dX2_appliedPart_148 ?_
          refine tz_iadd (pc := 149) (v := 4) dX2_appliedPart_149 (by decide) ?_
          have b_150 := GR.arg q_119 C ht (i := 2) (by omega)
          have c_150 := (q_119).1
          refine tz_cV (pc := 150) (x_app19_4 hl n _ _ (by omega) m_119 (q_119).2.1 (q_119).2.2.1 (by omega) (GR.row q_119 rfl hr)) vl_X2_32 dX2_appliedPart_150 o_141 rfl rfl (Nat.le_of_ble_eq_true rfl) ⟨(Nat.le_of_ble_eq_true rfl), (Nat.le_of_ble_eq_true rfl)⟩ rfl rfl (Nat.le_of_ble_eq_true rfl) (Nat.le_of_ble_eq_true rfl) (fun r9 J_150 hq9 => ?_)
          obtain ⟨z_150, rfl, hz_150, m_150, g_150, hz_150, x_150⟩ := hq9
          have q_150 := GR.tr q_119 g_150
          have d_150 := q_150.1
          have e_150 := g_150.1
          have u_150 : J_119 19 = J 19 := (q_119).2.2.2.2 19 rfl
          have k8_150 : J_119 8 t = J 8 t := ((q_119).2.2.2.1.1 t ht.1 ht.2).2.1
          refine tz_istore (pc := 153) (L2 := [_, _, _, _, _, _, _, _, _]) dX2_appliedPart_153 (by decide) rfl ?_
          refine tz_aload_n (pc := 155) dX2_appliedPart_155 rfl rfl ?_
          refine tz_fR (pc := 156) dX2_appliedPart_156 fl_X2_28 r_141_0 ?_
          refine tz_aload_n (pc := 159) dX2_appliedPart_159 rfl rfl ?_
          refine tz_fR (pc := 160) dX2_appliedPart_160 fl_X2_28 r_141_0 ?_
          refine tz_fR (pc := 163) dX2_appliedPart_163 fl_X2_42 r_6_1 ?_
          refine tz_iload_n (pc := 166) dX2_appliedPart_166 rfl rfl ?_
          refine tz_aL (pc := 167) (z := t) (v := (J_150 7 t)) dX2_appliedPart_167 a_7 rfl (by omega) rfl (fun r_167 => ?_)
          refine tz_iload (pc := 168) dX2_appliedPart_168 rfl ?_
          refine tz_iload (pc := 170) dX2_appliedPart_170 rfl ?_
          refine tz_iload (pc := 172) dX2_appliedPart_172 rfl ?_
          refine tz_cV (pc := 174) (c_made hl n _ _ _ _ _ (by omega) (by omega) (by omega) (by omega) m_150 (q_150).2.1 (q_150).2.2.1 (by have := (q_150).2.1.ar (t := t) (by omega) (by have := (q_150).1; omega); omega) (ltA_of (by omega) (by omega) (by omega))) vl_X2_52 dX2_appliedPart_174 o_6 rfl rfl (Nat.le_of_ble_eq_true rfl) ⟨(Nat.le_of_ble_eq_true rfl), (Nat.le_of_ble_eq_true rfl)⟩ rfl rfl (Nat.le_of_ble_eq_true rfl) (Nat.le_of_ble_eq_true rfl) (fun r9 J_174 hq9 => ?_)
          obtain ⟨z_174, rfl, hz_174, p_9⟩ := hq9
          obtain ⟨m9, g9, h9⟩ := GR.made p_9 (by omega)
          have q9 := GR.tr q_150 g9
          exact tz_iret (pc := 177) (z := z_174) dX2_appliedPart_177 rfl (Nat.le_of_ble_eq_true rfl) (Nat.le_of_ble_eq_true rfl) ⟨Nat.le_refl _, Nat.le_add_right _ _⟩ ⟨_, rfl, (by omega), ⟨m9, q9, h9, fun S β hβ hG E => ap_c hG E hm ht (by omega) (ap_end (fun S t h => apO_f h) hG E C hm ht (Or.inl ⟨by omega, g_88, hz_88, fun S9 h9 E9 => x_88 S9 β (fun v a c => by rw [u_88]; exact hβ v a c) h9 E9⟩) (Or.inl ⟨by omega, g_119, hz_119, fun S9 h9 E9 => x_119 S9 β (fun v a c => by rw [u_119]; exact hβ v a c) h9 E9⟩) (Or.inl ⟨by omega, g_150, hz_150, fun S9 h9 E9 => x_150 S9 β (fun v a c => by rw [u_150]; exact hβ v a c) h9 E9⟩) (by rw [show J 7 t = J_150 7 t from (((q_150).2.2.2.1.1 t ht.1 ht.2).1).symm]; exact p_9))⟩⟩
        · refine tz_iconst (pc := 130) dX2_appliedPart_130 ?_
          refine tz_goto (pc := 131) (tgt := 153) dX2_appliedPart_131 (by decide) ?_
          refine tz_istore (pc := 153) (L2 := [_, _, _, _, _, _, _, _, _]) dX2_appliedPart_153 (by decide) rfl ?_
          refine tz_aload_n (pc := 155) dX2_appliedPart_155 rfl rfl ?_
          refine tz_fR (pc := 156) dX2_appliedPart_156 fl_X2_28 r_141_0 ?_
          refine tz_aload_n (pc := 159) dX2_appliedPart_159 rfl rfl ?_
          refine tz_fR (pc := 160) dX2_appliedPart_160 fl_X2_28 r_141_0 ?_
          refine tz_fR (pc := 163) dX2_appliedPart_163 fl_X2_42 r_6_1 ?_
          refine tz_iload_n (pc := 166) dX2_appliedPart_166 rfl rfl ?_
          refine tz_aL (pc := 167) (z := t) (v := (J_119 7 t)) dX2_appliedPart_167 a_7 rfl (by omega) rfl (fun r_167 => ?_)
          refine tz_iload (pc := 168) dX2_appliedPart_168 rfl ?_
          refine tz_iload (pc := 170) dX2_appliedPart_170 rfl ?_
          refine tz_iload (pc := 172) dX2_appliedPart_172 rfl ?_
          refine tz_cV (pc := 174) (c_made hl n _ _ _ _ _ (by omega) (by omega) (by omega) (by omega) m_119 (q_119).2.1 (q_119).2.2.1 (by have := (q_119).2.1.ar (t := t) (by omega) (by have := (q_119).1; omega); omega) (ltA_of (by omega) (by omega) (by omega))) vl_X2_52 dX2_appliedPart_174 o_6 rfl rfl (Nat.le_of_ble_eq_true rfl) ⟨(Nat.le_of_ble_eq_true rfl), (Nat.le_of_ble_eq_true rfl)⟩ rfl rfl (Nat.le_of_ble_eq_true rfl) (Nat.le_of_ble_eq_true rfl) (fun r9 J_174 hq9 => ?_)
          obtain ⟨z_174, rfl, hz_174, p_9⟩ := hq9
          obtain ⟨m9, g9, h9⟩ := GR.made p_9 (by omega)
          have q9 := GR.tr q_119 g9
          exact tz_iret (pc := 177) (z := z_174) dX2_appliedPart_177 rfl (Nat.le_of_ble_eq_true rfl) (Nat.le_of_ble_eq_true rfl) ⟨Nat.le_refl _, Nat.le_add_right _ _⟩ ⟨_, rfl, (by omega), ⟨m9, q9, h9, fun S β hβ hG E => ap_c hG E hm ht (by omega) (ap_end (fun S t h => apO_f h) hG E C hm ht (Or.inl ⟨by omega, g_88, hz_88, fun S9 h9 E9 => x_88 S9 β (fun v a c => by rw [u_88]; exact hβ v a c) h9 E9⟩) (Or.inl ⟨by omega, g_119, hz_119, fun S9 h9 E9 => x_119 S9 β (fun v a c => by rw [u_119]; exact hβ v a c) h9 E9⟩) (Or.inr ⟨by rw [show J_119 8 t = J 8 t from ((q_119).2.2.2.1.1 t ht.1 ht.2).2.1]; omega, rfl, rfl⟩) (by rw [show J 7 t = J_119 7 t from (((q_119).2.2.2.1.1 t ht.1 ht.2).1).symm]; exact p_9))⟩⟩
      · refine tz_iconst (pc := 99) dX2_appliedPart_99 ?_
        refine tz_goto (pc := 100) (tgt := 122) dX2_appliedPart_100 (by decide) ?_
        refine tz_istore (pc := 122) (L2 := [_, _, _, _, _, _, _, _, _]) dX2_appliedPart_122 (by decide) rfl ?_
        refine tz_iload (pc := 124) dX2_appliedPart_124 rfl ?_
        refine tz_iconst (pc := 126) dX2_appliedPart_126 ?_
        refine tz_icmp_ge (pc := 127) (tgt := 134) dX2_appliedPart_127 (by decide) (by omega) (by decide) (fun h_127 => ?_) (fun h_127 => ?_)
        · refine tz_aload_n (pc := 134) dX2_appliedPart_134 rfl rfl ?_
          refine tz_aload_n (pc := 135) dX2_appliedPart_135 rfl rfl ?_
          refine tz_fR (pc := 136) dX2_appliedPart_136 fl_X2_28 r_141_0 ?_
          refine tz_iload_n (pc := 139) dX2_appliedPart_139 rfl rfl ?_
          refine tz_iconst (pc := 140) dX2_appliedPart_140 ?_
          refine tz_cV (pc := 141) (c_arg hl n _ _ _ (by omega) (by decide) (by omega)) vl_X2_48 dX2_appliedPart_141 o_6 rfl rfl (Nat.le_of_ble_eq_true rfl) ⟨(Nat.le_of_ble_eq_true rfl), (Nat.le_of_ble_eq_true rfl)⟩ rfl rfl (Nat.le_of_ble_eq_true rfl) (Nat.le_of_ble_eq_true rfl) (fun r9 J_141 hq9 => ?_)
          obtain ⟨z_141, rfl, hz_141, rfl, rfl⟩ := hq9
          refine tz_aload_n (pc := 144) dX2_appliedPart_144 rfl rfl ?_
          refine tz_iload_n (pc := 145) dX2_appliedPart_145 rfl rfl ?_
          refine tz_iload (pc := 146) dX2_appliedPart_146 rfl ?_
          refine tz_iconst (pc := 148) dX2_appliedPart_148 ?_
          refine tz_iadd (pc := 149) (v := 4) dX2_appliedPart_149 (by decide) ?_
          have b_150 := GR.arg q_88 C ht (i := 2) (by omega)
          have c_150 := (q_88).1
          refine tz_cV (pc := 150) (x_app19_4 hl n _ _ (by omega) m_88 (q_88).2.1 (q_88).2.2.1 (by omega) (GR.row q_88 rfl hr)) vl_X2_32 dX2_appliedPart_150 o_141 rfl rfl (Nat.le_of_ble_eq_true rfl) ⟨(Nat.le_of_ble_eq_true rfl), (Nat.le_of_ble_eq_true rfl)⟩ rfl rfl (Nat.le_of_ble_eq_true rfl) (Nat.le_of_ble_eq_true rfl) (fun r9 J_150 hq9 => ?_)
          obtain ⟨z_150, rfl, hz_150, m_150, g_150, hz_150, x_150⟩ := hq9
          have q_150 := GR.tr q_88 g_150
          have d_150 := q_150.1
          have e_150 := g_150.1
          have u_150 : J_88 19 = J 19 := (q_88).2.2.2.2 19 rfl
          have k8_150 : J_88 8 t = J 8 t := ((q_88).2.2.2.1.1 t ht.1 ht.2).2.1
          refine tz_istore (pc := 153) (L2 := [_, _, _, _, _, _, _, _, _]) dX2_appliedPart_153 (by decide) rfl ?_
          refine tz_aload_n (pc := 155) dX2_appliedPart_155 rfl rfl ?_
          refine tz_fR (pc := 156) dX2_appliedPart_156 fl_X2_28 r_141_0 ?_
          refine tz_aload_n (pc := 159) dX2_appliedPart_159 rfl rfl ?_
          refine tz_fR (pc := 160) dX2_appliedPart_160 fl_X2_28 r_141_0 ?_
          refine tz_fR (pc := 163) dX2_appliedPart_163 fl_X2_42 r_6_1 ?_
          refine tz_iload_n (pc := 166) dX2_appliedPart_166 rfl rfl ?_
          refine tz_aL (pc := 167) (z := t) (v := (J_150 7 t)) dX2_appliedPart_167 a_7 rfl (by omega) rfl (fun r_167 => ?_)
          refine tz_iload (pc := 168) dX2_appliedPart_168 rfl ?_
          refine tz_iload (pc := 170) dX2_appliedPart_170 rfl ?_
          refine tz_iload (pc := 172) dX2_appliedPart_172 rfl ?_
          refine tz_cV (pc := 174) (c_made hl n _ _ _ _ _ (by omega) (by omega) (by omega) (by omega) m_150 (q_150).2.1 (q_150).2.2.1 (by have := (q_150).2.1.ar (t := t) (by omega) (by have := (q_150).1; omega); omega) (ltA_of (by omega) (by omega) (by omega))) vl_X2_52 dX2_appliedPart_174 o_6 rfl rfl (Nat.le_of_ble_eq_true rfl) ⟨(Nat.le_of_ble_eq_true rfl), (Nat.le_of_ble_eq_true rfl)⟩ rfl rfl (Nat.le_of_ble_eq_true rfl) (Nat.le_of_ble_eq_true rfl) (fun r9 J_174 hq9 => ?_)
          obtain ⟨z_174, rfl, hz_174, p_9⟩ := hq9
          obtain ⟨m9, g9, h9⟩ := GR.made p_9 (by omega)
          have q9 := GR.tr q_150 g9
          exact tz_iret (pc := 177) (z := z_174) dX2_appliedPart_177 rfl (Nat.le_of_ble_eq_true rfl) (Nat.le_of_ble_eq_true rfl) ⟨Nat.le_refl _, Nat.le_add_right _ _⟩ ⟨_, rfl, (by omega), ⟨m9, q9, h9, fun S β hβ hG E => ap_c hG E hm ht (by omega) (ap_end (fun S t h => apO_f h) hG E C hm ht (Or.inl ⟨by omega, g_88, hz_88, fun S9 h9 E9 => x_88 S9 β (fun v a c => by rw [u_88]; exact hβ v a c) h9 E9⟩) (Or.inr ⟨by rw [show J_88 8 t = J 8 t from ((q_88).2.2.2.1.1 t ht.1 ht.2).2.1]; omega, rfl, rfl⟩) (Or.inl ⟨by omega, g_150, hz_150, fun S9 h9 E9 => x_150 S9 β (fun v a c => by rw [u_150]; exact hβ v a c) h9 E9⟩) (by rw [show J 7 t = J_150 7 t from (((q_150).2.2.2.1.1 t ht.1 ht.2).1).symm]; exact p_9))⟩⟩
        · refine tz_iconst (pc := 130) dX2_appliedPart_130 ?_
          refine tz_goto (pc := 131) (tgt := 153) dX2_appliedPart_131 (by decide) ?_
          refine tz_istore (pc := 153) (L2 := [_, _, _, _, _, _, _, _, _]) dX2_appliedPart_153 (by decide) rfl ?_
          refine tz_aload_n (pc := 155) dX2_appliedPart_155 rfl rfl ?_
          refine tz_fR (pc := 156) dX2_appliedPart_156 fl_X2_28 r_141_0 ?_
          refine tz_aload_n (pc := 159) dX2_appliedPart_159 rfl rfl ?_
          refine tz_fR (pc := 160) dX2_appliedPart_160 fl_X2_28 r_141_0 ?_
          refine tz_fR (pc := 163) dX2_appliedPart_163 fl_X2_42 r_6_1 ?_
          refine tz_iload_n (pc := 166) dX2_appliedPart_166 rfl rfl ?_
          refine tz_aL (pc := 167) (z := t) (v := (J_88 7 t)) dX2_appliedPart_167 a_7 rfl (by omega) rfl (fun r_167 => ?_)
          refine tz_iload (pc := 168) dX2_appliedPart_168 rfl ?_
          refine tz_iload (pc := 170) dX2_appliedPart_170 rfl ?_
          refine tz_iload (pc := 172) dX2_appliedPart_172 rfl ?_
          refine tz_cV (pc := 174) (c_made hl n _ _ _ _ _ (by omega) (by omega) (by omega) (by omega) m_88 (q_88).2.1 (q_88).2.2.1 (by have := (q_88).2.1.ar (t := t) (by omega) (by have := (q_88).1; omega); omega) (ltA_of (by omega) (by omega) (by omega))) vl_X2_52 dX2_appliedPart_174 o_6 rfl rfl (Nat.le_of_ble_eq_true rfl) ⟨(Nat.le_of_ble_eq_true rfl), (Nat.le_of_ble_eq_true rfl)⟩ rfl rfl (Nat.le_of_ble_eq_true rfl) (Nat.le_of_ble_eq_true rfl) (fun r9 J_174 hq9 => ?_)
          obtain ⟨z_174, rfl, hz_174, p_9⟩ := hq9
          obtain ⟨m9, g9, h9⟩ := GR.made p_9 (by omega)
          have q9 := GR.tr q_88 g9
          exact tz_iret (pc := 177) (z := z_174) dX2_appliedPart_177 rfl (Nat.le_of_ble_eq_true rfl) (Nat.le_of_ble_eq_true rfl) ⟨Nat.le_refl _, Nat.le_add_right _ _⟩ ⟨_, rfl, (by omega), ⟨m9, q9, h9, fun S β hβ hG E => ap_c hG E hm ht (by omega) (ap_end (fun S t h => apO_f h) hG E C hm ht (Or.inl ⟨by omega, g_88, hz_88, fun S9 h9 E9 => x_88 S9 β (fun v a c => by rw [u_88]; exact hβ v a c) h9 E9⟩) (Or.inr ⟨by rw [show J_88 8 t = J 8 t from ((q_88).2.2.2.1.1 t ht.1 ht.2).2.1]; omega, rfl, rfl⟩) (Or.inr ⟨by rw [show J_88 8 t = J 8 t from ((q_88).2.2.2.1.1 t ht.1 ht.2).2.1]; omega, rfl, rfl⟩) (by rw [show J 7 t = J_88 7 t from (((q_88).2.2.2.1.1 t ht.1 ht.2).1).symm]; exact p_9))⟩⟩
    · refine tz_iconst (pc := 68) dX2_appliedPart_68 ?_
      refine tz_goto (pc := 69) (tgt := 91) dX2_appliedPart_69 (by decide) ?_
      refine tz_istore (pc := 91) (L2 := [_, _, _, _, _, _, _, _, _]) dX2_appliedPart_91 (by decide) rfl ?_
      refine tz_iload (pc := 93) dX2_appliedPart_93 rfl ?_
      refine tz_iconst (pc := 95) dX2_appliedPart_95 ?_
      refine tz_icmp_ge (pc := 96) (tgt := 103) dX2_appliedPart_96 (by decide) (by omega) (by decide) (fun h_96 => ?_) (fun h_96 => ?_)
      · refine tz_aload_n (pc := 103) dX2_appliedPart_103 rfl rfl ?_
        refine tz_aload_n (pc := 104) dX2_appliedPart_104 rfl rfl ?_
        refine tz_fR (pc := 105) dX2_appliedPart_105 fl_X2_28 r_141_0 ?_
        refine tz_iload_n (pc := 108) dX2_appliedPart_108 rfl rfl ?_
        refine tz_iconst (pc := 109) dX2_appliedPart_109 ?_
        refine tz_cV (pc := 110) (c_arg hl n _ _ _ (by omega) (by decide) (by omega)) vl_X2_48 dX2_appliedPart_110 o_6 rfl rfl (Nat.le_of_ble_eq_true rfl) ⟨(Nat.le_of_ble_eq_true rfl), (Nat.le_of_ble_eq_true rfl)⟩ rfl rfl (Nat.le_of_ble_eq_true rfl) (Nat.le_of_ble_eq_true rfl) (fun r9 J_110 hq9 => ?_)
        obtain ⟨z_110, rfl, hz_110, rfl, rfl⟩ := hq9
        refine tz_aload_n (pc := 113) dX2_appliedPart_113 rfl rfl ?_
        refine tz_iload_n (pc := 114) dX2_appliedPart_114 rfl rfl ?_
        refine tz_iload (pc := 115) dX2_appliedPart_115 rfl ?_
        refine tz_iconst (pc := 117) dX2_appliedPart_117 ?_
        refine tz_iadd (pc := 118) (v := 4) dX2_appliedPart_118 (by decide) ?_
        have b_119 := GR.arg (GR.rf C hm) C ht (i := 1) (by omega)
        have c_119 := ((GR.rf C hm)).1
        refine tz_cV (pc := 119) (x_app19_4 hl n _ _ (by omega) m ((GR.rf C hm)).2.1 ((GR.rf C hm)).2.2.1 (by omega) (GR.row (GR.rf C hm) rfl hr)) vl_X2_32 dX2_appliedPart_119 o_141 rfl rfl (Nat.le_of_ble_eq_true rfl) ⟨(Nat.le_of_ble_eq_true rfl), (Nat.le_of_ble_eq_true rfl)⟩ rfl rfl (Nat.le_of_ble_eq_true rfl) (Nat.le_of_ble_eq_true rfl) (fun r9 J_119 hq9 => ?_)
        obtain ⟨z_119, rfl, hz_119, m_119, g_119, hz_119, x_119⟩ := hq9
        have q_119 := GR.tr (GR.rf C hm) g_119
        have d_119 := q_119.1
        have e_119 := g_119.1
        have u_119 : J 19 = J 19 := ((GR.rf C hm)).2.2.2.2 19 rfl
        have k8_119 : J 8 t = J 8 t := (((GR.rf C hm)).2.2.2.1.1 t ht.1 ht.2).2.1
        refine tz_istore (pc := 122) (L2 := [_, _, _, _, _, _, _, _, _]) dX2_appliedPart_122 (by decide) rfl ?_
        refine tz_iload (pc := 124) dX2_appliedPart_124 rfl ?_
        refine tz_iconst (pc := 126) dX2_appliedPart_126 ?_
        refine tz_icmp_ge (pc := 127) (tgt := 134) dX2_appliedPart_127 (by decide) (by omega) (by decide) (fun h_127 => ?_) (fun h_127 => ?_)
        · refine tz_aload_n (pc := 134) dX2_appliedPart_134 rfl rfl ?_
          refine tz_aload_n (pc := 135) dX2_appliedPart_135 rfl rfl ?_
          refine tz_fR (pc := 136) dX2_appliedPart_136 fl_X2_28 r_141_0 ?_
          refine tz_iload_n (pc := 139) dX2_appliedPart_139 rfl rfl ?_
          refine tz_iconst (pc := 140) dX2_appliedPart_140 ?_
          refine tz_cV (pc := 141) (c_arg hl n _ _ _ (by omega) (by decide) (by omega)) vl_X2_48 dX2_appliedPart_141 o_6 rfl rfl (Nat.le_of_ble_eq_true rfl) ⟨(Nat.le_of_ble_eq_true rfl), (Nat.le_of_ble_eq_true rfl)⟩ rfl rfl (Nat.le_of_ble_eq_true rfl) (Nat.le_of_ble_eq_true rfl) (fun r9 J_141 hq9 => ?_)
          obtain ⟨z_141, rfl, hz_141, rfl, rfl⟩ := hq9
          refine tz_aload_n (pc := 144) dX2_appliedPart_144 rfl rfl ?_
          refine tz_iload_n (pc := 145) dX2_appliedPart_145 rfl rfl ?_
          refine tz_iload (pc := 146) dX2_appliedPart_146 rfl ?_
          refine tz_iconst (pc := 148) dX2_appliedPart_148 ?_
          refine tz_iadd (pc := 149) (v := 4) dX2_appliedPart_149 (by decide) ?_
          have b_150 := GR.arg q_119 C ht (i := 2) (by omega)
          have c_150 := (q_119).1
          refine tz_cV (pc := 150) (x_app19_4 hl n _ _ (by omega) m_119 (q_119).2.1 (q_119).2.2.1 (by omega) (GR.row q_119 rfl hr)) vl_X2_32 dX2_appliedPart_150 o_141 rfl rfl (Nat.le_of_ble_eq_true rfl) ⟨(Nat.le_of_ble_eq_true rfl), (Nat.le_of_ble_eq_true rfl)⟩ rfl rfl (Nat.le_of_ble_eq_true rfl) (Nat.le_of_ble_eq_true rfl) (fun r9 J_150 hq9 => ?_)
          obtain ⟨z_150, rfl, hz_150, m_150, g_150, hz_150, x_150⟩ := hq9
          have q_150 := GR.tr q_119 g_150
          have d_150 := q_150.1
          have e_150 := g_150.1
          have u_150 : J_119 19 = J 19 := (q_119).2.2.2.2 19 rfl
          have k8_150 : J_119 8 t = J 8 t := ((q_119).2.2.2.1.1 t ht.1 ht.2).2.1
          refine tz_istore (pc := 153) (L2 := [_, _, _, _, _, _, _, _, _]) dX2_appliedPart_153 (by decide) rfl ?_
          refine tz_aload_n (pc := 155) dX2_appliedPart_155 rfl rfl ?_
          refine tz_fR (pc := 156) dX2_appliedPart_156 fl_X2_28 r_141_0 ?_
          refine tz_aload_n (pc := 159) dX2_appliedPart_159 rfl rfl ?_
          refine tz_fR (pc := 160) dX2_appliedPart_160 fl_X2_28 r_141_0 ?_
          refine tz_fR (pc := 163) dX2_appliedPart_163 fl_X2_42 r_6_1 ?_
          refine tz_iload_n (pc := 166) dX2_appliedPart_166 rfl rfl ?_
          refine tz_aL (pc := 167) (z := t) (v := (J_150 7 t)) dX2_appliedPart_167 a_7 rfl (by omega) rfl (fun r_167 => ?_)
          refine tz_iload (pc := 168) dX2_appliedPart_168 rfl ?_
          refine tz_iload (pc := 170) dX2_appliedPart_170 rfl ?_
          refine tz_iload (pc := 172) dX2_appliedPart_172 rfl ?_
          refine tz_cV (pc := 174) (c_made hl n _ _ _ _ _ (by omega) (by omega) (by omega) (by omega) m_150 (q_150).2.1 (q_150).2.2.1 (by have := (q_150).2.1.ar (t := t) (by omega) (by have := (q_150).1; omega); omega) (ltA_of (by omega) (by omega) (by omega))) vl_X2_52 dX2_appliedPart_174 o_6 rfl rfl (Nat.le_of_ble_eq_true rfl) ⟨(Nat.le_of_ble_eq_true rfl), (Nat.le_of_ble_eq_true rfl)⟩ rfl rfl (Nat.le_of_ble_eq_true rfl) (Nat.le_of_ble_eq_true rfl) (fun r9 J_174 hq9 => ?_)
          obtain ⟨z_174, rfl, hz_174, p_9⟩ := hq9
          obtain ⟨m9, g9, h9⟩ := GR.made p_9 (by omega)
          have q9 := GR.tr q_150 g9
          exact tz_iret (pc := 177) (z := z_174) dX2_appliedPart_177 rfl (Nat.le_of_ble_eq_true rfl) (Nat.le_of_ble_eq_true rfl) ⟨Nat.le_refl _, Nat.le_add_right _ _⟩ ⟨_, rfl, (by omega), ⟨m9, q9, h9, fun S β hβ hG E => ap_c hG E hm ht (by omega) (ap_end (fun S t h => apO_f h) hG E C hm ht (Or.inr ⟨by rw [show J 8 t = J 8 t from rfl]; omega, rfl, rfl⟩) (Or.inl ⟨by omega, g_119, hz_119, fun S9 h9 E9 => x_119 S9 β (fun v a c => by rw [u_119]; exact hβ v a c) h9 E9⟩) (Or.inl ⟨by omega, g_150, hz_150, fun S9 h9 E9 => x_150 S9 β (fun v a c => by rw [u_150]; exact hβ v a c) h9 E9⟩) (by rw [show J 7 t = J_150 7 t from (((q_150).2.2.2.1.1 t ht.1 ht.2).1).symm]; exact p_9))⟩⟩
        · refine tz_iconst (pc := 130) dX2_appliedPart_130 ?_
          refine tz_goto (pc := 131) (tgt := 153) dX2_appliedPart_131 (by decide) ?_
          refine tz_istore (pc := 153) (L2 := [_, _, _, _, _, _, _, _, _]) dX2_appliedPart_153 (by decide) rfl ?_
          refine tz_aload_n (pc := 155) dX2_appliedPart_155 rfl rfl ?_
          refine tz_fR (pc := 156) dX2_appliedPart_156 fl_X2_28 r_141_0 ?_
          refine tz_aload_n (pc := 159) dX2_appliedPart_159 rfl rfl ?_
          refine tz_fR (pc := 160) dX2_appliedPart_160 fl_X2_28 r_141_0 ?_
          refine tz_fR (pc := 163) dX2_appliedPart_163 fl_X2_42 r_6_1 ?_
          refine tz_iload_n (pc := 166) dX2_appliedPart_166 rfl rfl ?_
          refine tz_aL (pc := 167) (z := t) (v := (J_119 7 t)) dX2_appliedPart_167 a_7 rfl (by omega) rfl (fun r_167 => ?_)
          refine tz_iload (pc := 168) dX2_appliedPart_168 rfl ?_
          refine tz_iload (pc := 170) dX2_appliedPart_170 rfl ?_
          refine tz_iload (pc := 172) dX2_appliedPart_172 rfl ?_
          refine tz_cV (pc := 174) (c_made hl n _ _ _ _ _ (by omega) (by omega) (by omega) (by omega) m_119 (q_119).2.1 (q_119).2.2.1 (by have := (q_119).2.1.ar (t := t) (by omega) (by have := (q_119).1; omega); omega) (ltA_of (by omega) (by omega) (by omega))) vl_X2_52 dX2_appliedPart_174 o_6 rfl rfl (Nat.le_of_ble_eq_true rfl) ⟨(Nat.le_of_ble_eq_true rfl), (Nat.le_of_ble_eq_true rfl)⟩ rfl rfl (Nat.le_of_ble_eq_true rfl) (Nat.le_of_ble_eq_true rfl) (fun r9 J_174 hq9 => ?_)
          obtain ⟨z_174, rfl, hz_174, p_9⟩ := hq9
          obtain ⟨m9, g9, h9⟩ := GR.made p_9 (by omega)
          have q9 := GR.tr q_119 g9
          exact tz_iret (pc := 177) (z := z_174) dX2_appliedPart_177 rfl (Nat.le_of_ble_eq_true rfl) (Nat.le_of_ble_eq_true rfl) ⟨Nat.le_refl _, Nat.le_add_right _ _⟩ ⟨_, rfl, (by omega), ⟨m9, q9, h9, fun S β hβ hG E => ap_c hG E hm ht (by omega) (ap_end (fun S t h => apO_f h) hG E C hm ht (Or.inr ⟨by rw [show J 8 t = J 8 t from rfl]; omega, rfl, rfl⟩) (Or.inl ⟨by omega, g_119, hz_119, fun S9 h9 E9 => x_119 S9 β (fun v a c => by rw [u_119]; exact hβ v a c) h9 E9⟩) (Or.inr ⟨by rw [show J_119 8 t = J 8 t from ((q_119).2.2.2.1.1 t ht.1 ht.2).2.1]; omega, rfl, rfl⟩) (by rw [show J 7 t = J_119 7 t from (((q_119).2.2.2.1.1 t ht.1 ht.2).1).symm]; exact p_9))⟩⟩
      · refine tz_iconst (pc := 99) dX2_appliedPart_99 ?_
        refine tz_goto (pc := 100) (tgt := 122) dX2_appliedPart_100 (by decide) ?_
        refine tz_istore (pc := 122) (L2 := [_, _, _, _, _, _, _, _, _]) dX2_appliedPart_122 (by decide) rfl ?_
        refine tz_iload (pc := 124) dX2_appliedPart_124 rfl ?_
        refine tz_iconst (pc := 126) dX2_appliedPart_126 ?_
        refine tz_icmp_ge (pc := 127) (tgt := 134) dX2_appliedPart_127 (by decide) (by omega) (by decide) (fun h_127 => ?_) (fun h_127 => ?_)
        · refine tz_aload_n (pc := 134) dX2_appliedPart_134 rfl rfl ?_
          refine tz_aload_n (pc := 135) dX2_appliedPart_135 rfl rfl ?_
          refine tz_fR (pc := 136) dX2_appliedPart_136 fl_X2_28 r_141_0 ?_
          refine tz_iload_n (pc := 139) dX2_appliedPart_139 rfl rfl ?_
          refine tz_iconst (pc := 140) dX2_appliedPart_140 ?_
          refine tz_cV (pc := 141) (c_arg hl n _ _ _ (by omega) (by decide) (by omega)) vl_X2_48 dX2_appliedPart_141 o_6 rfl rfl (Nat.le_of_ble_eq_true rfl) ⟨(Nat.le_of_ble_eq_true rfl), (Nat.le_of_ble_eq_true rfl)⟩ rfl rfl (Nat.le_of_ble_eq_true rfl) (Nat.le_of_ble_eq_true rfl) (fun r9 J_141 hq9 => ?_)
          obtain ⟨z_141, rfl, hz_141, rfl, rfl⟩ := hq9
          refine tz_aload_n (pc := 144) dX2_appliedPart_144 rfl rfl ?_
          refine tz_iload_n (pc := 145) dX2_appliedPart_145 rfl rfl ?_
          refine tz_iload (pc := 146) dX2_appliedPart_146 rfl ?_
          refine tz_iconst (pc := 148) dX2_appliedPart_148 ?_
          refine tz_iadd (pc := 149) (v := 4) dX2_appliedPart_149 (by decide) ?_
          have b_150 := GR.arg (GR.rf C hm) C ht (i := 2) (by omega)
          have c_150 := ((GR.rf C hm)).1
          refine tz_cV (pc := 150) (x_app19_4 hl n _ _ (by omega) m ((GR.rf C hm)).2.1 ((GR.rf C hm)).2.2.1 (by omega) (GR.row (GR.rf C hm) rfl hr)) vl_X2_32 dX2_appliedPart_150 o_141 rfl rfl (Nat.le_of_ble_eq_true rfl) ⟨(Nat.le_of_ble_eq_true rfl), (Nat.le_of_ble_eq_true rfl)⟩ rfl rfl (Nat.le_of_ble_eq_true rfl) (Nat.le_of_ble_eq_true rfl) (fun r9 J_150 hq9 => ?_)
          obtain ⟨z_150, rfl, hz_150, m_150, g_150, hz_150, x_150⟩ := hq9
          have q_150 := GR.tr (GR.rf C hm) g_150
          have d_150 := q_150.1
          have e_150 := g_150.1
          have u_150 : J 19 = J 19 := ((GR.rf C hm)).2.2.2.2 19 rfl
          have k8_150 : J 8 t = J 8 t := (((GR.rf C hm)).2.2.2.1.1 t ht.1 ht.2).2.1
          refine tz_istore (pc := 153) (L2 := [_, _, _, _, _, _, _, _, _]) dX2_appliedPart_153 (by decide) rfl ?_
          refine tz_aload_n (pc := 155) dX2_appliedPart_155 rfl rfl ?_
          refine tz_fR (pc := 156) dX2_appliedPart_156 fl_X2_28 r_141_0 ?_
          refine tz_aload_n (pc := 159) dX2_appliedPart_159 rfl rfl ?_
          refine tz_fR (pc := 160) dX2_appliedPart_160 fl_X2_28 r_141_0 ?_
          refine tz_fR (pc := 163) dX2_appliedPart_163 fl_X2_42 r_6_1 ?_
          refine tz_iload_n (pc := 166) dX2_appliedPart_166 rfl rfl ?_
          refine tz_aL (pc := 167) (z := t) (v := (J_150 7 t)) dX2_appliedPart_167 a_7 rfl (by omega) rfl (fun r_167 => ?_)
          refine tz_iload (pc := 168) dX2_appliedPart_168 rfl ?_
          refine tz_iload (pc := 170) dX2_appliedPart_170 rfl ?_
          refine tz_iload (pc := 172) dX2_appliedPart_172 rfl ?_
          refine tz_cV (pc := 174) (c_made hl n _ _ _ _ _ (by omega) (by omega) (by omega) (by omega) m_150 (q_150).2.1 (q_150).2.2.1 (by have := (q_150).2.1.ar (t := t) (by omega) (by have := (q_150).1; omega); omega) (ltA_of (by omega) (by omega) (by omega))) vl_X2_52 dX2_appliedPart_174 o_6 rfl rfl (Nat.le_of_ble_eq_true rfl) ⟨(Nat.le_of_ble_eq_true rfl), (Nat.le_of_ble_eq_true rfl)⟩ rfl rfl (Nat.le_of_ble_eq_true rfl) (Nat.le_of_ble_eq_true rfl) (fun r9 J_174 hq9 => ?_)
          obtain ⟨z_174, rfl, hz_174, p_9⟩ := hq9
          obtain ⟨m9, g9, h9⟩ := GR.made p_9 (by omega)
          have q9 := GR.tr q_150 g9
          exact tz_iret (pc := 177) (z := z_174) dX2_appliedPart_177 rfl (Nat.le_of_ble_eq_true rfl) (Nat.le_of_ble_eq_true rfl) ⟨Nat.le_refl _, Nat.le_add_right _ _⟩ ⟨_, rfl, (by omega), ⟨m9, q9, h9, fun S β hβ hG E => ap_c hG E hm ht (by omega) (ap_end (fun S t h => apO_f h) hG E C hm ht (Or.inr ⟨by rw [show J 8 t = J 8 t from rfl]; omega, rfl, rfl⟩) (Or.inr ⟨by rw [show J 8 t = J 8 t from rfl]; omega, rfl, rfl⟩) (Or.inl ⟨by omega, g_150, hz_150, fun S9 h9 E9 => x_150 S9 β (fun v a c => by rw [u_150]; exact hβ v a c) h9 E9⟩) (by rw [show J 7 t = J_150 7 t from (((q_150).2.2.2.1.1 t ht.1 ht.2).1).symm]; exact p_9))⟩⟩
        · refine tz_iconst (pc := 130) dX2_appliedPart_130 ?_
          refine tz_goto (pc := 131) (tgt := 153) dX2_appliedPart_131 (by decide) ?_
          refine tz_istore (pc := 153) (L2 := [_, _, _, _, _, _, _, _, _]) dX2_appliedPart_153 (by decide) rfl ?_
          refine tz_aload_n (pc := 155) dX2_appliedPart_155 rfl rfl ?_
          refine tz_fR (pc := 156) dX2_appliedPart_156 fl_X2_28 r_141_0 ?_
          refine tz_aload_n (pc := 159) dX2_appliedPart_159 rfl rfl ?_
          refine tz_fR (pc := 160) dX2_appliedPart_160 fl_X2_28 r_141_0 ?_
          refine tz_fR (pc := 163) dX2_appliedPart_163 fl_X2_42 r_6_1 ?_
          refine tz_iload_n (pc := 166) dX2_appliedPart_166 rfl rfl ?_
          refine tz_aL (pc := 167) (z := t) (v := (J 7 t)) dX2_appliedPart_167 a_7 rfl (by omega) rfl (fun r_167 => ?_)
          refine tz_iload (pc := 168) dX2_appliedPart_168 rfl ?_
          refine tz_iload (pc := 170) dX2_appliedPart_170 rfl ?_
          refine tz_iload (pc := 172) dX2_appliedPart_172 rfl ?_
          refine tz_cV (pc := 174) (c_made hl n _ _ _ _ _ (by omega) (by omega) (by omega) (by omega) m ((GR.rf C hm)).2.1 ((GR.rf C hm)).2.2.1 (by have := ((GR.rf C hm)).2.1.ar (t := t) (by omega) (by have := ((GR.rf C hm)).1; omega); omega) (ltA_of (by omega) (by omega) (by omega))) vl_X2_52 dX2_appliedPart_174 o_6 rfl rfl (Nat.le_of_ble_eq_true rfl) ⟨(Nat.le_of_ble_eq_true rfl), (Nat.le_of_ble_eq_true rfl)⟩ rfl rfl (Nat.le_of_ble_eq_true rfl) (Nat.le_of_ble_eq_true rfl) (fun r9 J_174 hq9 => ?_)
          obtain ⟨z_174, rfl, hz_174, p_9⟩ := hq9
          obtain ⟨m9, g9, h9⟩ := GR.made p_9 (by omega)
          have q9 := GR.tr (GR.rf C hm) g9
          exact tz_iret (pc := 177) (z := z_174) dX2_appliedPart_177 rfl (Nat.le_of_ble_eq_true rfl) (Nat.le_of_ble_eq_true rfl) ⟨Nat.le_refl _, Nat.le_add_right _ _⟩ ⟨_, rfl, (by omega), ⟨m9, q9, h9, fun S β hβ hG E => ap_c hG E hm ht (by omega) (ap_end (fun S t h => apO_f h) hG E C hm ht (Or.inr ⟨by rw [show J 8 t = J 8 t from rfl]; omega, rfl, rfl⟩) (Or.inr ⟨by rw [show J 8 t = J 8 t from rfl]; omega, rfl, rfl⟩) (Or.inr ⟨by rw [show J 8 t = J 8 t from rfl]; omega, rfl, rfl⟩) (by rw [show J 7 t = J 7 t from rfl]; exact p_9))⟩⟩

set_option maxHeartbeats 4000000 in
set_option maxRecDepth 100000 in
theorem x_app19_2 {l : Launch} {G : tb_G} (hl : l.stackTraces = false) (n : Nat) (J : zJ) (t : Int) (hr_t : -2147483648 ≤ t ∧ t < 2147483648) (m : Int) (C : CT J m) (hm : J 6 12 = m) (ht : 0 ≤ t ∧ t < m) (hr : rOK J 19 7 m) : tz_Ok l G M_X2_appliedPart 7 0 0 [.ref 141, zi t, .ref 19, zi 7, zi 2] n J (zqi (fun z J' => ∃ m', GR J' J m m' ∧ (z = -3 ∨ (0 ≤ z ∧ z < m')) ∧ ∀ (S : zJ) (β : Int → Int), (∀ v, 0 ≤ v → v < 8 → β v = J 19 (7 + v)) → S 164 21 = 0 → A0 J S → EXO (apO β 5 S t) z J')) zN := by
  refine tz_Ok.of hl (by decide +kernel) rfl (tb_c1 rfl) (Nat.le_of_ble_eq_true rfl) ?_
  show tz_At l G M_X2_appliedPart (tb_rm 7 0 0) none (tb_ZM G 0 0 (zQ n 0 (zqi (fun z J' => ∃ m', GR J' J m m' ∧ (z = -3 ∨ (0 ≤ z ∧ z < m')) ∧ ∀ (S : zJ) (β : Int → Int), (∀ v, 0 ≤ v → v < 8 → β v = J 19 (7 + v)) → S 164 21 = 0 → A0 J S → EXO (apO β 5 S t) z J'))) (zX n 0 zN)) 0 0 n J 0 [some (.ref 141), some (zi t), some (.ref 19), some (zi 7), some (zi 2), none, none, none, none] []
  have hb := C.told
  have ha := C.ar ht.1 ht.2
  refine tz_iload (pc := 0) dX2_appliedPart_0 rfl ?_
  refine tz_bipush (pc := 2) dX2_appliedPart_2 (by decide) ?_
  refine tz_icmp_leT (pc := 4) (tgt := 10) (by decide) dX2_appliedPart_4 (by decide) (by decide) (by decide) ?_
  refine tz_aload_n (pc := 10) dX2_appliedPart_10 rfl rfl ?_
  refine tz_fR (pc := 11) dX2_appliedPart_11 fl_X2_28 r_141_0 ?_
  refine tz_iload_n (pc := 14) dX2_appliedPart_14 rfl rfl ?_
  refine tz_cV (pc := 15) (c_isVar hl n _ _ (by omega) (by omega)) vl_X2_36 dX2_appliedPart_15 o_6 rfl rfl (Nat.le_of_ble_eq_true rfl) ⟨(Nat.le_of_ble_eq_true rfl), (Nat.le_of_ble_eq_true rfl)⟩ rfl rfl (Nat.le_of_ble_eq_true rfl) (Nat.le_of_ble_eq_true rfl) (fun r9 J_15 hq9 => ?_)
  obtain ⟨z_15, rfl, hz_15, rfl, rfl⟩ := hq9
  by_cases hw_18 : J 7 t < 0
  · rw [show (if J 7 t < 0 then 1 else 0 : Int) = 1 from if_pos hw_18]
    refine tz_if_eqF (pc := 18) (tgt := 51) (by decide) dX2_appliedPart_18 (by decide) (by decide) ?_
    refine tz_aload_n (pc := 21) dX2_appliedPart_21 rfl rfl ?_
    refine tz_iload_n (pc := 22) dX2_appliedPart_22 rfl rfl ?_
    refine tz_aload_n (pc := 23) dX2_appliedPart_23 rfl rfl ?_
    refine tz_fR (pc := 24) dX2_appliedPart_24 fl_X2_28 r_141_0 ?_
    refine tz_fR (pc := 27) dX2_appliedPart_27 fl_X2_42 r_6_1 ?_
    refine tz_iload_n (pc := 30) dX2_appliedPart_30 rfl rfl ?_
    refine tz_aL (pc := 31) (z := t) (v := (J 7 t)) dX2_appliedPart_31 a_7 rfl (by omega) rfl (fun r_31 => ?_)
    refine tz_iconst (pc := 32) dX2_appliedPart_32 ?_
    refine tz_ixor (pc := 33) (v := -1 - J 7 t) dX2_appliedPart_33 (z_nn (by omega)) ?_
    refine tz_iadd (pc := 34) (v := 7 + (-1 - J 7 t)) dX2_appliedPart_34 rfl ?_
    have hv := hr (-1 - J 7 t) (by omega) (by omega)
    refine tz_aL (pc := 35) (z := (7 + (-1 - J 7 t))) (v := (J 19 (7 + (-1 - J 7 t)))) dX2_appliedPart_35 a_19 rfl (by omega) rfl (fun r_35 => ?_)
    refine tz_istore (pc := 36) (L2 := [_, _, _, _, _, _, _, _, _]) dX2_appliedPart_36 (by decide) rfl ?_
    refine tz_iload (pc := 38) dX2_appliedPart_38 rfl ?_
    refine tz_iconst (pc := 40) dX2_appliedPart_40 ?_
    refine tz_icmp_ne (pc := 41) (tgt := 48) dX2_appliedPart_41 (by decide) (by omega) (by decide) (fun h_41 => ?_) (fun h_41 => ?_)
    · refine tz_iload (pc := 48) dX2_appliedPart_48 rfl ?_
      exact tz_iret (pc := 50) (z := (J 19 (7 + (-1 - J 7 t)))) dX2_appliedPart_50 rfl (Nat.le_of_ble_eq_true rfl) (Nat.le_of_ble_eq_true rfl) ⟨Nat.le_refl _, Nat.le_add_right _ _⟩ ⟨_, rfl, (by omega), ⟨m, GR.rf C hm, Or.inr (by omega), fun S β hβ hG E => ap_v hG E hm ht (by omega) (by omega) (by have := hβ (-1 - J 7 t) (by omega) (by omega); rw [this]; omega)⟩⟩
    · refine tz_iload_n (pc := 44) dX2_appliedPart_44 rfl rfl ?_
      refine tz_goto (pc := 45) (tgt := 50) dX2_appliedPart_45 (by decide) ?_
      exact tz_iret (pc := 50) (z := t) dX2_appliedPart_50 rfl (Nat.le_of_ble_eq_true rfl) (Nat.le_of_ble_eq_true rfl) ⟨Nat.le_refl _, Nat.le_add_right _ _⟩ ⟨_, rfl, (by omega), ⟨m, GR.rf C hm, Or.inr (by omega), fun S β hβ hG E => ap_v hG E hm ht (by omega) (by omega) (by have := hβ (-1 - J 7 t) (by omega) (by omega); rw [this]; omega)⟩⟩
  · rw [show (if J 7 t < 0 then 1 else 0 : Int) = 0 from if_neg hw_18]
    refine tz_if_eqT (pc := 18) (tgt := 51) (by decide) dX2_appliedPart_18 (by decide) (by decide) ?_
    refine tz_aload_n (pc := 51) dX2_appliedPart_51 rfl rfl ?_
    refine tz_fR (pc := 52) dX2_appliedPart_52 fl_X2_28 r_141_0 ?_
    refine tz_fR (pc := 55) dX2_appliedPart_55 fl_X2_45 r_6_2 ?_
    refine tz_iload_n (pc := 58) dX2_appliedPart_58 rfl rfl ?_
    refine tz_aL (pc := 59) (z := t) (v := (J 8 t)) dX2_appliedPart_59 a_8 rfl (by omega) rfl (fun r_59 => ?_)
    refine tz_istore (pc := 60) (L2 := [_, _, _, _, _, _, _, _, _]) dX2_appliedPart_60 (by decide) rfl ?_
    refine tz_iload (pc := 62) dX2_appliedPart_62 rfl ?_
    refine tz_iconst (pc := 64) dX2_appliedPart_64 ?_
    refine tz_icmp_ge (pc := 65) (tgt := 72) dX2_appliedPart_65 (by decide) (by omega) (by decide) (fun h_65 => ?_) (fun h_65 => ?_)
    · refine tz_aload_n (pc := 72) dX2_appliedPart_72 rfl rfl ?_
      refine tz_aload_n (pc := 73) dX2_appliedPart_73 rfl rfl ?_
      refine tz_fR (pc := 74) dX2_appliedPart_74 fl_X2_28 r_141_0 ?_
      refine tz_iload_n (pc := 77) dX2_appliedPart_77 rfl rfl ?_
      refine tz_iconst (pc := 78) dX2_appliedPart_78 ?_
      refine tz_cV (pc := 79) (c_arg hl n _ _ _ (by omega) (by decide) (by omega)) vl_X2_48 dX2_appliedPart_79 o_6 rfl rfl (Nat.le_of_ble_eq_true rfl) ⟨(Nat.le_of_ble_eq_true rfl), (Nat.le_of_ble_eq_true rfl)⟩ rfl rfl (Nat.le_of_ble_eq_true rfl) (Nat.le_of_ble_eq_true rfl) (fun r9 J_79 hq9 => ?_)
      obtain ⟨z_79, rfl, hz_79, rfl, rfl⟩ := hq9
      refine tz_aload_n (pc := 82) dX2_appliedPart_82 rfl rfl ?_
      refine tz_iload_n (pc := 83) dX2_appliedPart_83 rfl rfl ?_
      refine tz_iload (pc := 84) dX2_appliedPart_84 rfl ?_
      refine tz_iconst (pc := 86) dX2_appliedPart_86 ?_
      refine tz_iadd (pc := 87) (v := 3) dX2_appliedPart_87 (by decide) ?_
      have b_88 := GR.arg (GR.rf C hm) C ht (i := 0) (by omega)
      have c_88 := ((GR.rf C hm)).1
      refine tz_cV (pc := 88) (x_app19_3 hl n _ _ (by omega) m ((GR.rf C hm)).2.1 ((GR.rf C hm)).2.2.1 (by omega) (GR.row (GR.rf C hm) rfl hr)) vl_X2_32 dX2_appliedPart_88 o_141 rfl rfl (Nat.le_of_ble_eq_true rfl) ⟨(Nat.le_of_ble_eq_true rfl), (Nat.le_of_ble_eq_true rfl)⟩ rfl rfl (Nat.le_of_ble_eq_true rfl) (Nat.le_of_ble_eq_true rfl) (fun r9 J_88 hq9 => ?_)
      obtain ⟨z_88, rfl, hz_88, m_88, g_88, hz_88, x_88⟩ := hq9
      have q_88 := GR.tr (GR.rf C hm) g_88
      have d_88 := q_88.1
      have e_88 := g_88.1
      have u_88 : J 19 = J 19 := ((GR.rf C hm)).2.2.2.2 19 rfl
      have k8_88 : J 8 t = J 8 t := (((GR.rf C hm)).2.2.2.1.1 t ht.1 ht.2).2.1
      refine tz_istore (pc := 91) (L2 := [_, _, _, _, _, _, _, _, _]) dX2_appliedPart_91 (by decide) rfl ?_
      refine tz_iload (pc := 93) dX2_appliedPart_93 rfl ?_
      refine tz_iconst (pc := 95) dX2_appliedPart_95 ?_
      refine tz_icmp_ge (pc := 96) (tgt := 103) dX2_appliedPart_96 (by decide) (by omega) (by decide) (fun h_96 => ?_) (fun h_96 => ?_)
      · refine tz_aload_n (pc := 103) dX2_appliedPart_103 rfl rfl ?_
        refine tz_aload_n (pc := 104) dX2_appliedPart_104 rfl rfl ?_
        refine tz_fR (pc := 105) dX2_appliedPart_105 fl_X2_28 r_141_0 ?_
        refine tz_iload_n (pc := 108) dX2_appliedPart_108 rfl rfl ?_
        refine tz_iconst (pc := 109) dX2_appliedPart_109 ?_
        refine tz_cV (pc := 110) (c_arg hl n _ _ _ (by omega) (by decide) (by omega)) vl_X2_48 dX2_appliedPart_110 o_6 rfl rfl (Nat.le_of_ble_eq_true rfl) ⟨(Nat.le_of_ble_eq_true rfl), (Nat.le_of_ble_eq_true rfl)⟩ rfl rfl (Nat.le_of_ble_eq_true rfl) (Nat.le_of_ble_eq_true rfl) (fun r9 J_110 hq9 => ?_)
        obtain ⟨z_110, rfl, hz_110, rfl, rfl⟩ := hq9
        refine tz_aload_n (pc := 113) dX2_appliedPart_113 rfl rfl ?_
        refine tz_iload_n (pc := 114) dX2_appliedPart_114 rfl rfl ?_
        refine tz_iload (pc := 115) dX2_appliedPart_115 rfl ?_
        refine tz_iconst (pc := 117) dX2_appliedPart_117 ?_
        refine tz_iadd (pc := 118) (v := 3) dX2_appliedPart_118 (by decide) ?_
        have b_119 := GR.arg q_88 C ht (i := 1) (by omega)
        have c_119 := (q_88).1
        refine tz_cV (pc := 119) (x_app19_3 hl n _ _ (by omega) m_88 (q_88).2.1 (q_88).2.2.1 (by omega) (GR.row q_88 rfl hr)) vl_X2_32 dX2_appliedPart_119 o_141 rfl rfl (Nat.le_of_ble_eq_true rfl) ⟨(Nat.le_of_ble_eq_true rfl), (Nat.le_of_ble_eq_true rfl)⟩ rfl rfl (Nat.le_of_ble_eq_true rfl) (Nat.le_of_ble_eq_true rfl) (fun r9 J_119 hq9 => ?_)
        obtain ⟨z_119, rfl, hz_119, m_119, g_119, hz_119, x_119⟩ := hq9
        have q_119 := GR.tr q_88 g_119
        have d_119 := q_119.1
        have e_119 := g_119.1
        have u_119 : J_88 19 = J 19 := (q_88).2.2.2.2 19 rfl
        have k8_119 : J_88 8 t = J 8 t := ((q_88).2.2.2.1.1 t ht.1 ht.2).2.1
        refine tz_istore (pc := 122) (L2 := [_, _, _, _, _, _, _, _, _]) dX2_appliedPart_122 (by decide) rfl ?_
        refine tz_iload (pc := 124) dX2_appliedPart_124 rfl ?_
        refine tz_iconst (pc := 126) dX2_appliedPart_126 ?_
        refine tz_icmp_ge (pc := 127) (tgt := 134) dX2_appliedPart_127 (by decide) (by omega) (by decide) (fun h_127 => ?_) (fun h_127 => ?_)
        · refine tz_aload_n (pc := 134) dX2_appliedPart_134 rfl rfl ?_
          refine tz_aload_n (pc := 135) dX2_appliedPart_135 rfl rfl ?_
          refine tz_fR (pc := 136) dX2_appliedPart_136 fl_X2_28 r_141_0 ?_
          refine tz_iload_n (pc := 139) dX2_appliedPart_139 rfl rfl ?_
          refine tz_iconst (pc := 140) dX2_appliedPart_140 ?_
          refine tz_cV (pc := 141) (c_arg hl n _ _ _ (by omega) (by decide) (by omega)) vl_X2_48 dX2_appliedPart_141 o_6 rfl rfl (Nat.le_of_ble_eq_true rfl) ⟨(Nat.le_of_ble_eq_true rfl), (Nat.le_of_ble_eq_true rfl)⟩ rfl rfl (Nat.le_of_ble_eq_true rfl) (Nat.le_of_ble_eq_true rfl) (fun r9 J_141 hq9 => ?_)
          obtain ⟨z_141, rfl, hz_141, rfl, rfl⟩ := hq9
          refine tz_aload_n (pc := 144) dX2_appliedPart_144 rfl rfl ?_
          refine tz_iload_n (pc := 145) dX2_appliedPart_145 rfl rfl ?_
          refine tz_iload (pc := 146) dX2_appliedPart_146 rfl ?_
          refine tz_iconst (pc := 148) dX2_appliedPart_148 ?_
          refine tz_iadd (pc := 149) (v := 3) dX2_appliedPart_149 (by decide) ?_
          have b_150 := GR.arg q_119 C ht (i := 2) (by omega)
          have c_150 := (q_119).1
          refine tz_cV (pc := 150) (x_app19_3 hl n _ _ (by omega) m_119 (q_119).2.1 (q_119).2.2.1 (by omega) (GR.row q_119 rfl hr)) vl_X2_32 dX2_appliedPart_150 o_141 rfl rfl (Nat.le_of_ble_eq_true rfl) ⟨(Nat.le_of_ble_eq_true rfl), (Nat.le_of_ble_eq_true rfl)⟩ rfl rfl (Nat.le_of_ble_eq_true rfl) (Nat.le_of_ble_eq_true rfl) (fun r9 J_150 hq9 => ?_)
          obtain ⟨z_150, rfl, hz_150, m_150, g_150, hz_150, x_150⟩ := hq9
          have q_150 := GR.tr q_119 g_150
          have d_150 := q_150.1
          have e_150 := g_150.1
          have u_150 : J_119 19 = J 19 := (q_119).2.2.2.2 19 rfl
          have k8_150 : J_119 8 t = J 8 t := ((q_119).2.2.2.1.1 t ht.1 ht.2).2.1
          refine tz_istore (pc := 153) (L2 := [_, _, _, _, _, _, _, _, _]) dX2_appliedPart_153 (by decide) rfl ?_
          refine tz_aload_n (pc := 155) dX2_appliedPart_155 rfl rfl ?_
          refine tz_fR (pc := 156) dX2_appliedPart_156 fl_X2_28 r_141_0 ?_
          refine tz_aload_n (pc := 159) dX2_appliedPart_159 rfl rfl ?_
          refine tz_fR (pc := 160) dX2_appliedPart_160 fl_X2_28 r_141_0 ?_
          refine tz_fR (pc := 163) dX2_appliedPart_163 fl_X2_42 r_6_1 ?_
          refine tz_iload_n (pc := 166) dX2_appliedPart_166 rfl rfl ?_
          refine tz_aL (pc := 167) (z := t) (v := (J_150 7 t)) dX2_appliedPart_167 a_7 rfl (by omega) rfl (fun r_167 => ?_)
          refine tz_iload (pc := 168) dX2_appliedPart_168 rfl ?_
          refine tz_iload (pc := 170) dX2_appliedPart_170 rfl ?_
          refine tz_iload (pc := 172) dX2_appliedPart_172 rfl ?_
          refine tz_cV (pc := 174) (c_made hl n _ _ _ _ _ (by omega) (by omega) (by omega) (by omega) m_150 (q_150).2.1 (q_150).2.2.1 (by have := (q_150).2.1.ar (t := t) (by omega) (by have := (q_150).1; omega); omega) (ltA_of (by omega) (by omega) (by omega))) vl_X2_52 dX2_appliedPart_174 o_6 rfl rfl (Nat.le_of_ble_eq_true rfl) ⟨(Nat.le_of_ble_eq_true rfl), (Nat.le_of_ble_eq_true rfl)⟩ rfl rfl (Nat.le_of_ble_eq_true rfl) (Nat.le_of_ble_eq_true rfl) (fun r9 J_174 hq9 => ?_)
          obtain ⟨z_174, rfl, hz_174, p_9⟩ := hq9
          obtain ⟨m9, g9, h9⟩ := GR.made p_9 (by omega)
          have q9 := GR.tr q_150 g9
          exact tz_iret (pc := 177) (z := z_174) dX2_appliedPart_177 rfl (Nat.le_of_ble_eq_true rfl) (Nat.le_of_ble_eq_true rfl) ⟨Nat.le_refl _, Nat.le_add_right _ _⟩ ⟨_, rfl, (by omega), ⟨m9, q9, h9, fun S β hβ hG E => ap_c hG E hm ht (by omega) (ap_end (fun S t h => apO_f h) hG E C hm ht (Or.inl ⟨by omega, g_88, hz_88, fun S9 h9 E9 => x_88 S9 β (fun v a c => by rw [u_88]; exact hβ v a c) h9 E9⟩) (Or.inl ⟨by omega, g_119, hz_119, fun S9 h9 E9 => x_119 S9 β (fun v a c => by rw [u_119]; exact hβ v a c) h9 E9⟩) (Or.inl ⟨by omega, g_150, hz_150, fun S9 h9 E9 => x_150 S9 β (fun v a c => by rw [u_150]; exact hβ v a c) h9 E9⟩) (by rw [show J 7 t = J_150 7 t from (((q_150).2.2.2.1.1 t ht.1 ht.2).1).symm]; exact p_9))⟩⟩
        · refine tz_iconst (pc := 130) dX2_appliedPart_130 ?_
          refine tz_goto (pc := 131) (tgt := 153) dX2_appliedPart_131 (by decide) ?_
          refine tz_istore (pc := 153) (L2 := [_, _, _, _, _, _, _, _, _]) dX2_appliedPart_153 (by decide) rfl ?_
          refine tz_aload_n (pc := 155) dX2_appliedPart_155 rfl rfl ?_
          refine tz_fR (pc := 156) dX2_appliedPart_156 fl_X2_28 r_141_0 ?_
          refine tz_aload_n (pc := 159) dX2_appliedPart_159 rfl rfl ?_
          refine tz_fR (pc := 160) dX2_appliedPart_160 fl_X2_28 r_141_0 ?_
          refine tz_fR (pc := 163) dX2_appliedPart_163 fl_X2_42 r_6_1 ?_
          refine tz_iload_n (pc := 166) dX2_appliedPart_166 rfl rfl ?_
          refine tz_aL (pc := 167) (z := t) (v := (J_119 7 t)) dX2_appliedPart_167 a_7 rfl (by omega) rfl (fun r_167 => ?_)
          refine tz_iload (pc := 168) dX2_appliedPart_168 rfl ?_
          refine tz_iload (pc := 170) dX2_appliedPart_170 rfl ?_
          refine tz_iload (pc := 172) dX2_appliedPart_172 rfl ?_
          refine tz_cV (pc := 174) (c_made hl n _ _ _ _ _ (by omega) (by omega) (by omega) (by omega) m_119 (q_119).2.1 (q_119).2.2.1 (by have := (q_119).2.1.ar (t := t) (by omega) (by have := (q_119).1; omega); omega) (ltA_of (by omega) (by omega) (by omega))) vl_X2_52 dX2_appliedPart_174 o_6 rfl rfl (Nat.le_of_ble_eq_true rfl) ⟨(Nat.le_of_ble_eq_true rfl), (Nat.le_of_ble_eq_true rfl)⟩ rfl rfl (Nat.le_of_ble_eq_true rfl) (Nat.le_of_ble_eq_true rfl) (fun r9 J_174 hq9 => ?_)
          obtain ⟨z_174, rfl, hz_174, p_9⟩ := hq9
          obtain ⟨m9, g9, h9⟩ := GR.made p_9 (by omega)
          have q9 := GR.tr q_119 g9
          exact tz_iret (pc := 177) (z := z_174) dX2_appliedPart_177 rfl (Nat.le_of_ble_eq_true rfl) (Nat.le_of_ble_eq_true rfl) ⟨Nat.le_refl _, Nat.le_add_right _ _⟩ ⟨_, rfl, (by omega), ⟨m9, q9, h9, fun S β hβ hG E => ap_c hG E hm ht (by omega) (ap_end (fun S t h => apO_f h) hG E C hm ht (Or.inl ⟨by omega, g_88, hz_88, fun S9 h9 E9 => x_88 S9 β (fun v a c => by rw [u_88]; exact hβ v a c) h9 E9⟩) (Or.inl ⟨by omega, g_119, hz_119, fun S9 h9 E9 => x_119 S9 β (fun v a c => by rw [u_119]; exact hβ v a c) h9 E9⟩) (Or.inr ⟨by rw [show J_119 8 t = J 8 t from ((q_119).2.2.2.1.1 t ht.1 ht.2).2.1]; omega, rfl, rfl⟩) (by rw [show J 7 t = J_119 7 t from (((q_119).2.2.2.1.1 t ht.1 ht.2).1).symm]; exact p_9))⟩⟩
      · refine tz_iconst (pc := 99) dX2_appliedPart_99 ?_
        refine tz_goto (pc := 100) (tgt := 122) dX2_appliedPart_100 (by decide) ?_
        refine tz_istore (pc := 122) (L2 := [_, _, _, _, _, _, _, _, _]) dX2_appliedPart_122 (by decide) rfl ?_
        refine tz_iload (pc := 124) dX2_appliedPart_124 rfl ?_
        refine tz_iconst (pc := 126) dX2_appliedPart_126 ?_
        refine tz_icmp_ge (pc := 127) (tgt := 134) dX2_appliedPart_127 (by decide) (by omega) (by decide) (fun h_127 => ?_) (fun h_127 => ?_)
        · refine tz_aload_n (pc := 134) dX2_appliedPart_134 rfl rfl ?_
          refine tz_aload_n (pc := 135) dX2_appliedPart_135 rfl rfl ?_
          refine tz_fR (pc := 136) dX2_appliedPart_136 fl_X2_28 r_141_0 ?_
          refine tz_iload_n (pc := 139) dX2_appliedPart_139 rfl rfl ?_
          refine tz_iconst (pc := 140) dX2_appliedPart_140 ?_
          refine tz_cV (pc := 141) (c_arg hl n _ _ _ (by omega) (by decide) (by omega)) vl_X2_48 dX2_appliedPart_141 o_6 rfl rfl (Nat.le_of_ble_eq_true rfl) ⟨(Nat.le_of_ble_eq_true rfl), (Nat.le_of_ble_eq_true rfl)⟩ rfl rfl (Nat.le_of_ble_eq_true rfl) (Nat.le_of_ble_eq_true rfl) (fun r9 J_141 hq9 => ?_)
          obtain ⟨z_141, rfl, hz_141, rfl, rfl⟩ := hq9
          refine tz_aload_n (pc := 144) dX2_appliedPart_144 rfl rfl ?_
          refine tz_iload_n (pc := 145) dX2_appliedPart_145 rfl rfl ?_
          refine tz_iload (pc := 146) dX2_appliedPart_146 rfl ?_
          refine tz_iconst (pc := 148) dX2_appliedPart_148 ?_
          refine tz_iadd (pc := 149) (v := 3) dX2_appliedPart_149 (by decide) ?_
          have b_150 := GR.arg q_88 C ht (i := 2) (by omega)
          have c_150 := (q_88).1
          refine tz_cV (pc := 150) (x_app19_3 hl n _ _ (by omega) m_88 (q_88).2.1 (q_88).2.2.1 (by omega) (GR.row q_88 rfl hr)) vl_X2_32 dX2_appliedPart_150 o_141 rfl rfl (Nat.le_of_ble_eq_true rfl) ⟨(Nat.le_of_ble_eq_true rfl), (Nat.le_of_ble_eq_true rfl)⟩ rfl rfl (Nat.le_of_ble_eq_true rfl) (Nat.le_of_ble_eq_true rfl) (fun r9 J_150 hq9 => ?_)
          obtain ⟨z_150, rfl, hz_150, m_150, g_150, hz_150, x_150⟩ := hq9
          have q_150 := GR.tr q_88 g_150
          have d_150 := q_150.1
          have e_150 := g_150.1
          have u_150 : J_88 19 = J 19 := (q_88).2.2.2.2 19 rfl
          have k8_150 : J_88 8 t = J 8 t := ((q_88).2.2.2.1.1 t ht.1 ht.2).2.1
          refine tz_istore (pc := 153) (L2 := [_, _, _, _, _, _, _, _, _]) dX2_appliedPart_153 (by decide) rfl ?_
          refine tz_aload_n (pc := 155) dX2_appliedPart_155 rfl rfl ?_
          refine tz_fR (pc := 156) dX2_appliedPart_156 fl_X2_28 r_141_0 ?_
          refine tz_aload_n (pc := 159) dX2_appliedPart_159 rfl rfl ?_
          refine tz_fR (pc := 160) dX2_appliedPart_160 fl_X2_28 r_141_0 ?_
          refine tz_fR (pc := 163) dX2_appliedPart_163 fl_X2_42 r_6_1 ?_
          refine tz_iload_n (pc := 166) dX2_appliedPart_166 rfl rfl ?_
          refine tz_aL (pc := 167) (z := t) (v := (J_150 7 t)) dX2_appliedPart_167 a_7 rfl (by omega) rfl (fun r_167 => ?_)
          refine tz_iload (pc := 168) dX2_appliedPart_168 rfl ?_
          refine tz_iload (pc := 170) dX2_appliedPart_170 rfl ?_
          refine tz_iload (pc := 172) dX2_appliedPart_172 rfl ?_
          refine tz_cV (pc := 174) (c_made hl n _ _ _ _ _ (by omega) (by omega) (by omega) (by omega) m_150 (q_150).2.1 (q_150).2.2.1 (by have := (q_150).2.1.ar (t := t) (by omega) (by have := (q_150).1; omega); omega) (ltA_of (by omega) (by omega) (by omega))) vl_X2_52 dX2_appliedPart_174 o_6 rfl rfl (Nat.le_of_ble_eq_true rfl) ⟨(Nat.le_of_ble_eq_true rfl), (Nat.le_of_ble_eq_true rfl)⟩ rfl rfl (Nat.le_of_ble_eq_true rfl) (Nat.le_of_ble_eq_true rfl) (fun r9 J_174 hq9 => ?_)
          obtain ⟨z_174, rfl, hz_174, p_9⟩ := hq9
          obtain ⟨m9, g9, h9⟩ := GR.made p_9 (by omega)
          have q9 := GR.tr q_150 g9
          exact tz_iret (pc := 177) (z := z_174) dX2_appliedPart_177 rfl (Nat.le_of_ble_eq_true rfl) (Nat.le_of_ble_eq_true rfl) ⟨Nat.le_refl _, Nat.le_add_right _ _⟩ ⟨_, rfl, (by omega), ⟨m9, q9, h9, fun S β hβ hG E => ap_c hG E hm ht (by omega) (ap_end (fun S t h => apO_f h) hG E C hm ht (Or.inl ⟨by omega, g_88, hz_88, fun S9 h9 E9 => x_88 S9 β (fun v a c => by rw [u_88]; exact hβ v a c) h9 E9⟩) (Or.inr ⟨by rw [show J_88 8 t = J 8 t from ((q_88).2.2.2.1.1 t ht.1 ht.2).2.1]; omega, rfl, rfl⟩) (Or.inl ⟨by omega, g_150, hz_150, fun S9 h9 E9 => x_150 S9 β (fun v a c => by rw [u_150]; exact hβ v a c) h9 E9⟩) (by rw [show J 7 t = J_150 7 t from (((q_150).2.2.2.1.1 t ht.1 ht.2).1).symm]; exact p_9))⟩⟩
        · refine tz_iconst (pc := 130) dX2_appliedPart_130 ?_
          refine tz_goto (pc := 131) (tgt := 153) dX2_appliedPart_131 (by decide) ?_
          refine tz_istore (pc := 153) (L2 := [_, _, _, _, _, _, _, _, _]) dX2_appliedPart_153 (by decide) rfl ?_
          refine tz_aload_n (pc := 155) dX2_appliedPart_155 rfl rfl ?_
          refine tz_fR (pc := 156) dX2_appliedPart_156 fl_X2_28 r_141_0 ?_
          refine tz_aload_n (pc := 159) dX2_appliedPart_159 rfl rfl ?_
          refine tz_fR (pc := 160) dX2_appliedPart_160 fl_X2_28 r_141_0 ?_
          refine tz_fR (pc := 163) dX2_appliedPart_163 fl_X2_42 r_6_1 ?_
          refine tz_iload_n (pc := 166) dX2_appliedPart_166 rfl rfl ?_
          refine tz_aL (pc := 167) (z := t) (v := (J_88 7 t)) dX2_appliedPart_167 a_7 rfl (by omega) rfl (fun r_167 => ?_)
          refine tz_iload (pc := 168) dX2_appliedPart_168 rfl ?_
          refine tz_iload (pc := 170) dX2_appliedPart_170 rfl ?_
          refine tz_iload (pc := 172) dX2_appliedPart_172 rfl ?_
          refine tz_cV (pc := 174) (c_made hl n _ _ _ _ _ (by omega) (by omega) (by omega) (by omega) m_88 (q_88).2.1 (q_88).2.2.1 (by have := (q_88).2.1.ar (t := t) (by omega) (by have := (q_88).1; omega); omega) (ltA_of (by omega) (by omega) (by omega))) vl_X2_52 dX2_appliedPart_174 o_6 rfl rfl (Nat.le_of_ble_eq_true rfl) ⟨(Nat.le_of_ble_eq_true rfl), (Nat.le_of_ble_eq_true rfl)⟩ rfl rfl (Nat.le_of_ble_eq_true rfl) (Nat.le_of_ble_eq_true rfl) (fun r9 J_174 hq9 => ?_)
          obtain ⟨z_174, rfl, hz_174, p_9⟩ := hq9
          obtain ⟨m9, g9, h9⟩ := GR.made p_9 (by omega)
          have q9 := GR.tr q_88 g9
          exact tz_iret (pc := 177) (z := z_174) dX2_appliedPart_177 rfl (Nat.le_of_ble_eq_true rfl) (Nat.le_of_ble_eq_true rfl) ⟨Nat.le_refl _, Nat.le_add_right _ _⟩ ⟨_, rfl, (by omega), ⟨m9, q9, h9, fun S β hβ hG E => ap_c hG E hm ht (by omega) (ap_end (fun S t h => apO_f h) hG E C hm ht (Or.inl ⟨by omega, g_88, hz_88, fun S9 h9 E9 => x_88 S9 β (fun v a c => by rw [u_88]; exact hβ v a c) h9 E9⟩) (Or.inr ⟨by rw [show J_88 8 t = J 8 t from ((q_88).2.2.2.1.1 t ht.1 ht.2).2.1]; omega, rfl, rfl⟩) (Or.inr ⟨by rw [show J_88 8 t = J 8 t from ((q_88).2.2.2.1.1 t ht.1 ht.2).2.1]; omega, rfl, rfl⟩) (by rw [show J 7 t = J_88 7 t from (((q_88).2.2.2.1.1 t ht.1 ht.2).1).symm]; exact p_9))⟩⟩
    · refine tz_iconst (pc := 68) dX2_appliedPart_68 ?_
      refine tz_goto (pc := 69) (tgt := 91) dX2_appliedPart_69 (by decide) ?_
      refine tz_istore (pc := 91) (L2 := [_, _, _, _, _, _, _, _, _]) dX2_appliedPart_91 (by decide) rfl ?_
      refine tz_iload (pc := 93) dX2_appliedPart_93 rfl ?_
      refine tz_iconst (pc := 95) dX2_appliedPart_95 ?_
      refine tz_icmp_ge (pc := 96) (tgt := 103) dX2_appliedPart_96 (by decide) (by omega) (by decide) (fun h_96 => ?_) (fun h_96 => ?_)
      · refine tz_aload_n (pc := 103) dX2_appliedPart_103 rfl rfl ?_
        refine tz_aload_n (pc := 104) dX2_appliedPart_104 rfl rfl ?_
        refine tz_fR (pc := 105) dX2_appliedPart_105 fl_X2_28 r_141_0 ?_
        refine tz_iload_n (pc := 108) dX2_appliedPart_108 rfl rfl ?_
        refine tz_iconst (pc := 109) dX2_appliedPart_109 ?_
        refine tz_cV (pc := 110) (c_arg hl n _ _ _ (by omega) (by decide) (by omega)) vl_X2_48 dX2_appliedPart_110 o_6 rfl rfl (Nat.le_of_ble_eq_true rfl) ⟨(Nat.le_of_ble_eq_true rfl), (Nat.le_of_ble_eq_true rfl)⟩ rfl rfl (Nat.le_of_ble_eq_true rfl) (Nat.le_of_ble_eq_true rfl) (fun r9 J_110 hq9 => ?_)
        obtain ⟨z_110, rfl, hz_110, rfl, rfl⟩ := hq9
        refine tz_aload_n (pc := 113) dX2_appliedPart_113 rfl rfl ?_
        refine tz_iload_n (pc := 114) dX2_appliedPart_114 rfl rfl ?_
        refine tz_iload (pc := 115) dX2_appliedPart_115 rfl ?_
        refine tz_iconst (pc := 117) dX2_appliedPart_117 ?_
        refine tz_iadd (pc := 118) (v := 3) dX2_appliedPart_118 (by decide) ?_
        have b_119 := GR.arg (GR.rf C hm) C ht (i := 1) (by omega)
        have c_119 := ((GR.rf C hm)).1
        refine tz_cV (pc := 119) (x_app19_3 hl n _ _ (by omega) m ((GR.rf C hm)).2.1 ((GR.rf C hm)).2.2.1 (by omega) (GR.row (GR.rf C hm) rfl hr)) vl_X2_32 dX2_appliedPart_119 o_141 rfl rfl (Nat.le_of_ble_eq_true rfl) ⟨(Nat.le_of_ble_eq_true rfl), (Nat.le_of_ble_eq_true rfl)⟩ rfl rfl (Nat.le_of_ble_eq_true rfl) (Nat.le_of_ble_eq_true rfl) (fun r9 J_119 hq9 => ?_)
        obtain ⟨z_119, rfl, hz_119, m_119, g_119, hz_119, x_119⟩ := hq9
        have q_119 := GR.tr (GR.rf C hm) g_119
        have d_119 := q_119.1
        have e_119 := g_119.1
        have u_119 : J 19 = J 19 := ((GR.rf C hm)).2.2.2.2 19 rfl
        have k8_119 : J 8 t = J 8 t := (((GR.rf C hm)).2.2.2.1.1 t ht.1 ht.2).2.1
        refine tz_istore (pc := 122) (L2 := [_, _, _, _, _, _, _, _, _]) dX2_appliedPart_122 (by decide) rfl ?_
        refine tz_iload (pc := 124) dX2_appliedPart_124 rfl ?_
        refine tz_iconst (pc := 126) dX2_appliedPart_126 ?_
        refine tz_icmp_ge (pc := 127) (tgt := 134) dX2_appliedPart_127 (by decide) (by omega) (by decide) (fun h_127 => ?_) (fun h_127 => ?_)
        · refine tz_aload_n (pc := 134) dX2_appliedPart_134 rfl rfl ?_
          refine tz_aload_n (pc := 135) dX2_appliedPart_135 rfl rfl ?_
          refine tz_fR (pc := 136) dX2_appliedPart_136 fl_X2_28 r_141_0 ?_
          refine tz_iload_n (pc := 139) dX2_appliedPart_139 rfl rfl ?_
          refine tz_iconst (pc := 140) dX2_appliedPart_140 ?_
          refine tz_cV (pc := 141) (c_arg hl n _ _ _ (by omega) (by decide) (by omega)) vl_X2_48 dX2_appliedPart_141 o_6 rfl rfl (Nat.le_of_ble_eq_true rfl) ⟨(Nat.le_of_ble_eq_true rfl), (Nat.le_of_ble_eq_true rfl)⟩ rfl rfl (Nat.le_of_ble_eq_true rfl) (Nat.le_of_ble_eq_true rfl) (fun r9 J_141 hq9 => ?_)
          obtain ⟨z_141, rfl, hz_141, rfl, rfl⟩ := hq9
          refine tz_aload_n (pc := 144) dX2_appliedPart_144 rfl rfl ?_
          refine tz_iload_n (pc := 145) dX2_appliedPart_145 rfl rfl ?_
          refine tz_iload (pc := 146) dX2_appliedPart_146 rfl ?_
          refine tz_iconst (pc := 148) dX2_appliedPart_148 ?_
          refine tz_iadd (pc := 149) (v := 3) dX2_appliedPart_149 (by decide) ?_
          have b_150 := GR.arg q_119 C ht (i := 2) (by omega)
          have c_150 := (q_119).1
          refine tz_cV (pc := 150) (x_app19_3 hl n _ _ (by omega) m_119 (q_119).2.1 (q_119).2.2.1 (by omega) (GR.row q_119 rfl hr)) vl_X2_32 dX2_appliedPart_150 o_141 rfl rfl (Nat.le_of_ble_eq_true rfl) ⟨(Nat.le_of_ble_eq_true rfl), (Nat.le_of_ble_eq_true rfl)⟩ rfl rfl (Nat.le_of_ble_eq_true rfl) (Nat.le_of_ble_eq_true rfl) (fun r9 J_150 hq9 => ?_)
          obtain ⟨z_150, rfl, hz_150, m_150, g_150, hz_150, x_150⟩ := hq9
          have q_150 := GR.tr q_119 g_150
          have d_150 := q_150.1
          have e_150 := g_150.1
          have u_150 : J_119 19 = J 19 := (q_119).2.2.2.2 19 rfl
          have k8_150 : J_119 8 t = J 8 t := ((q_119).2.2.2.1.1 t ht.1 ht.2).2.1
          refine tz_istore (pc := 153) (L2 := [_, _, _, _, _, _, _, _, _]) dX2_appliedPart_153 (by decide) rfl ?_
          refine tz_aload_n (pc := 155) dX2_appliedPart_155 rfl rfl ?_
          refine tz_fR (pc := 156) dX2_appliedPart_156 fl_X2_28 r_141_0 ?_
          refine tz_aload_n (pc := 159) dX2_appliedPart_159 rfl rfl ?_
          refine tz_fR (pc := 160) dX2_appliedPart_160 fl_X2_28 r_141_0 ?_
          refine tz_fR (pc := 163) dX2_appliedPart_163 fl_X2_42 r_6_1 ?_
          refine tz_iload_n (pc := 166) dX2_appliedPart_166 rfl rfl ?_
          refine tz_aL (pc := 167) (z := t) (v := (J_150 7 t)) dX2_appliedPart_167 a_7 rfl (by omega) rfl (fun r_167 => ?_)
          refine tz_iload (pc := 168) dX2_appliedPart_168 rfl ?_
          refine tz_iload (pc := 170) dX2_appliedPart_170 rfl ?_
          refine tz_iload (pc := 172) dX2_appliedPart_172 rfl ?_
          refine tz_cV (pc := 174) (c_made hl n _ _ _ _ _ (by omega) (by omega) (by omega) (by omega) m_150 (q_150).2.1 (q_150).2.2.1 (by have := (q_150).2.1.ar (t := t) (by omega) (by have := (q_150).1; omega); omega) (ltA_of (by omega) (by omega) (by omega))) vl_X2_52 dX2_appliedPart_174 o_6 rfl rfl (Nat.le_of_ble_eq_true rfl) ⟨(Nat.le_of_ble_eq_true rfl), (Nat.le_of_ble_eq_true rfl)⟩ rfl rfl (Nat.le_of_ble_eq_true rfl) (Nat.le_of_ble_eq_true rfl) (fun r9 J_174 hq9 => ?_)
          obtain ⟨z_174, rfl, hz_174, p_9⟩ := hq9
          obtain ⟨m9, g9, h9⟩ := GR.made p_9 (by omega)
          have q9 := GR.tr q_150 g9
          exact tz_iret (pc := 177) (z := z_174) dX2_appliedPart_177 rfl (Nat.le_of_ble_eq_true rfl) (Nat.le_of_ble_eq_true rfl) ⟨Nat.le_refl _, Nat.le_add_right _ _⟩ ⟨_, rfl, (by omega), ⟨m9, q9, h9, fun S β hβ hG E => ap_c hG E hm ht (by omega) (ap_end (fun S t h => apO_f h) hG E C hm ht (Or.inr ⟨by rw [show J 8 t = J 8 t from rfl]; omega, rfl, rfl⟩) (Or.inl ⟨by omega, g_119, hz_119, fun S9 h9 E9 => x_119 S9 β (fun v a c => by rw [u_119]; exact hβ v a c) h9 E9⟩) (Or.inl ⟨by omega, g_150, hz_150, fun S9 h9 E9 => x_150 S9 β (fun v a c => by rw [u_150]; exact hβ v a c) h9 E9⟩) (by rw [show J 7 t = J_150 7 t from (((q_150).2.2.2.1.1 t ht.1 ht.2).1).symm]; exact p_9))⟩⟩
        · refine tz_iconst (pc := 130) dX2_appliedPart_130 ?_
          refine tz_goto (pc := 131) (tgt := 153) dX2_appliedPart_131 (by decide) ?_
          refine tz_istore (pc := 153) (L2 := [_, _, _, _, _, _, _, _, _]) dX2_appliedPart_153 (by decide) rfl ?_
          refine tz_aload_n (pc := 155) dX2_appliedPart_155 rfl rfl ?_
          refine tz_fR (pc := 156) dX2_appliedPart_156 fl_X2_28 r_141_0 ?_
          refine tz_aload_n (pc := 159) dX2_appliedPart_159 rfl rfl ?_
          refine tz_fR (pc := 160) dX2_appliedPart_160 fl_X2_28 r_141_0 ?_
          refine tz_fR (pc := 163) dX2_appliedPart_163 fl_X2_42 r_6_1 ?_
          refine tz_iload_n (pc := 166) dX2_appliedPart_166 rfl rfl ?_
          refine tz_aL (pc := 167) (z := t) (v := (J_119 7 t)) dX2_appliedPart_167 a_7 rfl (by omega) rfl (fun r_167 => ?_)
          refine tz_iload (pc := 168) dX2_appliedPart_168 rfl ?_
          refine tz_iload (pc := 170) dX2_appliedPart_170 rfl ?_
          refine tz_iload (pc := 172) dX2_appliedPart_172 rfl ?_
          refine tz_cV (pc := 174) (c_made hl n _ _ _ _ _ (by omega) (by omega) (by omega) (by omega) m_119 (q_119).2.1 (q_119).2.2.1 (by have := (q_119).2.1.ar (t := t) (by omega) (by have := (q_119).1; omega); omega) (ltA_of (by omega) (by omega) (by omega))) vl_X2_52 dX2_appliedPart_174 o_6 rfl rfl (Nat.le_of_ble_eq_true rfl) ⟨(Nat.le_of_ble_eq_true rfl), (Nat.le_of_ble_eq_true rfl)⟩ rfl rfl (Nat.le_of_ble_eq_true rfl) (Nat.le_of_ble_eq_true rfl) (fun r9 J_174 hq9 => ?_)
          obtain ⟨z_174, rfl, hz_174, p_9⟩ := hq9
          obtain ⟨m9, g9, h9⟩ := GR.made p_9 (by omega)
          have q9 := GR.tr q_119 g9
          exact tz_iret (pc := 177) (z := z_174) dX2_appliedPart_177 rfl (Nat.le_of_ble_eq_true rfl) (Nat.le_of_ble_eq_true rfl) ⟨Nat.le_refl _, Nat.le_add_right _ _⟩ ⟨_, rfl, (by omega), ⟨m9, q9, h9, fun S β hβ hG E => ap_c hG E hm ht (by omega) (ap_end (fun S t h => apO_f h) hG E C hm ht (Or.inr ⟨by rw [show J 8 t = J 8 t from rfl]; omega, rfl, rfl⟩) (Or.inl ⟨by omega, g_119, hz_119, fun S9 h9 E9 => x_119 S9 β (fun v a c => by rw [u_119]; exact hβ v a c) h9 E9⟩) (Or.inr ⟨by rw [show J_119 8 t = J 8 t from ((q_119).2.2.2.1.1 t ht.1 ht.2).2.1]; omega, rfl, rfl⟩) (by rw [show J 7 t = J_119 7 t from (((q_119).2.2.2.1.1 t ht.1 ht.2).1).symm]; exact p_9))⟩⟩
      · refine tz_iconst (pc := 99) dX2_appliedPart_99 ?_
        refine tz_goto (pc := 100) (tgt := 122) dX2_appliedPart_100 (by decide) ?_
        refine tz_istore (pc := 122) (L2 := [_, _, _, _, _, _, _, _, _]) dX2_appliedPart_122 (by decide) rfl ?_
        refine tz_iload (pc := 124) dX2_appliedPart_124 rfl ?_
        refine tz_iconst (pc := 126) dX2_appliedPart_126 ?_
        refine tz_icmp_ge (pc := 127) (tgt := 134) dX2_appliedPart_127 (by decide) (by omega) (by decide) (fun h_127 => ?_) (fun h_127 => ?_)
        · refine tz_aload_n (pc := 134) dX2_appliedPart_134 rfl rfl ?_
          refine tz_aload_n (pc := 135) dX2_appliedPart_135 rfl rfl ?_
          refine tz_fR (pc := 136) dX2_appliedPart_136 fl_X2_28 r_141_0 ?_
          refine tz_iload_n (pc := 139) dX2_appliedPart_139 rfl rfl ?_
          refine tz_iconst (pc := 140) dX2_appliedPart_140 ?_
          refine tz_cV (pc := 141) (c_arg hl n _ _ _ (by omega) (by decide) (by omega)) vl_X2_48 dX2_appliedPart_141 o_6 rfl rfl (Nat.le_of_ble_eq_true rfl) ⟨(Nat.le_of_ble_eq_true rfl), (Nat.le_of_ble_eq_true rfl)⟩ rfl rfl (Nat.le_of_ble_eq_true rfl) (Nat.le_of_ble_eq_true rfl) (fun r9 J_141 hq9 => ?_)
          obtain ⟨z_141, rfl, hz_141, rfl, rfl⟩ := hq9
          refine tz_aload_n (pc := 144) dX2_appliedPart_144 rfl rfl ?_
          refine tz_iload_n (pc := 145) dX2_appliedPart_145 rfl rfl ?_
          refine tz_iload (pc := 146) dX2_appliedPart_146 rfl ?_
          refine tz_iconst (pc := 148) dX2_appliedPart_148 ?_
          refine tz_iadd (pc := 149) (v := 3) dX2_appliedPart_149 (by decide) ?_
          have b_150 := GR.arg (GR.rf C hm) C ht (i := 2) (by omega)
          have c_150 := ((GR.rf C hm)).1
          refine tz_cV (pc := 150) (x_app19_3 hl n _ _ (by omega) m ((GR.rf C hm)).2.1 ((GR.rf C hm)).2.2.1 (by omega) (GR.row (GR.rf C hm) rfl hr)) vl_X2_32 dX2_appliedPart_150 o_141 rfl rfl (Nat.le_of_ble_eq_true rfl) ⟨(Nat.le_of_ble_eq_true rfl), (Nat.le_of_ble_eq_true rfl)⟩ rfl rfl (Nat.le_of_ble_eq_true rfl) (Nat.le_of_ble_eq_true rfl) (fun r9 J_150 hq9 => ?_)
          obtain ⟨z_150, rfl, hz_150, m_150, g_150, hz_150, x_150⟩ := hq9
          have q_150 := GR.tr (GR.rf C hm) g_150
          have d_150 := q_150.1
          have e_150 := g_150.1
          have u_150 : J 19 = J 19 := ((GR.rf C hm)).2.2.2.2 19 rfl
          have k8_150 : J 8 t = J 8 t := (((GR.rf C hm)).2.2.2.1.1 t ht.1 ht.2).2.1
          refine tz_istore (pc := 153) (L2 := [_, _, _, _, _, _, _, _, _]) dX2_appliedPart_153 (by decide) rfl ?_
          refine tz_aload_n (pc := 155) dX2_appliedPart_155 rfl rfl ?_
          refine tz_fR (pc := 156) dX2_appliedPart_156 fl_X2_28 r_141_0 ?_
          refine tz_aload_n (pc := 159) dX2_appliedPart_159 rfl rfl ?_
          refine tz_fR (pc := 160) dX2_appliedPart_160 fl_X2_28 r_141_0 ?_
          refine tz_fR (pc := 163) dX2_appliedPart_163 fl_X2_42 r_6_1 ?_
          refine tz_iload_n (pc := 166) dX2_appliedPart_166 rfl rfl ?_
          refine tz_aL (pc := 167) (z := t) (v := (J_150 7 t)) dX2_appliedPart_167 a_7 rfl (by omega) rfl (fun r_167 => ?_)
          refine tz_iload (pc := 168) dX2_appliedPart_168 rfl ?_
          refine tz_iload (pc := 170) dX2_appliedPart_170 rfl ?_
          refine tz_iload (pc := 172) dX2_appliedPart_172 rfl ?_
          refine tz_cV (pc := 174) (c_made hl n _ _ _ _ _ (by omega) (by omega) (by omega) (by omega) m_150 (q_150).2.1 (q_150).2.2.1 (by have := (q_150).2.1.ar (t := t) (by omega) (by have := (q_150).1; omega); omega) (ltA_of (by omega) (by omega) (by omega))) vl_X2_52 dX2_appliedPart_174 o_6 rfl rfl (Nat.le_of_ble_eq_true rfl) ⟨(Nat.le_of_ble_eq_true rfl), (Nat.le_of_ble_eq_true rfl)⟩ rfl rfl (Nat.le_of_ble_eq_true rfl) (Nat.le_of_ble_eq_true rfl) (fun r9 J_174 hq9 => ?_)
          obtain ⟨z_174, rfl, hz_174, p_9⟩ := hq9
          obtain ⟨m9, g9, h9⟩ := GR.made p_9 (by omega)
          have q9 := GR.tr q_150 g9
          exact tz_iret (pc := 177) (z := z_174) dX2_appliedPart_177 rfl (Nat.le_of_ble_eq_true rfl) (Nat.le_of_ble_eq_true rfl) ⟨Nat.le_refl _, Nat.le_add_right _ _⟩ ⟨_, rfl, (by omega), ⟨m9, q9, h9, fun S β hβ hG E => ap_c hG E hm ht (by omega) (ap_end (fun S t h => apO_f h) hG E C hm ht (Or.inr ⟨by rw [show J 8 t = J 8 t from rfl]; omega, rfl, rfl⟩) (Or.inr ⟨by rw [show J 8 t = J 8 t from rfl]; omega, rfl, rfl⟩) (Or.inl ⟨by omega, g_150, hz_150, fun S9 h9 E9 => x_150 S9 β (fun v a c => by rw [u_150]; exact hβ v a c) h9 E9⟩) (by rw [show J 7 t = J_150 7 t from (((q_150).2.2.2.1.1 t ht.1 ht.2).1).symm]; exact p_9))⟩⟩
        · refine tz_iconst (pc := 130) dX2_appliedPart_130 ?_
          refine tz_goto (pc := 131) (tgt := 153) dX2_appliedPart_131 (by decide) ?_
          refine tz_istore (pc := 153) (L2 := [_, _, _, _, _, _, _, _, _]) dX2_appliedPart_153 (by decide) rfl ?_
          refine tz_aload_n (pc := 155) dX2_appliedPart_155 rfl rfl ?_
          refine tz_fR (pc := 156) dX2_appliedPart_156 fl_X2_28 r_141_0 ?_
          refine tz_aload_n (pc := 159) dX2_appliedPart_159 rfl rfl ?_
          refine tz_fR (pc := 160) dX2_appliedPart_160 fl_X2_28 r_141_0 ?_
          refine tz_fR (pc := 163) dX2_appliedPart_163 fl_X2_42 r_6_1 ?_
          refine tz_iload_n (pc := 166) dX2_appliedPart_166 rfl rfl ?_
          refine tz_aL (pc := 167) (z := t) (v := (J 7 t)) dX2_appliedPart_167 a_7 rfl (by omega) rfl (fun r_167 => ?_)
          refine tz_iload (pc := 168) dX2_appliedPart_168 rfl ?_
          refine tz_iload (pc := 170) dX2_appliedPart_170 rfl ?_
          refine tz_iload (pc := 172) dX2_appliedPart_172 rfl ?_
          refine tz_cV (pc := 174) (c_made hl n _ _ _ _ _ (by omega) (by omega) (by omega) (by omega) m ((GR.rf C hm)).2.1 ((GR.rf C hm)).2.2.1 (by have := ((GR.rf C hm)).2.1.ar (t := t) (by omega) (by have := ((GR.rf C hm)).1; omega); omega) (ltA_of (by omega) (by omega) (by omega))) vl_X2_52 dX2_appliedPart_174 o_6 rfl rfl (Nat.le_of_ble_eq_true rfl) ⟨(Nat.le_of_ble_eq_true rfl), (Nat.le_of_ble_eq_true rfl)⟩ rfl rfl (Nat.le_of_ble_eq_true rfl) (Nat.le_of_ble_eq_true rfl) (fun r9 J_174 hq9 => ?_)
          obtain ⟨z_174, rfl, hz_174, p_9⟩ := hq9
          obtain ⟨m9, g9, h9⟩ := GR.made p_9 (by omega)
          have q9 := GR.tr (GR.rf C hm) g9
          exact tz_iret (pc := 177) (z := z_174) dX2_appliedPart_177 rfl (Nat.le_of_ble_eq_true rfl) (Nat.le_of_ble_eq_true rfl) ⟨Nat.le_refl _, Nat.le_add_right _ _⟩ ⟨_, rfl, (by omega), ⟨m9, q9, h9, fun S β hβ hG E => ap_c hG E hm ht (by omega) (ap_end (fun S t h => apO_f h) hG E C hm ht (Or.inr ⟨by rw [show J 8 t = J 8 t from rfl]; omega, rfl, rfl⟩) (Or.inr ⟨by rw [show J 8 t = J 8 t from rfl]; omega, rfl, rfl⟩) (Or.inr ⟨by rw [show J 8 t = J 8 t from rfl]; omega, rfl, rfl⟩) (by rw [show J 7 t = J 7 t from rfl]; exact p_9))⟩⟩

set_option maxHeartbeats 4000000 in
set_option maxRecDepth 100000 in
theorem x_app19_1 {l : Launch} {G : tb_G} (hl : l.stackTraces = false) (n : Nat) (J : zJ) (t : Int) (hr_t : -2147483648 ≤ t ∧ t < 2147483648) (m : Int) (C : CT J m) (hm : J 6 12 = m) (ht : 0 ≤ t ∧ t < m) (hr : rOK J 19 7 m) : tz_Ok l G M_X2_appliedPart 8 0 0 [.ref 141, zi t, .ref 19, zi 7, zi 1] n J (zqi (fun z J' => ∃ m', GR J' J m m' ∧ (z = -3 ∨ (0 ≤ z ∧ z < m')) ∧ ∀ (S : zJ) (β : Int → Int), (∀ v, 0 ≤ v → v < 8 → β v = J 19 (7 + v)) → S 164 21 = 0 → A0 J S → EXO (apO β 6 S t) z J')) zN := by
  refine tz_Ok.of hl (by decide +kernel) rfl (tb_c1 rfl) (Nat.le_of_ble_eq_true rfl) ?_
  show tz_At l G M_X2_appliedPart (tb_rm 8 0 0) none (tb_ZM G 0 0 (zQ n 0 (zqi (fun z J' => ∃ m', GR J' J m m' ∧ (z = -3 ∨ (0 ≤ z ∧ z < m')) ∧ ∀ (S : zJ) (β : Int → Int), (∀ v, 0 ≤ v → v < 8 → β v = J 19 (7 + v)) → S 164 21 = 0 → A0 J S → EXO (apO β 6 S t) z J'))) (zX n 0 zN)) 0 0 n J 0 [some (.ref 141), some (zi t), some (.ref 19), some (zi 7), some (zi 1), none, none, none, none] []
  have hb := C.told
  have ha := C.ar ht.1 ht.2
  refine tz_iload (pc := 0) dX2_appliedPart_0 rfl ?_
  refine tz_bipush (pc := 2) dX2_appliedPart_2 (by decide) ?_
  refine tz_icmp_leT (pc := 4) (tgt := 10) (by decide) dX2_appliedPart_4 (by decide) (by decide) (by decide) ?_
  refine tz_aload_n (pc := 10) dX2_appliedPart_10 rfl rfl ?_
  refine tz_fR (pc := 11) dX2_appliedPart_11 fl_X2_28 r_141_0 ?_
  refine tz_iload_n (pc := 14) dX2_appliedPart_14 rfl rfl ?_
  refine tz_cV (pc := 15) (c_isVar hl n _ _ (by omega) (by omega)) vl_X2_36 dX2_appliedPart_15 o_6 rfl rfl (Nat.le_of_ble_eq_true rfl) ⟨(Nat.le_of_ble_eq_true rfl), (Nat.le_of_ble_eq_true rfl)⟩ rfl rfl (Nat.le_of_ble_eq_true rfl) (Nat.le_of_ble_eq_true rfl) (fun r9 J_15 hq9 => ?_)
  obtain ⟨z_15, rfl, hz_15, rfl, rfl⟩ := hq9
  by_cases hw_18 : J 7 t < 0
  · rw [show (if J 7 t < 0 then 1 else 0 : Int) = 1 from if_pos hw_18]
    refine tz_if_eqF (pc := 18) (tgt := 51) (by decide) dX2_appliedPart_18 (by decide) (by decide) ?_
    refine tz_aload_n (pc := 21) dX2_appliedPart_21 rfl rfl ?_
    refine tz_iload_n (pc := 22) dX2_appliedPart_22 rfl rfl ?_
    refine tz_aload_n (pc := 23) dX2_appliedPart_23 rfl rfl ?_
    refine tz_fR (pc := 24) dX2_appliedPart_24 fl_X2_28 r_141_0 ?_
    refine tz_fR (pc := 27) dX2_appliedPart_27 fl_X2_42 r_6_1 ?_
    refine tz_iload_n (pc := 30) dX2_appliedPart_30 rfl rfl ?_
    refine tz_aL (pc := 31) (z := t) (v := (J 7 t)) dX2_appliedPart_31 a_7 rfl (by omega) rfl (fun r_31 => ?_)
    refine tz_iconst (pc := 32) dX2_appliedPart_32 ?_
    refine tz_ixor (pc := 33) (v := -1 - J 7 t) dX2_appliedPart_33 (z_nn (by omega)) ?_
    refine tz_iadd (pc := 34) (v := 7 + (-1 - J 7 t)) dX2_appliedPart_34 rfl ?_
    have hv := hr (-1 - J 7 t) (by omega) (by omega)
    refine tz_aL (pc := 35) (z := (7 + (-1 - J 7 t))) (v := (J 19 (7 + (-1 - J 7 t)))) dX2_appliedPart_35 a_19 rfl (by omega) rfl (fun r_35 => ?_)
    refine tz_istore (pc := 36) (L2 := [_, _, _, _, _, _, _, _, _]) dX2_appliedPart_36 (by decide) rfl ?_
    refine tz_iload (pc := 38) dX2_appliedPart_38 rfl ?_
    refine tz_iconst (pc := 40) dX2_appliedPart_40 ?_
    refine tz_icmp_ne (pc := 41) (tgt := 48) dX2_appliedPart_41 (by decide) (by omega) (by decide) (fun h_41 => ?_) (fun h_41 => ?_)
    · refine tz_iload (pc := 48) dX2_appliedPart_48 rfl ?_
      exact tz_iret (pc := 50) (z := (J 19 (7 + (-1 - J 7 t)))) dX2_appliedPart_50 rfl (Nat.le_of_ble_eq_true rfl) (Nat.le_of_ble_eq_true rfl) ⟨Nat.le_refl _, Nat.le_add_right _ _⟩ ⟨_, rfl, (by omega), ⟨m, GR.rf C hm, Or.inr (by omega), fun S β hβ hG E => ap_v hG E hm ht (by omega) (by omega) (by have := hβ (-1 - J 7 t) (by omega) (by omega); rw [this]; omega)⟩⟩
    · refine tz_iload_n (pc := 44) dX2_appliedPart_44 rfl rfl ?_
      refine tz_goto (pc := 45) (tgt := 50) dX2_appliedPart_45 (by decide) ?_
      exact tz_iret (pc := 50) (z := t) dX2_appliedPart_50 rfl (Nat.le_of_ble_eq_true rfl) (Nat.le_of_ble_eq_true rfl) ⟨Nat.le_refl _, Nat.le_add_right _ _⟩ ⟨_, rfl, (by omega), ⟨m, GR.rf C hm, Or.inr (by omega), fun S β hβ hG E => ap_v hG E hm ht (by omega) (by omega) (by have := hβ (-1 - J 7 t) (by omega) (by omega); rw [this]; omega)⟩⟩
  · rw [show (if J 7 t < 0 then 1 else 0 : Int) = 0 from if_neg hw_18]
    refine tz_if_eqT (pc := 18) (tgt := 51) (by decide) dX2_appliedPart_18 (by decide) (by decide) ?_
    refine tz_aload_n (pc := 51) dX2_appliedPart_51 rfl rfl ?_
    refine tz_fR (pc := 52) dX2_appliedPart_52 fl_X2_28 r_141_0 ?_
    refine tz_fR (pc := 55) dX2_appliedPart_55 fl_X2_45 r_6_2 ?_
    refine tz_iload_n (pc := 58) dX2_appliedPart_58 rfl rfl ?_
    refine tz_aL (pc := 59) (z := t) (v := (J 8 t)) dX2_appliedPart_59 a_8 rfl (by omega) rfl (fun r_59 => ?_)
    refine tz_istore (pc := 60) (L2 := [_, _, _, _, _, _, _, _, _]) dX2_appliedPart_60 (by decide) rfl ?_
    refine tz_iload (pc := 62) dX2_appliedPart_62 rfl ?_
    refine tz_iconst (pc := 64) dX2_appliedPart_64 ?_
    refine tz_icmp_ge (pc := 65) (tgt := 72) dX2_appliedPart_65 (by decide) (by omega) (by decide) (fun h_65 => ?_) (fun h_65 => ?_)
    · refine tz_aload_n (pc := 72) dX2_appliedPart_72 rfl rfl ?_
      refine tz_aload_n (pc := 73) dX2_appliedPart_73 rfl rfl ?_
      refine tz_fR (pc := 74) dX2_appliedPart_74 fl_X2_28 r_141_0 ?_
      refine tz_iload_n (pc := 77) dX2_appliedPart_77 rfl rfl ?_
      refine tz_iconst (pc := 78) dX2_appliedPart_78 ?_
      refine tz_cV (pc := 79) (c_arg hl n _ _ _ (by omega) (by decide) (by omega)) vl_X2_48 dX2_appliedPart_79 o_6 rfl rfl (Nat.le_of_ble_eq_true rfl) ⟨(Nat.le_of_ble_eq_true rfl), (Nat.le_of_ble_eq_true rfl)⟩ rfl rfl (Nat.le_of_ble_eq_true rfl) (Nat.le_of_ble_eq_true rfl) (fun r9 J_79 hq9 => ?_)
      obtain ⟨z_79, rfl, hz_79, rfl, rfl⟩ := hq9
      refine tz_aload_n (pc := 82) dX2_appliedPart_82 rfl rfl ?_
      refine tz_iload_n (pc := 83) dX2_appliedPart_83 rfl rfl ?_
      refine tz_iload (pc := 84) dX2_appliedPart_84 rfl ?_
      refine tz_iconst (pc := 86) dX2_appliedPart_86 ?_
      refine tz_iadd (pc := 87) (v := 2) dX2_appliedPart_87 (by decide) ?_
      have b_88 := GR.arg (GR.rf C hm) C ht (i := 0) (by omega)
      have c_88 := ((GR.rf C hm)).1
      refine tz_cV (pc := 88) (x_app19_2 hl n _ _ (by omega) m ((GR.rf C hm)).2.1 ((GR.rf C hm)).2.2.1 (by omega) (GR.row (GR.rf C hm) rfl hr)) vl_X2_32 dX2_appliedPart_88 o_141 rfl rfl (Nat.le_of_ble_eq_true rfl) ⟨(Nat.le_of_ble_eq_true rfl), (Nat.le_of_ble_eq_true rfl)⟩ rfl rfl (Nat.le_of_ble_eq_true rfl) (Nat.le_of_ble_eq_true rfl) (fun r9 J_88 hq9 => ?_)
      obtain ⟨z_88, rfl, hz_88, m_88, g_88, hz_88, x_88⟩ := hq9
      have q_88 := GR.tr (GR.rf C hm) g_88
      have d_88 := q_88.1
      have e_88 := g_88.1
      have u_88 : J 19 = J 19 := ((GR.rf C hm)).2.2.2.2 19 rfl
      have k8_88 : J 8 t = J 8 t := (((GR.rf C hm)).2.2.2.1.1 t ht.1 ht.2).2.1
      refine tz_istore (pc := 91) (L2 := [_, _, _, _, _, _, _, _, _]) dX2_appliedPart_91 (by decide) rfl ?_
      refine tz_iload (pc := 93) dX2_appliedPart_93 rfl ?_
      refine tz_iconst (pc := 95) dX2_appliedPart_95 ?_
      refine tz_icmp_ge (pc := 96) (tgt := 103) dX2_appliedPart_96 (by decide) (by omega) (by decide) (fun h_96 => ?_) (fun h_96 => ?_)
      · refine tz_aload_n (pc := 103) dX2_appliedPart_103 rfl rfl ?_
        refine tz_aload_n (pc := 104) dX2_appliedPart_104 rfl rfl ?_
        refine tz_fR (pc := 105) dX2_appliedPart_105 fl_X2_28 r_141_0 ?_
        refine tz_iload_n (pc := 108) dX2_appliedPart_108 rfl rfl ?_
        refine tz_iconst (pc := 109) dX2_appliedPart_109 ?_
        refine tz_cV (pc := 110) (c_arg hl n _ _ _ (by omega) (by decide) (by omega)) vl_X2_48 dX2_appliedPart_110 o_6 rfl rfl (Nat.le_of_ble_eq_true rfl) ⟨(Nat.le_of_ble_eq_true rfl), (Nat.le_of_ble_eq_true rfl)⟩ rfl rfl (Nat.le_of_ble_eq_true rfl) (Nat.le_of_ble_eq_true rfl) (fun r9 J_110 hq9 => ?_)
        obtain ⟨z_110, rfl, hz_110, rfl, rfl⟩ := hq9
        refine tz_aload_n (pc := 113) dX2_appliedPart_113 rfl rfl ?_
        refine tz_iload_n (pc := 114) dX2_appliedPart_114 rfl rfl ?_
        refine tz_iload (pc := 115) dX2_appliedPart_115 rfl ?_
        refine tz_iconst (pc := 117) dX2_appliedPart_117 ?_
        refine tz_iadd (pc := 118) (v := 2) dX2_appliedPart_118 (by decide) ?_
        have b_119 := GR.arg q_88 C ht (i := 1) (by omega)
        have c_119 := (q_88).1
        refine tz_cV (pc := 119) (x_app19_2 hl n _ _ (by omega) m_88 (q_88).2.1 (q_88).2.2.1 (by omega) (GR.row q_88 rfl hr)) vl_X2_32 dX2_appliedPart_119 o_141 rfl rfl (Nat.le_of_ble_eq_true rfl) ⟨(Nat.le_of_ble_eq_true rfl), (Nat.le_of_ble_eq_true rfl)⟩ rfl rfl (Nat.le_of_ble_eq_true rfl) (Nat.le_of_ble_eq_true rfl) (fun r9 J_119 hq9 => ?_)
        obtain ⟨z_119, rfl, hz_119, m_119, g_119, hz_119, x_119⟩ := hq9
        have q_119 := GR.tr q_88 g_119
        have d_119 := q_119.1
        have e_119 := g_119.1
        have u_119 : J_88 19 = J 19 := (q_88).2.2.2.2 19 rfl
        have k8_119 : J_88 8 t = J 8 t := ((q_88).2.2.2.1.1 t ht.1 ht.2).2.1
        refine tz_istore (pc := 122) (L2 := [_, _, _, _, _, _, _, _, _]) dX2_appliedPart_122 (by decide) rfl ?_
        refine tz_iload (pc := 124) dX2_appliedPart_124 rfl ?_
        refine tz_iconst (pc := 126) dX2_appliedPart_126 ?_
        refine tz_icmp_ge (pc := 127) (tgt := 134) dX2_appliedPart_127 (by decide) (by omega) (by decide) (fun h_127 => ?_) (fun h_127 => ?_)
        · refine tz_aload_n (pc := 134) dX2_appliedPart_134 rfl rfl ?_
          refine tz_aload_n (pc := 135) dX2_appliedPart_135 rfl rfl ?_
          refine tz_fR (pc := 136) dX2_appliedPart_136 fl_X2_28 r_141_0 ?_
          refine tz_iload_n (pc := 139) dX2_appliedPart_139 rfl rfl ?_
          refine tz_iconst (pc := 140) dX2_appliedPart_140 ?_
          refine tz_cV (pc := 141) (c_arg hl n _ _ _ (by omega) (by decide) (by omega)) vl_X2_48 dX2_appliedPart_141 o_6 rfl rfl (Nat.le_of_ble_eq_true rfl) ⟨(Nat.le_of_ble_eq_true rfl), (Nat.le_of_ble_eq_true rfl)⟩ rfl rfl (Nat.le_of_ble_eq_true rfl) (Nat.le_of_ble_eq_true rfl) (fun r9 J_141 hq9 => ?_)
          obtain ⟨z_141, rfl, hz_141, rfl, rfl⟩ := hq9
          refine tz_aload_n (pc := 144) dX2_appliedPart_144 rfl rfl ?_
          refine tz_iload_n (pc := 145) dX2_appliedPart_145 rfl rfl ?_
          refine tz_iload (pc := 146) dX2_appliedPart_146 rfl ?_
          refine tz_iconst (pc := 148) dX2_appliedPart_148 ?_
          refine tz_iadd (pc := 149) (v := 2) dX2_appliedPart_149 (by decide) ?_
          have b_150 := GR.arg q_119 C ht (i := 2) (by omega)
          have c_150 := (q_119).1
          refine tz_cV (pc := 150) (x_app19_2 hl n _ _ (by omega) m_119 (q_119).2.1 (q_119).2.2.1 (by omega) (GR.row q_119 rfl hr)) vl_X2_32 dX2_appliedPart_150 o_141 rfl rfl (Nat.le_of_ble_eq_true rfl) ⟨(Nat.le_of_ble_eq_true rfl), (Nat.le_of_ble_eq_true rfl)⟩ rfl rfl (Nat.le_of_ble_eq_true rfl) (Nat.le_of_ble_eq_true rfl) (fun r9 J_150 hq9 => ?_)
          obtain ⟨z_150, rfl, hz_150, m_150, g_150, hz_150, x_150⟩ := hq9
          have q_150 := GR.tr q_119 g_150
          have d_150 := q_150.1
          have e_150 := g_150.1
          have u_150 : J_119 19 = J 19 := (q_119).2.2.2.2 19 rfl
          have k8_150 : J_119 8 t = J 8 t := ((q_119).2.2.2.1.1 t ht.1 ht.2).2.1
          refine tz_istore (pc := 153) (L2 := [_, _, _, _, _, _, _, _, _]) dX2_appliedPart_153 (by decide) rfl ?_
          refine tz_aload_n (pc := 155) dX2_appliedPart_155 rfl rfl ?_
          refine tz_fR (pc := 156) dX2_appliedPart_156 fl_X2_28 r_141_0 ?_
          refine tz_aload_n (pc := 159) dX2_appliedPart_159 rfl rfl ?_
          refine tz_fR (pc := 160) dX2_appliedPart_160 fl_X2_28 r_141_0 ?_
          refine tz_fR (pc := 163) dX2_appliedPart_163 fl_X2_42 r_6_1 ?_
          refine tz_iload_n (pc := 166) dX2_appliedPart_166 rfl rfl ?_
          refine tz_aL (pc := 167) (z := t) (v := (J_150 7 t)) dX2_appliedPart_167 a_7 rfl (by omega) rfl (fun r_167 => ?_)
          refine tz_iload (pc := 168) dX2_appliedPart_168 rfl ?_
          refine tz_iload (pc := 170) dX2_appliedPart_170 rfl ?_
          refine tz_iload (pc := 172) dX2_appliedPart_172 rfl ?_
          refine tz_cV (pc := 174) (c_made hl n _ _ _ _ _ (by omega) (by omega) (by omega) (by omega) m_150 (q_150).2.1 (q_150).2.2.1 (by have := (q_150).2.1.ar (t := t) (by omega) (by have := (q_150).1; omega); omega) (ltA_of (by omega) (by omega) (by omega))) vl_X2_52 dX2_appliedPart_174 o_6 rfl rfl (Nat.le_of_ble_eq_true rfl) ⟨(Nat.le_of_ble_eq_true rfl), (Nat.le_of_ble_eq_true rfl)⟩ rfl rfl (Nat.le_of_ble_eq_true rfl) (Nat.le_of_ble_eq_true rfl) (fun r9 J_174 hq9 => ?_)
          obtain ⟨z_174, rfl, hz_174, p_9⟩ := hq9
          obtain ⟨m9, g9, h9⟩ := GR.made p_9 (by omega)
          have q9 := GR.tr q_150 g9
          exact tz_iret (pc := 177) (z := z_174) dX2_appliedPart_177 rfl (Nat.le_of_ble_eq_true rfl) (Nat.le_of_ble_eq_true rfl) ⟨Nat.le_refl _, Nat.le_add_right _ _⟩ ⟨_, rfl, (by omega), ⟨m9, q9, h9, fun S β hβ hG E => ap_c hG E hm ht (by omega) (ap_end (fun S t h => apO_f h) hG E C hm ht (Or.inl ⟨by omega, g_88, hz_88, fun S9 h9 E9 => x_88 S9 β (fun v a c => by rw [u_88]; exact hβ v a c) h9 E9⟩) (Or.inl ⟨by omega, g_119, hz_119, fun S9 h9 E9 => x_119 S9 β (fun v a c => by rw [u_119]; exact hβ v a c) h9 E9⟩) (Or.inl ⟨by omega, g_150, hz_150, fun S9 h9 E9 => x_150 S9 β (fun v a c => by rw [u_150]; exact hβ v a c) h9 E9⟩) (by rw [show J 7 t = J_150 7 t from (((q_150).2.2.2.1.1 t ht.1 ht.2).1).symm]; exact p_9))⟩⟩
        · refine tz_iconst (pc := 130) dX2_appliedPart_130 ?_
          refine tz_goto (pc := 131) (tgt := 153) dX2_appliedPart_131 (by decide) ?_
          refine tz_istore (pc := 153) (L2 := [_, _, _, _, _, _, _, _, _]) dX2_appliedPart_153 (by decide) rfl ?_
          refine tz_aload_n (pc := 155) dX2_appliedPart_155 rfl rfl ?_
          refine tz_fR (pc := 156) dX2_appliedPart_156 fl_X2_28 r_141_0 ?_
          refine tz_aload_n (pc := 159) dX2_appliedPart_159 rfl rfl ?_
          refine tz_fR (pc := 160) dX2_appliedPart_160 fl_X2_28 r_141_0 ?_
          refine tz_fR (pc := 163) dX2_appliedPart_163 fl_X2_42 r_6_1 ?_
          refine tz_iload_n (pc := 166) dX2_appliedPart_166 rfl rfl ?_
          refine tz_aL (pc := 167) (z := t) (v := (J_119 7 t)) dX2_appliedPart_167 a_7 rfl (by omega) rfl (fun r_167 => ?_)
          refine tz_iload (pc := 168) dX2_appliedPart_168 rfl ?_
          refine tz_iload (pc := 170) dX2_appliedPart_170 rfl ?_
          refine tz_iload (pc := 172) dX2_appliedPart_172 rfl ?_
          refine tz_cV (pc := 174) (c_made hl n _ _ _ _ _ (by omega) (by omega) (by omega) (by omega) m_119 (q_119).2.1 (q_119).2.2.1 (by have := (q_119).2.1.ar (t := t) (by omega) (by have := (q_119).1; omega); omega) (ltA_of (by omega) (by omega) (by omega))) vl_X2_52 dX2_appliedPart_174 o_6 rfl rfl (Nat.le_of_ble_eq_true rfl) ⟨(Nat.le_of_ble_eq_true rfl), (Nat.le_of_ble_eq_true rfl)⟩ rfl rfl (Nat.le_of_ble_eq_true rfl) (Nat.le_of_ble_eq_true rfl) (fun r9 J_174 hq9 => ?_)
          obtain ⟨z_174, rfl, hz_174, p_9⟩ := hq9
          obtain ⟨m9, g9, h9⟩ := GR.made p_9 (by omega)
          have q9 := GR.tr q_119 g9
          exact tz_iret (pc := 177) (z := z_174) dX2_appliedPart_177 rfl (Nat.le_of_ble_eq_true rfl) (Nat.le_of_ble_eq_true rfl) ⟨Nat.le_refl _, Nat.le_add_right _ _⟩ ⟨_, rfl, (by omega), ⟨m9, q9, h9, fun S β hβ hG E => ap_c hG E hm ht (by omega) (ap_end (fun S t h => apO_f h) hG E C hm ht (Or.inl ⟨by omega, g_88, hz_88, fun S9 h9 E9 => x_88 S9 β (fun v a c => by rw [u_88]; exact hβ v a c) h9 E9⟩) (Or.inl ⟨by omega, g_119, hz_119, fun S9 h9 E9 => x_119 S9 β (fun v a c => by rw [u_119]; exact hβ v a c) h9 E9⟩) (Or.inr ⟨by rw [show J_119 8 t = J 8 t from ((q_119).2.2.2.1.1 t ht.1 ht.2).2.1]; omega, rfl, rfl⟩) (by rw [show J 7 t = J_119 7 t from (((q_119).2.2.2.1.1 t ht.1 ht.2).1).symm]; exact p_9))⟩⟩
      · refine tz_iconst (pc := 99) dX2_appliedPart_99 ?_
        refine tz_goto (pc := 100) (tgt := 122) dX2_appliedPart_100 (by decide) ?_
        refine tz_istore (pc := 122) (L2 := [_, _, _, _, _, _, _, _, _]) dX2_appliedPart_122 (by decide) rfl ?_
        refine tz_iload (pc := 124) dX2_appliedPart_124 rfl ?_
        refine tz_iconst (pc := 126) dX2_appliedPart_126 ?_
        refine tz_icmp_ge (pc := 127) (tgt := 134) dX2_appliedPart_127 (by decide) (by omega) (by decide) (fun h_127 => ?_) (fun h_127 => ?_)
        · refine tz_aload_n (pc := 134) dX2_appliedPart_134 rfl rfl ?_
          refine tz_aload_n (pc := 135) dX2_appliedPart_135 rfl rfl ?_
          refine tz_fR (pc := 136) dX2_appliedPart_136 fl_X2_28 r_141_0 ?_
          refine tz_iload_n (pc := 139) dX2_appliedPart_139 rfl rfl ?_
          refine tz_iconst (pc := 140) dX2_appliedPart_140 ?_
          refine tz_cV (pc := 141) (c_arg hl n _ _ _ (by omega) (by decide) (by omega)) vl_X2_48 dX2_appliedPart_141 o_6 rfl rfl (Nat.le_of_ble_eq_true rfl) ⟨(Nat.le_of_ble_eq_true rfl), (Nat.le_of_ble_eq_true rfl)⟩ rfl rfl (Nat.le_of_ble_eq_true rfl) (Nat.le_of_ble_eq_true rfl) (fun r9 J_141 hq9 => ?_)
          obtain ⟨z_141, rfl, hz_141, rfl, rfl⟩ := hq9
          refine tz_aload_n (pc := 144) dX2_appliedPart_144 rfl rfl ?_
          refine tz_iload_n (pc := 145) dX2_appliedPart_145 rfl rfl ?_
          refine tz_iload (pc := 146) dX2_appliedPart_146 rfl ?_
          refine tz_iconst (pc := 148) dX2_appliedPart_148 ?_
          refine tz_iadd (pc := 149) (v := 2) dX2_appliedPart_149 (by decide) ?_
          have b_150 := GR.arg q_88 C ht (i := 2) (by omega)
          have c_150 := (q_88).1
          refine tz_cV (pc := 150) (x_app19_2 hl n _ _ (by omega) m_88 (q_88).2.1 (q_88).2.2.1 (by omega) (GR.row q_88 rfl hr)) vl_X2_32 dX2_appliedPart_150 o_141 rfl rfl (Nat.le_of_ble_eq_true rfl) ⟨(Nat.le_of_ble_eq_true rfl), (Nat.le_of_ble_eq_true rfl)⟩ rfl rfl (Nat.le_of_ble_eq_true rfl) (Nat.le_of_ble_eq_true rfl) (fun r9 J_150 hq9 => ?_)
          obtain ⟨z_150, rfl, hz_150, m_150, g_150, hz_150, x_150⟩ := hq9
          have q_150 := GR.tr q_88 g_150
          have d_150 := q_150.1
          have e_150 := g_150.1
          have u_150 : J_88 19 = J 19 := (q_88).2.2.2.2 19 rfl
          have k8_150 : J_88 8 t = J 8 t := ((q_88).2.2.2.1.1 t ht.1 ht.2).2.1
          refine tz_istore (pc := 153) (L2 := [_, _, _, _, _, _, _, _, _]) dX2_appliedPart_153 (by decide) rfl ?_
          refine tz_aload_n (pc := 155) dX2_appliedPart_155 rfl rfl ?_
          refine tz_fR (pc := 156) dX2_appliedPart_156 fl_X2_28 r_141_0 ?_
          refine tz_aload_n (pc := 159) dX2_appliedPart_159 rfl rfl ?_
          refine tz_fR (pc := 160) dX2_appliedPart_160 fl_X2_28 r_141_0 ?_
          refine tz_fR (pc := 163) dX2_appliedPart_163 fl_X2_42 r_6_1 ?_
          refine tz_iload_n (pc := 166) dX2_appliedPart_166 rfl rfl ?_
          refine tz_aL (pc := 167) (z := t) (v := (J_150 7 t)) dX2_appliedPart_167 a_7 rfl (by omega) rfl (fun r_167 => ?_)
          refine tz_iload (pc := 168) dX2_appliedPart_168 rfl ?_
          refine tz_iload (pc := 170) dX2_appliedPart_170 rfl ?_
          refine tz_iload (pc := 172) dX2_appliedPart_172 rfl ?_
          refine tz_cV (pc := 174) (c_made hl n _ _ _ _ _ (by omega) (by omega) (by omega) (by omega) m_150 (q_150).2.1 (q_150).2.2.1 (by have := (q_150).2.1.ar (t := t) (by omega) (by have := (q_150).1; omega); omega) (ltA_of (by omega) (by omega) (by omega))) vl_X2_52 dX2_appliedPart_174 o_6 rfl rfl (Nat.le_of_ble_eq_true rfl) ⟨(Nat.le_of_ble_eq_true rfl), (Nat.le_of_ble_eq_true rfl)⟩ rfl rfl (Nat.le_of_ble_eq_true rfl) (Nat.le_of_ble_eq_true rfl) (fun r9 J_174 hq9 => ?_)
          obtain ⟨z_174, rfl, hz_174, p_9⟩ := hq9
          obtain ⟨m9, g9, h9⟩ := GR.made p_9 (by omega)
          have q9 := GR.tr q_150 g9
          exact tz_iret (pc := 177) (z := z_174) dX2_appliedPart_177 rfl (Nat.le_of_ble_eq_true rfl) (Nat.le_of_ble_eq_true rfl) ⟨Nat.le_refl _, Nat.le_add_right _ _⟩ ⟨_, rfl, (by omega), ⟨m9, q9, h9, fun S β hβ hG E => ap_c hG E hm ht (by omega) (ap_end (fun S t h => apO_f h) hG E C hm ht (Or.inl ⟨by omega, g_88, hz_88, fun S9 h9 E9 => x_88 S9 β (fun v a c => by rw [u_88]; exact hβ v a c) h9 E9⟩) (Or.inr ⟨by rw [show J_88 8 t = J 8 t from ((q_88).2.2.2.1.1 t ht.1 ht.2).2.1]; omega, rfl, rfl⟩) (Or.inl ⟨by omega, g_150, hz_150, fun S9 h9 E9 => x_150 S9 β (fun v a c => by rw [u_150]; exact hβ v a c) h9 E9⟩) (by rw [show J 7 t = J_150 7 t from (((q_150).2.2.2.1.1 t ht.1 ht.2).1).symm]; exact p_9))⟩⟩
        · refine tz_iconst (pc := 130) dX2_appliedPart_130 ?_
          refine tz_goto (pc := 131) (tgt := 153) dX2_appliedPart_131 (by decide) ?_
          refine tz_istore (pc := 153) (L2 := [_, _, _, _, _, _, _, _, _]) dX2_appliedPart_153 (by decide) rfl ?_
          refine tz_aload_n (pc := 155) dX2_appliedPart_155 rfl rfl ?_
          refine tz_fR (pc := 156) dX2_appliedPart_156 fl_X2_28 r_141_0 ?_
          refine tz_aload_n (pc := 159) dX2_appliedPart_159 rfl rfl ?_
          refine tz_fR (pc := 160) dX2_appliedPart_160 fl_X2_28 r_141_0 ?_
          refine tz_fR (pc := 163) dX2_appliedPart_163 fl_X2_42 r_6_1 ?_
          refine tz_iload_n (pc := 166) dX2_appliedPart_166 rfl rfl ?_
          refine tz_aL (pc := 167) (z := t) (v := (J_88 7 t)) dX2_appliedPart_167 a_7 rfl (by omega) rfl (fun r_167 => ?_)
          refine tz_iload (pc := 168) dX2_appliedPart_168 rfl ?_
          refine tz_iload (pc := 170) dX2_appliedPart_170 rfl ?_
          refine tz_iload (pc := 172) dX2_appliedPart_172 rfl ?_
          refine tz_cV (pc := 174) (c_made hl n _ _ _ _ _ (by omega) (by omega) (by omega) (by omega) m_88 (q_88).2.1 (q_88).2.2.1 (by have := (q_88).2.1.ar (t := t) (by omega) (by have := (q_88).1; omega); omega) (ltA_of (by omega) (by omega) (by omega))) vl_X2_52 dX2_appliedPart_174 o_6 rfl rfl (Nat.le_of_ble_eq_true rfl) ⟨(Nat.le_of_ble_eq_true rfl), (Nat.le_of_ble_eq_true rfl)⟩ rfl rfl (Nat.le_of_ble_eq_true rfl) (Nat.le_of_ble_eq_true rfl) (fun r9 J_174 hq9 => ?_)
          obtain ⟨z_174, rfl, hz_174, p_9⟩ := hq9
          obtain ⟨m9, g9, h9⟩ := GR.made p_9 (by omega)
          have q9 := GR.tr q_88 g9
          exact tz_iret (pc := 177) (z := z_174) dX2_appliedPart_177 rfl (Nat.le_of_ble_eq_true rfl) (Nat.le_of_ble_eq_true rfl) ⟨Nat.le_refl _, Nat.le_add_right _ _⟩ ⟨_, rfl, (by omega), ⟨m9, q9, h9, fun S β hβ hG E => ap_c hG E hm ht (by omega) (ap_end (fun S t h => apO_f h) hG E C hm ht (Or.inl ⟨by omega, g_88, hz_88, fun S9 h9 E9 => x_88 S9 β (fun v a c => by rw [u_88]; exact hβ v a c) h9 E9⟩) (Or.inr ⟨by rw [show J_88 8 t = J 8 t from ((q_88).2.2.2.1.1 t ht.1 ht.2).2.1]; omega, rfl, rfl⟩) (Or.inr ⟨by rw [show J_88 8 t = J 8 t from ((q_88).2.2.2.1.1 t ht.1 ht.2).2.1]; omega, rfl, rfl⟩) (by rw [show J 7 t = J_88 7 t from (((q_88).2.2.2.1.1 t ht.1 ht.2).1).symm]; exact p_9))⟩⟩
    · refine tz_iconst (pc := 68) dX2_appliedPart_68 ?_
      refine tz_goto (pc := 69) (tgt := 91) dX2_appliedPart_69 (by decide) ?_
      refine tz_istore (pc := 91) (L2 := [_, _, _, _, _, _, _, _, _]) dX2_appliedPart_91 (by decide) rfl ?_
      refine tz_iload (pc := 93) dX2_appliedPart_93 rfl ?_
      refine tz_iconst (pc := 95) dX2_appliedPart_95 ?_
      refine tz_icmp_ge (pc := 96) (tgt := 103) dX2_appliedPart_96 (by decide) (by omega) (by decide) (fun h_96 => ?_) (fun h_96 => ?_)
      · refine tz_aload_n (pc := 103) dX2_appliedPart_103 rfl rfl ?_
        refine tz_aload_n (pc := 104) dX2_appliedPart_104 rfl rfl ?_
        refine tz_fR (pc := 105) dX2_appliedPart_105 fl_X2_28 r_141_0 ?_
        refine tz_iload_n (pc := 108) dX2_appliedPart_108 rfl rfl ?_
        refine tz_iconst (pc := 109) dX2_appliedPart_109 ?_
        refine tz_cV (pc := 110) (c_arg hl n _ _ _ (by omega) (by decide) (by omega)) vl_X2_48 dX2_appliedPart_110 o_6 rfl rfl (Nat.le_of_ble_eq_true rfl) ⟨(Nat.le_of_ble_eq_true rfl), (Nat.le_of_ble_eq_true rfl)⟩ rfl rfl (Nat.le_of_ble_eq_true rfl) (Nat.le_of_ble_eq_true rfl) (fun r9 J_110 hq9 => ?_)
        obtain ⟨z_110, rfl, hz_110, rfl, rfl⟩ := hq9
        refine tz_aload_n (pc := 113) dX2_appliedPart_113 rfl rfl ?_
        refine tz_iload_n (pc := 114) dX2_appliedPart_114 rfl rfl ?_
        refine tz_iload (pc := 115) dX2_appliedPart_115 rfl ?_
        refine tz_iconst (pc := 117) dX2_appliedPart_117 ?_
        refine tz_iadd (pc := 118) (v := 2) dX2_appliedPart_118 (by decide) ?_
        have b_119 := GR.arg (GR.rf C hm) C ht (i := 1) (by omega)
        have c_119 := ((GR.rf C hm)).1
        refine tz_cV (pc := 119) (x_app19_2 hl n _ _ (by omega) m ((GR.rf C hm)).2.1 ((GR.rf C hm)).2.2.1 (by omega) (GR.row (GR.rf C hm) rfl hr)) vl_X2_32 dX2_appliedPart_119 o_141 rfl rfl (Nat.le_of_ble_eq_true rfl) ⟨(Nat.le_of_ble_eq_true rfl), (Nat.le_of_ble_eq_true rfl)⟩ rfl rfl (Nat.le_of_ble_eq_true rfl) (Nat.le_of_ble_eq_true rfl) (fun r9 J_119 hq9 => ?_)
        obtain ⟨z_119, rfl, hz_119, m_119, g_119, hz_119, x_119⟩ := hq9
        have q_119 := GR.tr (GR.rf C hm) g_119
        have d_119 := q_119.1
        have e_119 := g_119.1
        have u_119 : J 19 = J 19 := ((GR.rf C hm)).2.2.2.2 19 rfl
        have k8_119 : J 8 t = J 8 t := (((GR.rf C hm)).2.2.2.1.1 t ht.1 ht.2).2.1
        refine tz_istore (pc := 122) (L2 := [_, _, _, _, _, _, _, _, _]) dX2_appliedPart_122 (by decide) rfl ?_
        refine tz_iload (pc := 124) dX2_appliedPart_124 rfl ?_
        refine tz_iconst (pc := 126) dX2_appliedPart_126 ?_
        refine tz_icmp_ge (pc := 127) (tgt := 134) dX2_appliedPart_127 (by decide) (by omega) (by decide) (fun h_127 => ?_) (fun h_127 => ?_)
        · refine tz_aload_n (pc := 134) dX2_appliedPart_134 rfl rfl ?_
          refine tz_aload_n (pc := 135) dX2_appliedPart_135 rfl rfl ?_
          refine tz_fR (pc := 136) dX2_appliedPart_136 fl_X2_28 r_141_0 ?_
          refine tz_iload_n (pc := 139) dX2_appliedPart_139 rfl rfl ?_
          refine tz_iconst (pc := 140) dX2_appliedPart_140 ?_
          refine tz_cV (pc := 141) (c_arg hl n _ _ _ (by omega) (by decide) (by omega)) vl_X2_48 dX2_appliedPart_141 o_6 rfl rfl (Nat.le_of_ble_eq_true rfl) ⟨(Nat.le_of_ble_eq_true rfl), (Nat.le_of_ble_eq_true rfl)⟩ rfl rfl (Nat.le_of_ble_eq_true rfl) (Nat.le_of_ble_eq_true rfl) (fun r9 J_141 hq9 => ?_)
          obtain ⟨z_141, rfl, hz_141, rfl, rfl⟩ := hq9
          refine tz_aload_n (pc := 144) dX2_appliedPart_144 rfl rfl ?_
          refine tz_iload_n (pc := 145) dX2_appliedPart_145 rfl rfl ?_
          refine tz_iload (pc := 146) dX2_appliedPart_146 rfl ?_
          refine tz_iconst (pc := 148) dX2_appliedPart_148 ?_
          refine tz_iadd (pc := 149) (v := 2) dX2_appliedPart_149 (by decide) ?_
          have b_150 := GR.arg q_119 C ht (i := 2) (by omega)
          have c_150 := (q_119).1
          refine tz_cV (pc := 150) (x_app19_2 hl n _ _ (by omega) m_119 (q_119).2.1 (q_119).2.2.1 (by omega) (GR.row q_119 rfl hr)) vl_X2_32 dX2_appliedPart_150 o_141 rfl rfl (Nat.le_of_ble_eq_true rfl) ⟨(Nat.le_of_ble_eq_true rfl), (Nat.le_of_ble_eq_true rfl)⟩ rfl rfl (Nat.le_of_ble_eq_true rfl) (Nat.le_of_ble_eq_true rfl) (fun r9 J_150 hq9 => ?_)
          obtain ⟨z_150, rfl, hz_150, m_150, g_150, hz_150, x_150⟩ := hq9
          have q_150 := GR.tr q_119 g_150
          have d_150 := q_150.1
          have e_150 := g_150.1
          have u_150 : J_119 19 = J 19 := (q_119).2.2.2.2 19 rfl
          have k8_150 : J_119 8 t = J 8 t := ((q_119).2.2.2.1.1 t ht.1 ht.2).2.1
          refine tz_istore (pc := 153) (L2 := [_, _, _, _, _, _, _, _, _]) dX2_appliedPart_153 (by decide) rfl ?_
          refine tz_aload_n (pc := 155) dX2_appliedPart_155 rfl rfl ?_
          refine tz_fR (pc := 156) dX2_appliedPart_156 fl_X2_28 r_141_0 ?_
          refine tz_aload_n (pc := 159) dX2_appliedPart_159 rfl rfl ?_
          refine tz_fR (pc := 160) dX2_appliedPart_160 fl_X2_28 r_141_0 ?_
          refine tz_fR (pc := 163) dX2_appliedPart_163 fl_X2_42 r_6_1 ?_
          refine tz_iload_n (pc := 166) dX2_appliedPart_166 rfl rfl ?_
          refine tz_aL (pc := 167) (z := t) (v := (J_150 7 t)) dX2_appliedPart_167 a_7 rfl (by omega) rfl (fun r_167 => ?_)
          refine tz_iload (pc := 168) dX2_appliedPart_168 rfl ?_
          refine tz_iload (pc := 170) dX2_appliedPart_170 rfl ?_
          refine tz_iload (pc := 172) dX2_appliedPart_172 rfl ?_
          refine tz_cV (pc := 174) (c_made hl n _ _ _ _ _ (by omega) (by omega) (by omega) (by omega) m_150 (q_150).2.1 (q_150).2.2.1 (by have := (q_150).2.1.ar (t := t) (by omega) (by have := (q_150).1; omega); omega) (ltA_of (by omega) (by omega) (by omega))) vl_X2_52 dX2_appliedPart_174 o_6 rfl rfl (Nat.le_of_ble_eq_true rfl) ⟨(Nat.le_of_ble_eq_true rfl), (Nat.le_of_ble_eq_true rfl)⟩ rfl rfl (Nat.le_of_ble_eq_true rfl) (Nat.le_of_ble_eq_true rfl) (fun r9 J_174 hq9 => ?_)
          obtain ⟨z_174, rfl, hz_174, p_9⟩ := hq9
          obtain ⟨m9, g9, h9⟩ := GR.made p_9 (by omega)
          have q9 := GR.tr q_150 g9
          exact tz_iret (pc := 177) (z := z_174) dX2_appliedPart_177 rfl (Nat.le_of_ble_eq_true rfl) (Nat.le_of_ble_eq_true rfl) ⟨Nat.le_refl _, Nat.le_add_right _ _⟩ ⟨_, rfl, (by omega), ⟨m9, q9, h9, fun S β hβ hG E => ap_c hG E hm ht (by omega) (ap_end (fun S t h => apO_f h) hG E C hm ht (Or.inr ⟨by rw [show J 8 t = J 8 t from rfl]; omega, rfl, rfl⟩) (Or.inl ⟨by omega, g_119, hz_119, fun S9 h9 E9 => x_119 S9 β (fun v a c => by rw [u_119]; exact hβ v a c) h9 E9⟩) (Or.inl ⟨by omega, g_150, hz_150, fun S9 h9 E9 => x_150 S9 β (fun v a c => by rw [u_150]; exact hβ v a c) h9 E9⟩) (by rw [show J 7 t = J_150 7 t from (((q_150).2.2.2.1.1 t ht.1 ht.2).1).symm]; exact p_9))⟩⟩
        · refine tz_iconst (pc := 130) dX2_appliedPart_130 ?_
          refine tz_goto (pc := 131) (tgt := 153) dX2_appliedPart_131 (by decide) ?_
          refine tz_istore (pc := 153) (L2 := [_, _, _, _, _, _, _, _, _]) dX2_appliedPart_153 (by decide) rfl ?_
          refine tz_aload_n (pc := 155) dX2_appliedPart_155 rfl rfl ?_
          refine tz_fR (pc := 156) dX2_appliedPart_156 fl_X2_28 r_141_0 ?_
          refine tz_aload_n (pc := 159) dX2_appliedPart_159 rfl rfl ?_
          refine tz_fR (pc := 160) dX2_appliedPart_160 fl_X2_28 r_141_0 ?_
          refine tz_fR (pc := 163) dX2_appliedPart_163 fl_X2_42 r_6_1 ?_
          refine tz_iload_n (pc := 166) dX2_appliedPart_166 rfl rfl ?_
          refine tz_aL (pc := 167) (z := t) (v := (J_119 7 t)) dX2_appliedPart_167 a_7 rfl (by omega) rfl (fun r_167 => ?_)
          refine tz_iload (pc := 168) dX2_appliedPart_168 rfl ?_
          refine tz_iload (pc := 170) dX2_appliedPart_170 rfl ?_
          refine tz_iload (pc := 172) dX2_appliedPart_172 rfl ?_
          refine tz_cV (pc := 174) (c_made hl n _ _ _ _ _ (by omega) (by omega) (by omega) (by omega) m_119 (q_119).2.1 (q_119).2.2.1 (by have := (q_119).2.1.ar (t := t) (by omega) (by have := (q_119).1; omega); omega) (ltA_of (by omega) (by omega) (by omega))) vl_X2_52 dX2_appliedPart_174 o_6 rfl rfl (Nat.le_of_ble_eq_true rfl) ⟨(Nat.le_of_ble_eq_true rfl), (Nat.le_of_ble_eq_true rfl)⟩ rfl rfl (Nat.le_of_ble_eq_true rfl) (Nat.le_of_ble_eq_true rfl) (fun r9 J_174 hq9 => ?_)
          obtain ⟨z_174, rfl, hz_174, p_9⟩ := hq9
          obtain ⟨m9, g9, h9⟩ := GR.made p_9 (by omega)
          have q9 := GR.tr q_119 g9
          exact tz_iret (pc := 177) (z := z_174) dX2_appliedPart_177 rfl (Nat.le_of_ble_eq_true rfl) (Nat.le_of_ble_eq_true rfl) ⟨Nat.le_refl _, Nat.le_add_right _ _⟩ ⟨_, rfl, (by omega), ⟨m9, q9, h9, fun S β hβ hG E => ap_c hG E hm ht (by omega) (ap_end (fun S t h => apO_f h) hG E C hm ht (Or.inr ⟨by rw [show J 8 t = J 8 t from rfl]; omega, rfl, rfl⟩) (Or.inl ⟨by omega, g_119, hz_119, fun S9 h9 E9 => x_119 S9 β (fun v a c => by rw [u_119]; exact hβ v a c) h9 E9⟩) (Or.inr ⟨by rw [show J_119 8 t = J 8 t from ((q_119).2.2.2.1.1 t ht.1 ht.2).2.1]; omega, rfl, rfl⟩) (by rw [show J 7 t = J_119 7 t from (((q_119).2.2.2.1.1 t ht.1 ht.2).1).symm]; exact p_9))⟩⟩
      · refine tz_iconst (pc := 99) dX2_appliedPart_99 ?_
        refine tz_goto (pc := 100) (tgt := 122) dX2_appliedPart_100 (by decide) ?_
        refine tz_istore (pc := 122) (L2 := [_, _, _, _, _, _, _, _, _]) dX2_appliedPart_122 (by decide) rfl ?_
        refine tz_iload (pc := 124) dX2_appliedPart_124 rfl ?_
        refine tz_iconst (pc := 126) dX2_appliedPart_126 ?_
        refine tz_icmp_ge (pc := 127) (tgt := 134) dX2_appliedPart_127 (by decide) (by omega) (by decide) (fun h_127 => ?_) (fun h_127 => ?_)
        · refine tz_aload_n (pc := 134) dX2_appliedPart_134 rfl rfl ?_
          refine tz_aload_n (pc := 135) dX2_appliedPart_135 rfl rfl ?_
          refine tz_fR (pc := 136) dX2_appliedPart_136 fl_X2_28 r_141_0 ?_
          refine tz_iload_n (pc := 139) dX2_appliedPart_139 rfl rfl ?_
          refine tz_iconst (pc := 140) dX2_appliedPart_140 ?_
          refine tz_cV (pc := 141) (c_arg hl n _ _ _ (by omega) (by decide) (by omega)) vl_X2_48 dX2_appliedPart_141 o_6 rfl rfl (Nat.le_of_ble_eq_true rfl) ⟨(Nat.le_of_ble_eq_true rfl), (Nat.le_of_ble_eq_true rfl)⟩ rfl rfl (Nat.le_of_ble_eq_true rfl) (Nat.le_of_ble_eq_true rfl) (fun r9 J_141 hq9 => ?_)
          obtain ⟨z_141, rfl, hz_141, rfl, rfl⟩ := hq9
          refine tz_aload_n (pc := 144) dX2_appliedPart_144 rfl rfl ?_
          refine tz_iload_n (pc := 145) dX2_appliedPart_145 rfl rfl ?_
          refine tz_iload (pc := 146) dX2_appliedPart_146 rfl ?_
          refine tz_iconst (pc := 148) dX2_appliedPart_148 ?_
          refine tz_iadd (pc := 149) (v := 2) dX2_appliedPart_149 (by decide) ?_
          have b_150 := GR.arg (GR.rf C hm) C ht (i := 2) (by omega)
          have c_150 := ((GR.rf C hm)).1
          refine tz_cV (pc := 150) (x_app19_2 hl n _ _ (by omega) m ((GR.rf C hm)).2.1 ((GR.rf C hm)).2.2.1 (by omega) (GR.row (GR.rf C hm) rfl hr)) vl_X2_32 dX2_appliedPart_150 o_141 rfl rfl (Nat.le_of_ble_eq_true rfl) ⟨(Nat.le_of_ble_eq_true rfl), (Nat.le_of_ble_eq_true rfl)⟩ rfl rfl (Nat.le_of_ble_eq_true rfl) (Nat.le_of_ble_eq_true rfl) (fun r9 J_150 hq9 => ?_)
          obtain ⟨z_150, rfl, hz_150, m_150, g_150, hz_150, x_150⟩ := hq9
          have q_150 := GR.tr (GR.rf C hm) g_150
          have d_150 := q_150.1
          have e_150 := g_150.1
          have u_150 : J 19 = J 19 := ((GR.rf C hm)).2.2.2.2 19 rfl
          have k8_150 : J 8 t = J 8 t := (((GR.rf C hm)).2.2.2.1.1 t ht.1 ht.2).2.1
          refine tz_istore (pc := 153) (L2 := [_, _, _, _, _, _, _, _, _]) dX2_appliedPart_153 (by decide) rfl ?_
          refine tz_aload_n (pc := 155) dX2_appliedPart_155 rfl rfl ?_
          refine tz_fR (pc := 156) dX2_appliedPart_156 fl_X2_28 r_141_0 ?_
          refine tz_aload_n (pc := 159) dX2_appliedPart_159 rfl rfl ?_
          refine tz_fR (pc := 160) dX2_appliedPart_160 fl_X2_28 r_141_0 ?_
          refine tz_fR (pc := 163) dX2_appliedPart_163 fl_X2_42 r_6_1 ?_
          refine tz_iload_n (pc := 166) dX2_appliedPart_166 rfl rfl ?_
          refine tz_aL (pc := 167) (z := t) (v := (J_150 7 t)) dX2_appliedPart_167 a_7 rfl (by omega) rfl (fun r_167 => ?_)
          refine tz_iload (pc := 168) dX2_appliedPart_168 rfl ?_
          refine tz_iload (pc := 170) dX2_appliedPart_170 rfl ?_
          refine tz_iload (pc := 172) dX2_appliedPart_172 rfl ?_
          refine tz_cV (pc := 174) (c_made hl n _ _ _ _ _ (by omega) (by omega) (by omega) (by omega) m_150 (q_150).2.1 (q_150).2.2.1 (by have := (q_150).2.1.ar (t := t) (by omega) (by have := (q_150).1; omega); omega) (ltA_of (by omega) (by omega) (by omega))) vl_X2_52 dX2_appliedPart_174 o_6 rfl rfl (Nat.le_of_ble_eq_true rfl) ⟨(Nat.le_of_ble_eq_true rfl), (Nat.le_of_ble_eq_true rfl)⟩ rfl rfl (Nat.le_of_ble_eq_true rfl) (Nat.le_of_ble_eq_true rfl) (fun r9 J_174 hq9 => ?_)
          obtain ⟨z_174, rfl, hz_174, p_9⟩ := hq9
          obtain ⟨m9, g9, h9⟩ := GR.made p_9 (by omega)
          have q9 := GR.tr q_150 g9
          exact tz_iret (pc := 177) (z := z_174) dX2_appliedPart_177 rfl (Nat.le_of_ble_eq_true rfl) (Nat.le_of_ble_eq_true rfl) ⟨Nat.le_refl _, Nat.le_add_right _ _⟩ ⟨_, rfl, (by omega), ⟨m9, q9, h9, fun S β hβ hG E => ap_c hG E hm ht (by omega) (ap_end (fun S t h => apO_f h) hG E C hm ht (Or.inr ⟨by rw [show J 8 t = J 8 t from rfl]; omega, rfl, rfl⟩) (Or.inr ⟨by rw [show J 8 t = J 8 t from rfl]; omega, rfl, rfl⟩) (Or.inl ⟨by omega, g_150, hz_150, fun S9 h9 E9 => x_150 S9 β (fun v a c => by rw [u_150]; exact hβ v a c) h9 E9⟩) (by rw [show J 7 t = J_150 7 t from (((q_150).2.2.2.1.1 t ht.1 ht.2).1).symm]; exact p_9))⟩⟩
        · refine tz_iconst (pc := 130) dX2_appliedPart_130 ?_
          refine tz_goto (pc := 131) (tgt := 153) dX2_appliedPart_131 (by decide) ?_
          refine tz_istore (pc := 153) (L2 := [_, _, _, _, _, _, _, _, _]) dX2_appliedPart_153 (by decide) rfl ?_
          refine tz_aload_n (pc := 155) dX2_appliedPart_155 rfl rfl ?_
          refine tz_fR (pc := 156) dX2_appliedPart_156 fl_X2_28 r_141_0 ?_
          refine tz_aload_n (pc := 159) dX2_appliedPart_159 rfl rfl ?_
          refine tz_fR (pc := 160) dX2_appliedPart_160 fl_X2_28 r_141_0 ?_
          refine tz_fR (pc := 163) dX2_appliedPart_163 fl_X2_42 r_6_1 ?_
          refine tz_iload_n (pc := 166) dX2_appliedPart_166 rfl rfl ?_
          refine tz_aL (pc := 167) (z := t) (v := (J 7 t)) dX2_appliedPart_167 a_7 rfl (by omega) rfl (fun r_167 => ?_)
          refine tz_iload (pc := 168) dX2_appliedPart_168 rfl ?_
          refine tz_iload (pc := 170) dX2_appliedPart_170 rfl ?_
          refine tz_iload (pc := 172) dX2_appliedPart_172 rfl ?_
          refine tz_cV (pc := 174) (c_made hl n _ _ _ _ _ (by omega) (by omega) (by omega) (by omega) m ((GR.rf C hm)).2.1 ((GR.rf C hm)).2.2.1 (by have := ((GR.rf C hm)).2.1.ar (t := t) (by omega) (by have := ((GR.rf C hm)).1; omega); omega) (ltA_of (by omega) (by omega) (by omega))) vl_X2_52 dX2_appliedPart_174 o_6 rfl rfl (Nat.le_of_ble_eq_true rfl) ⟨(Nat.le_of_ble_eq_true rfl), (Nat.le_of_ble_eq_true rfl)⟩ rfl rfl (Nat.le_of_ble_eq_true rfl) (Nat.le_of_ble_eq_true rfl) (fun r9 J_174 hq9 => ?_)
          obtain ⟨z_174, rfl, hz_174, p_9⟩ := hq9
          obtain ⟨m9, g9, h9⟩ := GR.made p_9 (by omega)
          have q9 := GR.tr (GR.rf C hm) g9
          exact tz_iret (pc := 177) (z := z_174) dX2_appliedPart_177 rfl (Nat.le_of_ble_eq_true rfl) (Nat.le_of_ble_eq_true rfl) ⟨Nat.le_refl _, Nat.le_add_right _ _⟩ ⟨_, rfl, (by omega), ⟨m9, q9, h9, fun S β hβ hG E => ap_c hG E hm ht (by omega) (ap_end (fun S t h => apO_f h) hG E C hm ht (Or.inr ⟨by rw [show J 8 t = J 8 t from rfl]; omega, rfl, rfl⟩) (Or.inr ⟨by rw [show J 8 t = J 8 t from rfl]; omega, rfl, rfl⟩) (Or.inr ⟨by rw [show J 8 t = J 8 t from rfl]; omega, rfl, rfl⟩) (by rw [show J 7 t = J 7 t from rfl]; exact p_9))⟩⟩

set_option maxHeartbeats 4000000 in
set_option maxRecDepth 100000 in
theorem x_app140_7 {l : Launch} {G : tb_G} (hl : l.stackTraces = false) (n : Nat) (J : zJ) (t : Int) (hr_t : -2147483648 ≤ t ∧ t < 2147483648) (m : Int) (C : CT J m) (hm : J 6 12 = m) (ht : 0 ≤ t ∧ t < m) (hr : rOK J 140 0 m) : tz_Ok l G M_X2_appliedPart 0 0 0 [.ref 141, zi t, .ref 140, zi 0, zi 7] n J (zqi (fun z J' => ∃ m', GR J' J m m' ∧ (z = -3 ∨ (0 ≤ z ∧ z < m')) ∧ ∀ (S : zJ) (β : Int → Int), (∀ v, 0 ≤ v → v < 8 → β v = J 140 (0 + v)) → S 164 21 = 0 → A0 J S → EXO (apO β 0 S t) z J')) zN := by
  refine tz_Ok.of hl (by decide +kernel) rfl (tb_c1 rfl) (Nat.le_of_ble_eq_true rfl) ?_
  show tz_At l G M_X2_appliedPart (tb_rm 0 0 0) none (tb_ZM G 0 0 (zQ n 0 (zqi (fun z J' => ∃ m', GR J' J m m' ∧ (z = -3 ∨ (0 ≤ z ∧ z < m')) ∧ ∀ (S : zJ) (β : Int → Int), (∀ v, 0 ≤ v → v < 8 → β v = J 140 (0 + v)) → S 164 21 = 0 → A0 J S → EXO (apO β 0 S t) z J'))) (zX n 0 zN)) 0 0 n J 0 [some (.ref 141), some (zi t), some (.ref 140), some (zi 0), some (zi 7), none, none, none, none] []
  refine tz_iload (pc := 0) dX2_appliedPart_0 rfl ?_
  refine tz_bipush (pc := 2) dX2_appliedPart_2 (by decide) ?_
  refine tz_icmp_leF (pc := 4) (tgt := 10) (by decide) dX2_appliedPart_4 (by decide) (by decide) (by decide) ?_
  refine tz_bipush (pc := 7) dX2_appliedPart_7 (by decide) ?_
  exact tz_iret (pc := 9) (z := (-3)) dX2_appliedPart_9 rfl (Nat.le_of_ble_eq_true rfl) (Nat.le_of_ble_eq_true rfl) ⟨Nat.le_refl _, Nat.le_add_right _ _⟩ ⟨_, rfl, (by decide), ⟨m, GR.rf C hm, Or.inl rfl, fun S β _ _ _ => Or.inl ⟨rfl, by show ¬ (1 : Int) = 0; decide⟩⟩⟩

set_option maxHeartbeats 4000000 in
set_option maxRecDepth 100000 in
theorem x_app140_6 {l : Launch} {G : tb_G} (hl : l.stackTraces = false) (n : Nat) (J : zJ) (t : Int) (hr_t : -2147483648 ≤ t ∧ t < 2147483648) (m : Int) (C : CT J m) (hm : J 6 12 = m) (ht : 0 ≤ t ∧ t < m) (hr : rOK J 140 0 m) : tz_Ok l G M_X2_appliedPart 3 0 0 [.ref 141, zi t, .ref 140, zi 0, zi 6] n J (zqi (fun z J' => ∃ m', GR J' J m m' ∧ (z = -3 ∨ (0 ≤ z ∧ z < m')) ∧ ∀ (S : zJ) (β : Int → Int), (∀ v, 0 ≤ v → v < 8 → β v = J 140 (0 + v)) → S 164 21 = 0 → A0 J S → EXO (apO β 1 S t) z J')) zN := by
  refine tz_Ok.of hl (by decide +kernel) rfl (tb_c1 rfl) (Nat.le_of_ble_eq_true rfl) ?_
  show tz_At l G M_X2_appliedPart (tb_rm 3 0 0) none (tb_ZM G 0 0 (zQ n 0 (zqi (fun z J' => ∃ m', GR J' J m m' ∧ (z = -3 ∨ (0 ≤ z ∧ z < m')) ∧ ∀ (S : zJ) (β : Int → Int), (∀ v, 0 ≤ v → v < 8 → β v = J 140 (0 + v)) → S 164 21 = 0 → A0 J S → EXO (apO β 1 S t) z J'))) (zX n 0 zN)) 0 0 n J 0 [some (.ref 141), some (zi t), some (.ref 140), some (zi 0), some (zi 6), none, none, none, none] []
  have hb := C.told
  have ha := C.ar ht.1 ht.2
  refine tz_iload (pc := 0) dX2_appliedPart_0 rfl ?_
  refine tz_bipush (pc := 2) dX2_appliedPart_2 (by decide) ?_
  refine tz_icmp_leT (pc := 4) (tgt := 10) (by decide) dX2_appliedPart_4 (by decide) (by decide) (by decide) ?_
  refine tz_aload_n (pc := 10) dX2_appliedPart_10 rfl rfl ?_
  refine tz_fR (pc := 11) dX2_appliedPart_11 fl_X2_28 r_141_0 ?_
  refine tz_iload_n (pc := 14) dX2_appliedPart_14 rfl rfl ?_
  refine tz_cV (pc := 15) (c_isVar hl n _ _ (by omega) (by omega)) vl_X2_36 dX2_appliedPart_15 o_6 rfl rfl (Nat.le_of_ble_eq_true rfl) ⟨(Nat.le_of_ble_eq_true rfl), (Nat.le_of_ble_eq_true rfl)⟩ rfl rfl (Nat.le_of_ble_eq_true rfl) (Nat.le_of_ble_eq_true rfl) (fun r9 J_15 hq9 => ?_)
  obtain ⟨z_15, rfl, hz_15, rfl, rfl⟩ := hq9
  by_cases hw_18 : J 7 t < 0
  · rw [show (if J 7 t < 0 then 1 else 0 : Int) = 1 from if_pos hw_18]
    refine tz_if_eqF (pc := 18) (tgt := 51) (by decide) dX2_appliedPart_18 (by decide) (by decide) ?_
    refine tz_aload_n (pc := 21) dX2_appliedPart_21 rfl rfl ?_
    refine tz_iload_n (pc := 22) dX2_appliedPart_22 rfl rfl ?_
    refine tz_aload_n (pc := 23) dX2_appliedPart_23 rfl rfl ?_
    refine tz_fR (pc := 24) dX2_appliedPart_24 fl_X2_28 r_141_0 ?_
    refine tz_fR (pc := 27) dX2_appliedPart_27 fl_X2_42 r_6_1 ?_
    refine tz_iload_n (pc := 30) dX2_appliedPart_30 rfl rfl ?_
    refine tz_aL (pc := 31) (z := t) (v := (J 7 t)) dX2_appliedPart_31 a_7 rfl (by omega) rfl (fun r_31 => ?_)
    refine tz_iconst (pc := 32) dX2_appliedPart_32 ?_
    refine tz_ixor (pc := 33) (v := -1 - J 7 t) dX2_appliedPart_33 (z_nn (by omega)) ?_
    refine tz_iadd (pc := 34) (v := 0 + (-1 - J 7 t)) dX2_appliedPart_34 rfl ?_
    have hv := hr (-1 - J 7 t) (by omega) (by omega)
    refine tz_aL (pc := 35) (z := (0 + (-1 - J 7 t))) (v := (J 140 (0 + (-1 - J 7 t)))) dX2_appliedPart_35 a_140 rfl (by omega) rfl (fun r_35 => ?_)
    refine tz_istore (pc := 36) (L2 := [_, _, _, _, _, _, _, _, _]) dX2_appliedPart_36 (by decide) rfl ?_
    refine tz_iload (pc := 38) dX2_appliedPart_38 rfl ?_
    refine tz_iconst (pc := 40) dX2_appliedPart_40 ?_
    refine tz_icmp_ne (pc := 41) (tgt := 48) dX2_appliedPart_41 (by decide) (by omega) (by decide) (fun h_41 => ?_) (fun h_41 => ?_)
    · refine tz_iload (pc := 48) dX2_appliedPart_48 rfl ?_
      exact tz_iret (pc := 50) (z := (J 140 (0 + (-1 - J 7 t)))) dX2_appliedPart_50 rfl (Nat.le_of_ble_eq_true rfl) (Nat.le_of_ble_eq_true rfl) ⟨Nat.le_refl _, Nat.le_add_right _ _⟩ ⟨_, rfl, (by omega), ⟨m, GR.rf C hm, Or.inr (by omega), fun S β hβ hG E => ap_v hG E hm ht (by omega) (by omega) (by have := hβ (-1 - J 7 t) (by omega) (by omega); rw [this]; omega)⟩⟩
    · refine tz_iload_n (pc := 44) dX2_appliedPart_44 rfl rfl ?_
      refine tz_goto (pc := 45) (tgt := 50) dX2_appliedPart_45 (by decide) ?_
      exact tz_iret (pc := 50) (z := t) dX2_appliedPart_50 rfl (Nat.le_of_ble_eq_true rfl) (Nat.le_of_ble_eq_true rfl) ⟨Nat.le_refl _, Nat.le_add_right _ _⟩ ⟨_, rfl, (by omega), ⟨m, GR.rf C hm, Or.inr (by omega), fun S β hβ hG E => ap_v hG E hm ht (by omega) (by omega) (by have := hβ (-1 - J 7 t) (by omega) (by omega); rw [this]; omega)⟩⟩
  · rw [show (if J 7 t < 0 then 1 else 0 : Int) = 0 from if_neg hw_18]
    refine tz_if_eqT (pc := 18) (tgt := 51) (by decide) dX2_appliedPart_18 (by decide) (by decide) ?_
    refine tz_aload_n (pc := 51) dX2_appliedPart_51 rfl rfl ?_
    refine tz_fR (pc := 52) dX2_appliedPart_52 fl_X2_28 r_141_0 ?_
    refine tz_fR (pc := 55) dX2_appliedPart_55 fl_X2_45 r_6_2 ?_
    refine tz_iload_n (pc := 58) dX2_appliedPart_58 rfl rfl ?_
    refine tz_aL (pc := 59) (z := t) (v := (J 8 t)) dX2_appliedPart_59 a_8 rfl (by omega) rfl (fun r_59 => ?_)
    refine tz_istore (pc := 60) (L2 := [_, _, _, _, _, _, _, _, _]) dX2_appliedPart_60 (by decide) rfl ?_
    refine tz_iload (pc := 62) dX2_appliedPart_62 rfl ?_
    refine tz_iconst (pc := 64) dX2_appliedPart_64 ?_
    refine tz_icmp_ge (pc := 65) (tgt := 72) dX2_appliedPart_65 (by decide) (by omega) (by decide) (fun h_65 => ?_) (fun h_65 => ?_)
    · refine tz_aload_n (pc := 72) dX2_appliedPart_72 rfl rfl ?_
      refine tz_aload_n (pc := 73) dX2_appliedPart_73 rfl rfl ?_
      refine tz_fR (pc := 74) dX2_appliedPart_74 fl_X2_28 r_141_0 ?_
      refine tz_iload_n (pc := 77) dX2_appliedPart_77 rfl rfl ?_
      refine tz_iconst (pc := 78) dX2_appliedPart_78 ?_
      refine tz_cV (pc := 79) (c_arg hl n _ _ _ (by omega) (by decide) (by omega)) vl_X2_48 dX2_appliedPart_79 o_6 rfl rfl (Nat.le_of_ble_eq_true rfl) ⟨(Nat.le_of_ble_eq_true rfl), (Nat.le_of_ble_eq_true rfl)⟩ rfl rfl (Nat.le_of_ble_eq_true rfl) (Nat.le_of_ble_eq_true rfl) (fun r9 J_79 hq9 => ?_)
      obtain ⟨z_79, rfl, hz_79, rfl, rfl⟩ := hq9
      refine tz_aload_n (pc := 82) dX2_appliedPart_82 rfl rfl ?_
      refine tz_iload_n (pc := 83) dX2_appliedPart_83 rfl rfl ?_
      refine tz_iload (pc := 84) dX2_appliedPart_84 rfl ?_
      refine tz_iconst (pc := 86) dX2_appliedPart_86 ?_
      refine tz_iadd (pc := 87) (v := 7) dX2_appliedPart_87 (by decide) ?_
      have b_88 := GR.arg (GR.rf C hm) C ht (i := 0) (by omega)
      have c_88 := ((GR.rf C hm)).1
      refine tz_cV (pc := 88) (x_app140_7 hl n _ _ (by omega) m ((GR.rf C hm)).2.1 ((GR.rf C hm)).2.2.1 (by omega) (GR.row (GR.rf C hm) rfl hr)) vl_X2_32 dX2_appliedPart_88 o_141 rfl rfl (Nat.le_of_ble_eq_true rfl) ⟨(Nat.le_of_ble_eq_true rfl), (Nat.le_of_ble_eq_true rfl)⟩ rfl rfl (Nat.le_of_ble_eq_true rfl) (Nat.le_of_ble_eq_true rfl) (fun r9 J_88 hq9 => ?_)
      obtain ⟨z_88, rfl, hz_88, m_88, g_88, hz_88, x_88⟩ := hq9
      have q_88 := GR.tr (GR.rf C hm) g_88
      have d_88 := q_88.1
      have e_88 := g_88.1
      have u_88 : J 140 = J 140 := ((GR.rf C hm)).2.2.2.2 140 rfl
      have k8_88 : J 8 t = J 8 t := (((GR.rf C hm)).2.2.2.1.1 t ht.1 ht.2).2.1
      refine tz_istore (pc := 91) (L2 := [_, _, _, _, _, _, _, _, _]) dX2_appliedPart_91 (by decide) rfl ?_
      refine tz_iload (pc := 93) dX2_appliedPart_93 rfl ?_
      refine tz_iconst (pc := 95) dX2_appliedPart_95 ?_
      refine tz_icmp_ge (pc := 96) (tgt := 103) dX2_appliedPart_96 (by decide) (by omega) (by decide) (fun h_96 => ?_) (fun h_96 => ?_)
      · refine tz_aload_n (pc := 103) dX2_appliedPart_103 rfl rfl ?_
        refine tz_aload_n (pc := 104) dX2_appliedPart_104 rfl rfl ?_
        refine tz_fR (pc := 105) dX2_appliedPart_105 fl_X2_28 r_141_0 ?_
        refine tz_iload_n (pc := 108) dX2_appliedPart_108 rfl rfl ?_
        refine tz_iconst (pc := 109) dX2_appliedPart_109 ?_
        refine tz_cV (pc := 110) (c_arg hl n _ _ _ (by omega) (by decide) (by omega)) vl_X2_48 dX2_appliedPart_110 o_6 rfl rfl (Nat.le_of_ble_eq_true rfl) ⟨(Nat.le_of_ble_eq_true rfl), (Nat.le_of_ble_eq_true rfl)⟩ rfl rfl (Nat.le_of_ble_eq_true rfl) (Nat.le_of_ble_eq_true rfl) (fun r9 J_110 hq9 => ?_)
        obtain ⟨z_110, rfl, hz_110, rfl, rfl⟩ := hq9
        refine tz_aload_n (pc := 113) dX2_appliedPart_113 rfl rfl ?_
        refine tz_iload_n (pc := 114) dX2_appliedPart_114 rfl rfl ?_
        refine tz_iload (pc := 115) dX2_appliedPart_115 rfl ?_
        refine tz_iconst (pc := 117) dX2_appliedPart_117 ?_
        refine tz_iadd (pc := 118) (v := 7) dX2_appliedPart_118 (by decide) ?_
        have b_119 := GR.arg q_88 C ht (i := 1) (by omega)
        have c_119 := (q_88).1
        refine tz_cV (pc := 119) (x_app140_7 hl n _ _ (by omega) m_88 (q_88).2.1 (q_88).2.2.1 (by omega) (GR.row q_88 rfl hr)) vl_X2_32 dX2_appliedPart_119 o_141 rfl rfl (Nat.le_of_ble_eq_true rfl) ⟨(Nat.le_of_ble_eq_true rfl), (Nat.le_of_ble_eq_true rfl)⟩ rfl rfl (Nat.le_of_ble_eq_true rfl) (Nat.le_of_ble_eq_true rfl) (fun r9 J_119 hq9 => ?_)
        obtain ⟨z_119, rfl, hz_119, m_119, g_119, hz_119, x_119⟩ := hq9
        have q_119 := GR.tr q_88 g_119
        have d_119 := q_119.1
        have e_119 := g_119.1
        have u_119 : J_88 140 = J 140 := (q_88).2.2.2.2 140 rfl
        have k8_119 : J_88 8 t = J 8 t := ((q_88).2.2.2.1.1 t ht.1 ht.2).2.1
        refine tz_istore (pc := 122) (L2 := [_, _, _, _, _, _, _, _, _]) dX2_appliedPart_122 (by decide) rfl ?_
        refine tz_iload (pc := 124) dX2_appliedPart_124 rfl ?_
        refine tz_iconst (pc := 126) dX2_appliedPart_126 ?_
        refine tz_icmp_ge (pc := 127) (tgt := 134) dX2_appliedPart_127 (by decide) (by omega) (by decide) (fun h_127 => ?_) (fun h_127 => ?_)
        · refine tz_aload_n (pc := 134) dX2_appliedPart_134 rfl rfl ?_
          refine tz_aload_n (pc := 135) dX2_appliedPart_135 rfl rfl ?_
          refine tz_fR (pc := 136) dX2_appliedPart_136 fl_X2_28 r_141_0 ?_
          refine tz_iload_n (pc := 139) dX2_appliedPart_139 rfl rfl ?_
          refine tz_iconst (pc := 140) dX2_appliedPart_140 ?_
          refine tz_cV (pc := 141) (c_arg hl n _ _ _ (by omega) (by decide) (by omega)) vl_X2_48 dX2_appliedPart_141 o_6 rfl rfl (Nat.le_of_ble_eq_true rfl) ⟨(Nat.le_of_ble_eq_true rfl), (Nat.le_of_ble_eq_true rfl)⟩ rfl rfl (Nat.le_of_ble_eq_true rfl) (Nat.le_of_ble_eq_true rfl) (fun r9 J_141 hq9 => ?_)
          obtain ⟨z_141, rfl, hz_141, rfl, rfl⟩ := hq9
          refine tz_aload_n (pc := 144) dX2_appliedPart_144 rfl rfl ?_
          refine tz_iload_n (pc := 145) dX2_appliedPart_145 rfl rfl ?_
          refine tz_iload (pc := 146) dX2_appliedPart_146 rfl ?_
          refine tz_iconst (pc := 148) dX2_appliedPart_148 ?_
          refine tz_iadd (pc := 149) (v := 7) dX2_appliedPart_149 (by decide) ?_
          have b_150 := GR.arg q_119 C ht (i := 2) (by omega)
          have c_150 := (q_119).1
          refine tz_cV (pc := 150) (x_app140_7 hl n _ _ (by omega) m_119 (q_119).2.1 (q_119).2.2.1 (by omega) (GR.row q_119 rfl hr)) vl_X2_32 dX2_appliedPart_150 o_141 rfl rfl (Nat.le_of_ble_eq_true rfl) ⟨(Nat.le_of_ble_eq_true rfl), (Nat.le_of_ble_eq_true rfl)⟩ rfl rfl (Nat.le_of_ble_eq_true rfl) (Nat.le_of_ble_eq_true rfl) (fun r9 J_150 hq9 => ?_)
          obtain ⟨z_150, rfl, hz_150, m_150, g_150, hz_150, x_150⟩ := hq9
          have q_150 := GR.tr q_119 g_150
          have d_150 := q_150.1
          have e_150 := g_150.1
          have u_150 : J_119 140 = J 140 := (q_119).2.2.2.2 140 rfl
          have k8_150 : J_119 8 t = J 8 t := ((q_119).2.2.2.1.1 t ht.1 ht.2).2.1
          refine tz_istore (pc := 153) (L2 := [_, _, _, _, _, _, _, _, _]) dX2_appliedPart_153 (by decide) rfl ?_
          refine tz_aload_n (pc := 155) dX2_appliedPart_155 rfl rfl ?_
          refine tz_fR (pc := 156) dX2_appliedPart_156 fl_X2_28 r_141_0 ?_
          refine tz_aload_n (pc := 159) dX2_appliedPart_159 rfl rfl ?_
          refine tz_fR (pc := 160) dX2_appliedPart_160 fl_X2_28 r_141_0 ?_
          refine tz_fR (pc := 163) dX2_appliedPart_163 fl_X2_42 r_6_1 ?_
          refine tz_iload_n (pc := 166) dX2_appliedPart_166 rfl rfl ?_
          refine tz_aL (pc := 167) (z := t) (v := (J_150 7 t)) dX2_appliedPart_167 a_7 rfl (by omega) rfl (fun r_167 => ?_)
          refine tz_iload (pc := 168) dX2_appliedPart_168 rfl ?_
          refine tz_iload (pc := 170) dX2_appliedPart_170 rfl ?_
          refine tz_iload (pc := 172) dX2_appliedPart_172 rfl ?_
          refine tz_cV (pc := 174) (c_made hl n _ _ _ _ _ (by omega) (by omega) (by omega) (by omega) m_150 (q_150).2.1 (q_150).2.2.1 (by have := (q_150).2.1.ar (t := t) (by omega) (by have := (q_150).1; omega); omega) (ltA_of (by omega) (by omega) (by omega))) vl_X2_52 dX2_appliedPart_174 o_6 rfl rfl (Nat.le_of_ble_eq_true rfl) ⟨(Nat.le_of_ble_eq_true rfl), (Nat.le_of_ble_eq_true rfl)⟩ rfl rfl (Nat.le_of_ble_eq_true rfl) (Nat.le_of_ble_eq_true rfl) (fun r9 J_174 hq9 => ?_)
          obtain ⟨z_174, rfl, hz_174, p_9⟩ := hq9
          obtain ⟨m9, g9, h9⟩ := GR.made p_9 (by omega)
          have q9 := GR.tr q_150 g9
          exact tz_iret (pc := 177) (z := z_174) dX2_appliedPart_177 rfl (Nat.le_of_ble_eq_true rfl) (Nat.le_of_ble_eq_true rfl) ⟨Nat.le_refl _, Nat.le_add_right _ _⟩ ⟨_, rfl, (by omega), ⟨m9, q9, h9, fun S β hβ hG E => ap_c hG E hm ht (by omega) (ap_end (fun S t h => apO_f h) hG E C hm ht (Or.inl ⟨by omega, g_88, hz_88, fun S9 h9 E9 => x_88 S9 β (fun v a c => by rw [u_88]; exact hβ v a c) h9 E9⟩) (Or.inl ⟨by omega, g_119, hz_119, fun S9 h9 E9 => x_119 S9 β (fun v a c => by rw [u_119]; exact hβ v a c) h9 E9⟩) (Or.inl ⟨by omega, g_150, hz_150, fun S9 h9 E9 => x_150 S9 β (fun v a c => by rw [u_150]; exact hβ v a c) h9 E9⟩) (by rw [show J 7 t = J_150 7 t from (((q_150).2.2.2.1.1 t ht.1 ht.2).1).symm]; exact p_9))⟩⟩
        · refine tz_iconst (pc := 130) dX2_appliedPart_130 ?_
          refine tz_goto (pc := 131) (tgt := 153) dX2_appliedPart_131 (by decide) ?_
          refine tz_istore (pc := 153) (L2 := [_, _, _, _, _, _, _, _, _]) dX2_appliedPart_153 (by decide) rfl ?_
          refine tz_aload_n (pc := 155) dX2_appliedPart_155 rfl rfl ?_
          refine tz_fR (pc := 156) dX2_appliedPart_156 fl_X2_28 r_141_0 ?_
          refine tz_aload_n (pc := 159) dX2_appliedPart_159 rfl rfl ?_
          refine tz_fR (pc := 160) dX2_appliedPart_160 fl_X2_28 r_141_0 ?_
          refine tz_fR (pc := 163) dX2_appliedPart_163 fl_X2_42 r_6_1 ?_
          refine tz_iload_n (pc := 166) dX2_appliedPart_166 rfl rfl ?_
          refine tz_aL (pc := 167) (z := t) (v := (J_119 7 t)) dX2_appliedPart_167 a_7 rfl (by omega) rfl (fun r_167 => ?_)
          refine tz_iload (pc := 168) dX2_appliedPart_168 rfl ?_
          refine tz_iload (pc := 170) dX2_appliedPart_170 rfl ?_
          refine tz_iload (pc := 172) dX2_appliedPart_172 rfl ?_
          refine tz_cV (pc := 174) (c_made hl n _ _ _ _ _ (by omega) (by omega) (by omega) (by omega) m_119 (q_119).2.1 (q_119).2.2.1 (by have := (q_119).2.1.ar (t := t) (by omega) (by have := (q_119).1; omega); omega) (ltA_of (by omega) (by omega) (by omega))) vl_X2_52 dX2_appliedPart_174 o_6 rfl rfl (Nat.le_of_ble_eq_true rfl) ⟨(Nat.le_of_ble_eq_true rfl), (Nat.le_of_ble_eq_true rfl)⟩ rfl rfl (Nat.le_of_ble_eq_true rfl) (Nat.le_of_ble_eq_true rfl) (fun r9 J_174 hq9 => ?_)
          obtain ⟨z_174, rfl, hz_174, p_9⟩ := hq9
          obtain ⟨m9, g9, h9⟩ := GR.made p_9 (by omega)
          have q9 := GR.tr q_119 g9
          exact tz_iret (pc := 177) (z := z_174) dX2_appliedPart_177 rfl (Nat.le_of_ble_eq_true rfl) (Nat.le_of_ble_eq_true rfl) ⟨Nat.le_refl _, Nat.le_add_right _ _⟩ ⟨_, rfl, (by omega), ⟨m9, q9, h9, fun S β hβ hG E => ap_c hG E hm ht (by omega) (ap_end (fun S t h => apO_f h) hG E C hm ht (Or.inl ⟨by omega, g_88, hz_88, fun S9 h9 E9 => x_88 S9 β (fun v a c => by rw [u_88]; exact hβ v a c) h9 E9⟩) (Or.inl ⟨by omega, g_119, hz_119, fun S9 h9 E9 => x_119 S9 β (fun v a c => by rw [u_119]; exact hβ v a c) h9 E9⟩) (Or.inr ⟨by rw [show J_119 8 t = J 8 t from ((q_119).2.2.2.1.1 t ht.1 ht.2).2.1]; omega, rfl, rfl⟩) (by rw [show J 7 t = J_119 7 t from (((q_119).2.2.2.1.1 t ht.1 ht.2).1).symm]; exact p_9))⟩⟩
      · refine tz_iconst (pc := 99) dX2_appliedPart_99 ?_
        refine tz_goto (pc := 100) (tgt := 122) dX2_appliedPart_100 (by decide) ?_
        refine tz_istore (pc := 122) (L2 := [_, _, _, _, _, _, _, _, _]) dX2_appliedPart_122 (by decide) rfl ?_
        refine tz_iload (pc := 124) dX2_appliedPart_124 rfl ?_
        refine tz_iconst (pc := 126) dX2_appliedPart_126 ?_
        refine tz_icmp_ge (pc := 127) (tgt := 134) dX2_appliedPart_127 (by decide) (by omega) (by decide) (fun h_127 => ?_) (fun h_127 => ?_)
        · refine tz_aload_n (pc := 134) dX2_appliedPart_134 rfl rfl ?_
          refine tz_aload_n (pc := 135) dX2_appliedPart_135 rfl rfl ?_
          refine tz_fR (pc := 136) dX2_appliedPart_136 fl_X2_28 r_141_0 ?_
          refine tz_iload_n (pc := 139) dX2_appliedPart_139 rfl rfl ?_
          refine tz_iconst (pc := 140) dX2_appliedPart_140 ?_
          refine tz_cV (pc := 141) (c_arg hl n _ _ _ (by omega) (by decide) (by omega)) vl_X2_48 dX2_appliedPart_141 o_6 rfl rfl (Nat.le_of_ble_eq_true rfl) ⟨(Nat.le_of_ble_eq_true rfl), (Nat.le_of_ble_eq_true rfl)⟩ rfl rfl (Nat.le_of_ble_eq_true rfl) (Nat.le_of_ble_eq_true rfl) (fun r9 J_141 hq9 => ?_)
          obtain ⟨z_141, rfl, hz_141, rfl, rfl⟩ := hq9
          refine tz_aload_n (pc := 144) dX2_appliedPart_144 rfl rfl ?_
          refine tz_iload_n (pc := 145) dX2_appliedPart_145 rfl rfl ?_
          refine tz_iload (pc := 146) dX2_appliedPart_146 rfl ?_
          refine tz_iconst (pc := 148) dX2_appliedPart_148 ?_
          refine tz_iadd (pc := 149) (v := 7) dX2_appliedPart_149 (by decide) ?_
          have b_150 := GR.arg q_88 C ht (i := 2) (by omega)
          have c_150 := (q_88).1
          refine tz_cV (pc := 150) (x_app140_7 hl n _ _ (by omega) m_88 (q_88).2.1 (q_88).2.2.1 (by omega) (GR.row q_88 rfl hr)) vl_X2_32 dX2_appliedPart_150 o_141 rfl rfl (Nat.le_of_ble_eq_true rfl) ⟨(Nat.le_of_ble_eq_true rfl), (Nat.le_of_ble_eq_true rfl)⟩ rfl rfl (Nat.le_of_ble_eq_true rfl) (Nat.le_of_ble_eq_true rfl) (fun r9 J_150 hq9 => ?_)
          obtain ⟨z_150, rfl, hz_150, m_150, g_150, hz_150, x_150⟩ := hq9
          have q_150 := GR.tr q_88 g_150
          have d_150 := q_150.1
          have e_150 := g_150.1
          have u_150 : J_88 140 = J 140 := (q_88).2.2.2.2 140 rfl
          have k8_150 : J_88 8 t = J 8 t := ((q_88).2.2.2.1.1 t ht.1 ht.2).2.1
          refine tz_istore (pc := 153) (L2 := [_, _, _, _, _, _, _, _, _]) dX2_appliedPart_153 (by decide) rfl ?_
          refine tz_aload_n (pc := 155) dX2_appliedPart_155 rfl rfl ?_
          refine tz_fR (pc := 156) dX2_appliedPart_156 fl_X2_28 r_141_0 ?_
          refine tz_aload_n (pc := 159) dX2_appliedPart_159 rfl rfl ?_
          refine tz_fR (pc := 160) dX2_appliedPart_160 fl_X2_28 r_141_0 ?_
          refine tz_fR (pc := 163) dX2_appliedPart_163 fl_X2_42 r_6_1 ?_
          refine tz_iload_n (pc := 166) dX2_appliedPart_166 rfl rfl ?_
          refine tz_aL (pc := 167) (z := t) (v := (J_150 7 t)) dX2_appliedPart_167 a_7 rfl (by omega) rfl (fun r_167 => ?_)
          refine tz_iload (pc := 168) dX2_appliedPart_168 rfl ?_
          refine tz_iload (pc := 170) dX2_appliedPart_170 rfl ?_
          refine tz_iload (pc := 172) dX2_appliedPart_172 rfl ?_
          refine tz_cV (pc := 174) (c_made hl n _ _ _ _ _ (by omega) (by omega) (by omega) (by omega) m_150 (q_150).2.1 (q_150).2.2.1 (by have := (q_150).2.1.ar (t := t) (by omega) (by have := (q_150).1; omega); omega) (ltA_of (by omega) (by omega) (by omega))) vl_X2_52 dX2_appliedPart_174 o_6 rfl rfl (Nat.le_of_ble_eq_true rfl) ⟨(Nat.le_of_ble_eq_true rfl), (Nat.le_of_ble_eq_true rfl)⟩ rfl rfl (Nat.le_of_ble_eq_true rfl) (Nat.le_of_ble_eq_true rfl) (fun r9 J_174 hq9 => ?_)
          obtain ⟨z_174, rfl, hz_174, p_9⟩ := hq9
          obtain ⟨m9, g9, h9⟩ := GR.made p_9 (by omega)
          have q9 := GR.tr q_150 g9
          exact tz_iret (pc := 177) (z := z_174) dX2_appliedPart_177 rfl (Nat.le_of_ble_eq_true rfl) (Nat.le_of_ble_eq_true rfl) ⟨Nat.le_refl _, Nat.le_add_right _ _⟩ ⟨_, rfl, (by omega), ⟨m9, q9, h9, fun S β hβ hG E => ap_c hG E hm ht (by omega) (ap_end (fun S t h => apO_f h) hG E C hm ht (Or.inl ⟨by omega, g_88, hz_88, fun S9 h9 E9 => x_88 S9 β (fun v a c => by rw [u_88]; exact hβ v a c) h9 E9⟩) (Or.inr ⟨by rw [show J_88 8 t = J 8 t from ((q_88).2.2.2.1.1 t ht.1 ht.2).2.1]; omega, rfl, rfl⟩) (Or.inl ⟨by omega, g_150, hz_150, fun S9 h9 E9 => x_150 S9 β (fun v a c => by rw [u_150]; exact hβ v a c) h9 E9⟩) (by rw [show J 7 t = J_150 7 t from (((q_150).2.2.2.1.1 t ht.1 ht.2).1).symm]; exact p_9))⟩⟩
        · refine tz_iconst (pc := 130) dX2_appliedPart_130 ?_
          refine tz_goto (pc := 131) (tgt := 153) dX2_appliedPart_131 (by decide) ?_
          refine tz_istore (pc := 153) (L2 := [_, _, _, _, _, _, _, _, _]) dX2_appliedPart_153 (by decide) rfl ?_
          refine tz_aload_n (pc := 155) dX2_appliedPart_155 rfl rfl ?_
          refine tz_fR (pc := 156) dX2_appliedPart_156 fl_X2_28 r_141_0 ?_
          refine tz_aload_n (pc := 159) dX2_appliedPart_159 rfl rfl ?_
          refine tz_fR (pc := 160) dX2_appliedPart_160 fl_X2_28 r_141_0 ?_
          refine tz_fR (pc := 163) dX2_appliedPart_163 fl_X2_42 r_6_1 ?_
          refine tz_iload_n (pc := 166) dX2_appliedPart_166 rfl rfl ?_
          refine tz_aL (pc := 167) (z := t) (v := (J_88 7 t)) dX2_appliedPart_167 a_7 rfl (by omega) rfl (fun r_167 => ?_)
          refine tz_iload (pc := 168) dX2_appliedPart_168 rfl ?_
          refine tz_iload (pc := 170) dX2_appliedPart_170 rfl ?_
          refine tz_iload (pc := 172) dX2_appliedPart_172 rfl ?_
          refine tz_cV (pc := 174) (c_made hl n _ _ _ _ _ (by omega) (by omega) (by omega) (by omega) m_88 (q_88).2.1 (q_88).2.2.1 (by have := (q_88).2.1.ar (t := t) (by omega) (by have := (q_88).1; omega); omega) (ltA_of (by omega) (by omega) (by omega))) vl_X2_52 dX2_appliedPart_174 o_6 rfl rfl (Nat.le_of_ble_eq_true rfl) ⟨(Nat.le_of_ble_eq_true rfl), (Nat.le_of_ble_eq_true rfl)⟩ rfl rfl (Nat.le_of_ble_eq_true rfl) (Nat.le_of_ble_eq_true rfl) (fun r9 J_174 hq9 => ?_)
          obtain ⟨z_174, rfl, hz_174, p_9⟩ := hq9
          obtain ⟨m9, g9, h9⟩ := GR.made p_9 (by omega)
          have q9 := GR.tr q_88 g9
          exact tz_iret (pc := 177) (z := z_174) dX2_appliedPart_177 rfl (Nat.le_of_ble_eq_true rfl) (Nat.le_of_ble_eq_true rfl) ⟨Nat.le_refl _, Nat.le_add_right _ _⟩ ⟨_, rfl, (by omega), ⟨m9, q9, h9, fun S β hβ hG E => ap_c hG E hm ht (by omega) (ap_end (fun S t h => apO_f h) hG E C hm ht (Or.inl ⟨by omega, g_88, hz_88, fun S9 h9 E9 => x_88 S9 β (fun v a c => by rw [u_88]; exact hβ v a c) h9 E9⟩) (Or.inr ⟨by rw [show J_88 8 t = J 8 t from ((q_88).2.2.2.1.1 t ht.1 ht.2).2.1]; omega, rfl, rfl⟩) (Or.inr ⟨by rw [show J_88 8 t = J 8 t from ((q_88).2.2.2.1.1 t ht.1 ht.2).2.1]; omega, rfl, rfl⟩) (by rw [show J 7 t = J_88 7 t from (((q_88).2.2.2.1.1 t ht.1 ht.2).1).symm]; exact p_9))⟩⟩
    · refine tz_iconst (pc := 68) dX2_appliedPart_68 ?_
      refine tz_goto (pc := 69) (tgt := 91) dX2_appliedPart_69 (by decide) ?_
      refine tz_istore (pc := 91) (L2 := [_, _, _, _, _, _, _, _, _]) dX2_appliedPart_91 (by decide) rfl ?_
      refine tz_iload (pc := 93) dX2_appliedPart_93 rfl ?_
      refine tz_iconst (pc := 95) dX2_appliedPart_95 ?_
      refine tz_icmp_ge (pc := 96) (tgt := 103) dX2_appliedPart_96 (by decide) (by omega) (by decide) (fun h_96 => ?_) (fun h_96 => ?_)
      · refine tz_aload_n (pc := 103) dX2_appliedPart_103 rfl rfl ?_
        refine tz_aload_n (pc := 104) dX2_appliedPart_104 rfl rfl ?_
        refine tz_fR (pc := 105) dX2_appliedPart_105 fl_X2_28 r_141_0 ?_
        refine tz_iload_n (pc := 108) dX2_appliedPart_108 rfl rfl ?_
        refine tz_iconst (pc := 109) dX2_appliedPart_109 ?_
        refine tz_cV (pc := 110) (c_arg hl n _ _ _ (by omega) (by decide) (by omega)) vl_X2_48 dX2_appliedPart_110 o_6 rfl rfl (Nat.le_of_ble_eq_true rfl) ⟨(Nat.le_of_ble_eq_true rfl), (Nat.le_of_ble_eq_true rfl)⟩ rfl rfl (Nat.le_of_ble_eq_true rfl) (Nat.le_of_ble_eq_true rfl) (fun r9 J_110 hq9 => ?_)
        obtain ⟨z_110, rfl, hz_110, rfl, rfl⟩ := hq9
        refine tz_aload_n (pc := 113) dX2_appliedPart_113 rfl rfl ?_
        refine tz_iload_n (pc := 114) dX2_appliedPart_114 rfl rfl ?_
        refine tz_iload (pc := 115) dX2_appliedPart_115 rfl ?_
        refine tz_iconst (pc := 117) dX2_appliedPart_117 ?_
        refine tz_iadd (pc := 118) (v := 7) dX2_appliedPart_118 (by decide) ?_
        have b_119 := GR.arg (GR.rf C hm) C ht (i := 1) (by omega)
        have c_119 := ((GR.rf C hm)).1
        refine tz_cV (pc := 119) (x_app140_7 hl n _ _ (by omega) m ((GR.rf C hm)).2.1 ((GR.rf C hm)).2.2.1 (by omega) (GR.row (GR.rf C hm) rfl hr)) vl_X2_32 dX2_appliedPart_119 o_141 rfl rfl (Nat.le_of_ble_eq_true rfl) ⟨(Nat.le_of_ble_eq_true rfl), (Nat.le_of_ble_eq_true rfl)⟩ rfl rfl (Nat.le_of_ble_eq_true rfl) (Nat.le_of_ble_eq_true rfl) (fun r9 J_119 hq9 => ?_)
        obtain ⟨z_119, rfl, hz_119, m_119, g_119, hz_119, x_119⟩ := hq9
        have q_119 := GR.tr (GR.rf C hm) g_119
        have d_119 := q_119.1
        have e_119 := g_119.1
        have u_119 : J 140 = J 140 := ((GR.rf C hm)).2.2.2.2 140 rfl
        have k8_119 : J 8 t = J 8 t := (((GR.rf C hm)).2.2.2.1.1 t ht.1 ht.2).2.1
        refine tz_istore (pc := 122) (L2 := [_, _, _, _, _, _, _, _, _]) dX2_appliedPart_122 (by decide) rfl ?_
        refine tz_iload (pc := 124) dX2_appliedPart_124 rfl ?_
        refine tz_iconst (pc := 126) dX2_appliedPart_126 ?_
        refine tz_icmp_ge (pc := 127) (tgt := 134) dX2_appliedPart_127 (by decide) (by omega) (by decide) (fun h_127 => ?_) (fun h_127 => ?_)
        · refine tz_aload_n (pc := 134) dX2_appliedPart_134 rfl rfl ?_
          refine tz_aload_n (pc := 135) dX2_appliedPart_135 rfl rfl ?_
          refine tz_fR (pc := 136) dX2_appliedPart_136 fl_X2_28 r_141_0 ?_
          refine tz_iload_n (pc := 139) dX2_appliedPart_139 rfl rfl ?_
          refine tz_iconst (pc := 140) dX2_appliedPart_140 ?_
          refine tz_cV (pc := 141) (c_arg hl n _ _ _ (by omega) (by decide) (by omega)) vl_X2_48 dX2_appliedPart_141 o_6 rfl rfl (Nat.le_of_ble_eq_true rfl) ⟨(Nat.le_of_ble_eq_true rfl), (Nat.le_of_ble_eq_true rfl)⟩ rfl rfl (Nat.le_of_ble_eq_true rfl) (Nat.le_of_ble_eq_true rfl) (fun r9 J_141 hq9 => ?_)
          obtain ⟨z_141, rfl, hz_141, rfl, rfl⟩ := hq9
          refine tz_aload_n (pc := 144) dX2_appliedPart_144 rfl rfl ?_
          refine tz_iload_n (pc := 145) dX2_appliedPart_145 rfl rfl ?_
          refine tz_iload (pc := 146) dX2_appliedPart_146 rfl ?_
          refine tz_iconst (pc := 148) dX2_appliedPart_148 ?_
          refine tz_iadd (pc := 149) (v := 7) dX2_appliedPart_149 (by decide) ?_
          have b_150 := GR.arg q_119 C ht (i := 2) (by omega)
          have c_150 := (q_119).1
          refine tz_cV (pc := 150) (x_app140_7 hl n _ _ (by omega) m_119 (q_119).2.1 (q_119).2.2.1 (by omega) (GR.row q_119 rfl hr)) vl_X2_32 dX2_appliedPart_150 o_141 rfl rfl (Nat.le_of_ble_eq_true rfl) ⟨(Nat.le_of_ble_eq_true rfl), (Nat.le_of_ble_eq_true rfl)⟩ rfl rfl (Nat.le_of_ble_eq_true rfl) (Nat.le_of_ble_eq_true rfl) (fun r9 J_150 hq9 => ?_)
          obtain ⟨z_150, rfl, hz_150, m_150, g_150, hz_150, x_150⟩ := hq9
          have q_150 := GR.tr q_119 g_150
          have d_150 := q_150.1
          have e_150 := g_150.1
          have u_150 : J_119 140 = J 140 := (q_119).2.2.2.2 140 rfl
          have k8_150 : J_119 8 t = J 8 t := ((q_119).2.2.2.1.1 t ht.1 ht.2).2.1
          refine tz_istore (pc := 153) (L2 := [_, _, _, _, _, _, _, _, _]) dX2_appliedPart_153 (by decide) rfl ?_
          refine tz_aload_n (pc := 155) dX2_appliedPart_155 rfl rfl ?_
          refine tz_fR (pc := 156) dX2_appliedPart_156 fl_X2_28 r_141_0 ?_
          refine tz_aload_n (pc := 159) dX2_appliedPart_159 rfl rfl ?_
          refine tz_fR (pc := 160) dX2_appliedPart_160 fl_X2_28 r_141_0 ?_
          refine tz_fR (pc := 163) dX2_appliedPart_163 fl_X2_42 r_6_1 ?_
          refine tz_iload_n (pc := 166) dX2_appliedPart_166 rfl rfl ?_
          refine tz_aL (pc := 167) (z := t) (v := (J_150 7 t)) dX2_appliedPart_167 a_7 rfl (by omega) rfl (fun r_167 => ?_)
          refine tz_iload (pc := 168) dX2_appliedPart_168 rfl ?_
          refine tz_iload (pc := 170) dX2_appliedPart_170 rfl ?_
          refine tz_iload (pc := 172) dX2_appliedPart_172 rfl ?_
          refine tz_cV (pc := 174) (c_made hl n _ _ _ _ _ (by omega) (by omega) (by omega) (by omega) m_150 (q_150).2.1 (q_150).2.2.1 (by have := (q_150).2.1.ar (t := t) (by omega) (by have := (q_150).1; omega); omega) (ltA_of (by omega) (by omega) (by omega))) vl_X2_52 dX2_appliedPart_174 o_6 rfl rfl (Nat.le_of_ble_eq_true rfl) ⟨(Nat.le_of_ble_eq_true rfl), (Nat.le_of_ble_eq_true rfl)⟩ rfl rfl (Nat.le_of_ble_eq_true rfl) (Nat.le_of_ble_eq_true rfl) (fun r9 J_174 hq9 => ?_)
          obtain ⟨z_174, rfl, hz_174, p_9⟩ := hq9
          obtain ⟨m9, g9, h9⟩ := GR.made p_9 (by omega)
          have q9 := GR.tr q_150 g9
          exact tz_iret (pc := 177) (z := z_174) dX2_appliedPart_177 rfl (Nat.le_of_ble_eq_true rfl) (Nat.le_of_ble_eq_true rfl) ⟨Nat.le_refl _, Nat.le_add_right _ _⟩ ⟨_, rfl, (by omega), ⟨m9, q9, h9, fun S β hβ hG E => ap_c hG E hm ht (by omega) (ap_end (fun S t h => apO_f h) hG E C hm ht (Or.inr ⟨by rw [show J 8 t = J 8 t from rfl]; omega, rfl, rfl⟩) (Or.inl ⟨by omega, g_119, hz_119, fun S9 h9 E9 => x_119 S9 β (fun v a c => by rw [u_119]; exact hβ v a c) h9 E9⟩) (Or.inl ⟨by omega, g_150, hz_150, fun S9 h9 E9 => x_150 S9 β (fun v a c => by rw [u_150]; exact hβ v a c) h9 E9⟩) (by rw [show J 7 t = J_150 7 t from (((q_150).2.2.2.1.1 t ht.1 ht.2).1).symm]; exact p_9))⟩⟩
        · refine tz_iconst (pc := 130) dX2_appliedPart_130 ?_
          refine tz_goto (pc := 131) (tgt := 153) dX2_appliedPart_131 (by decide) ?_
          refine tz_istore (pc := 153) (L2 := [_, _, _, _, _, _, _, _, _]) dX2_appliedPart_153 (by decide) rfl ?_
          refine tz_aload_n (pc := 155) dX2_appliedPart_155 rfl rfl ?_
          refine tz_fR (pc := 156) dX2_appliedPart_156 fl_X2_28 r_141_0 ?_
          refine tz_aload_n (pc := 159) dX2_appliedPart_159 rfl rfl ?_
          refine tz_fR (pc := 160) dX2_appliedPart_160 fl_X2_28 r_141_0 ?_
          refine tz_fR (pc := 163) dX2_appliedPart_163 fl_X2_42 r_6_1 ?_
          refine tz_iload_n (pc := 166) dX2_appliedPart_166 rfl rfl ?_
          refine tz_aL (pc := 167) (z := t) (v := (J_119 7 t)) dX2_appliedPart_167 a_7 rfl (by omega) rfl (fun r_167 => ?_)
          refine tz_iload (pc := 168) dX2_appliedPart_168 rfl ?_
          refine tz_iload (pc := 170) dX2_appliedPart_170 rfl ?_
          refine tz_iload (pc := 172) dX2_appliedPart_172 rfl ?_
          refine tz_cV (pc := 174) (c_made hl n _ _ _ _ _ (by omega) (by omega) (by omega) (by omega) m_119 (q_119).2.1 (q_119).2.2.1 (by have := (q_119).2.1.ar (t := t) (by omega) (by have := (q_119).1; omega); omega) (ltA_of (by omega) (by omega) (by omega))) vl_X2_52 dX2_appliedPart_174 o_6 rfl rfl (Nat.le_of_ble_eq_true rfl) ⟨(Nat.le_of_ble_eq_true rfl), (Nat.le_of_ble_eq_true rfl)⟩ rfl rfl (Nat.le_of_ble_eq_true rfl) (Nat.le_of_ble_eq_true rfl) (fun r9 J_174 hq9 => ?_)
          obtain ⟨z_174, rfl, hz_174, p_9⟩ := hq9
          obtain ⟨m9, g9, h9⟩ := GR.made p_9 (by omega)
          have q9 := GR.tr q_119 g9
          exact tz_iret (pc := 177) (z := z_174) dX2_appliedPart_177 rfl (Nat.le_of_ble_eq_true rfl) (Nat.le_of_ble_eq_true rfl) ⟨Nat.le_refl _, Nat.le_add_right _ _⟩ ⟨_, rfl, (by omega), ⟨m9, q9, h9, fun S β hβ hG E => ap_c hG E hm ht (by omega) (ap_end (fun S t h => apO_f h) hG E C hm ht (Or.inr ⟨by rw [show J 8 t = J 8 t from rfl]; omega, rfl, rfl⟩) (Or.inl ⟨by omega, g_119, hz_119, fun S9 h9 E9 => x_119 S9 β (fun v a c => by rw [u_119]; exact hβ v a c) h9 E9⟩) (Or.inr ⟨by rw [show J_119 8 t = J 8 t from ((q_119).2.2.2.1.1 t ht.1 ht.2).2.1]; omega, rfl, rfl⟩) (by rw [show J 7 t = J_119 7 t from (((q_119).2.2.2.1.1 t ht.1 ht.2).1).symm]; exact p_9))⟩⟩
      · refine tz_iconst (pc := 99) dX2_appliedPart_99 ?_
        refine tz_goto (pc := 100) (tgt := 122) dX2_appliedPart_100 (by decide) ?_
        refine tz_istore (pc := 122) (L2 := [_, _, _, _, _, _, _, _, _]) dX2_appliedPart_122 (by decide) rfl ?_
        refine tz_iload (pc := 124) dX2_appliedPart_124 rfl ?_
        refine tz_iconst (pc := 126) dX2_appliedPart_126 ?_
        refine tz_icmp_ge (pc := 127) (tgt := 134) dX2_appliedPart_127 (by decide) (by omega) (by decide) (fun h_127 => ?_) (fun h_127 => ?_)
        · refine tz_aload_n (pc := 134) dX2_appliedPart_134 rfl rfl ?_
          refine tz_aload_n (pc := 135) dX2_appliedPart_135 rfl rfl ?_
          refine tz_fR (pc := 136) dX2_appliedPart_136 fl_X2_28 r_141_0 ?_
          refine tz_iload_n (pc := 139) dX2_appliedPart_139 rfl rfl ?_
          refine tz_iconst (pc := 140) dX2_appliedPart_140 ?_
          refine tz_cV (pc := 141) (c_arg hl n _ _ _ (by omega) (by decide) (by omega)) vl_X2_48 dX2_appliedPart_141 o_6 rfl rfl (Nat.le_of_ble_eq_true rfl) ⟨(Nat.le_of_ble_eq_true rfl), (Nat.le_of_ble_eq_true rfl)⟩ rfl rfl (Nat.le_of_ble_eq_true rfl) (Nat.le_of_ble_eq_true rfl) (fun r9 J_141 hq9 => ?_)
          obtain ⟨z_141, rfl, hz_141, rfl, rfl⟩ := hq9
          refine tz_aload_n (pc := 144) dX2_appliedPart_144 rfl rfl ?_
          refine tz_iload_n (pc := 145) dX2_appliedPart_145 rfl rfl ?_
          refine tz_iload (pc := 146) dX2_appliedPart_146 rfl ?_
          refine tz_iconst (pc := 148) dX2_appliedPart_148 ?_
          refine tz_iadd (pc := 149) (v := 7) dX2_appliedPart_149 (by decide) ?_
          have b_150 := GR.arg (GR.rf C hm) C ht (i := 2) (by omega)
          have c_150 := ((GR.rf C hm)).1
          refine tz_cV (pc := 150) (x_app140_7 hl n _ _ (by omega) m ((GR.rf C hm)).2.1 ((GR.rf C hm)).2.2.1 (by omega) (GR.row (GR.rf C hm) rfl hr)) vl_X2_32 dX2_appliedPart_150 o_141 rfl rfl (Nat.le_of_ble_eq_true rfl) ⟨(Nat.le_of_ble_eq_true rfl), (Nat.le_of_ble_eq_true rfl)⟩ rfl rfl (Nat.le_of_ble_eq_true rfl) (Nat.le_of_ble_eq_true rfl) (fun r9 J_150 hq9 => ?_)
          obtain ⟨z_150, rfl, hz_150, m_150, g_150, hz_150, x_150⟩ := hq9
          have q_150 := GR.tr (GR.rf C hm) g_150
          have d_150 := q_150.1
          have e_150 := g_150.1
          have u_150 : J 140 = J 140 := ((GR.rf C hm)).2.2.2.2 140 rfl
          have k8_150 : J 8 t = J 8 t := (((GR.rf C hm)).2.2.2.1.1 t ht.1 ht.2).2.1
          refine tz_istore (pc := 153) (L2 := [_, _, _, _, _, _, _, _, _]) dX2_appliedPart_153 (by decide) rfl ?_
          refine tz_aload_n (pc := 155) dX2_appliedPart_155 rfl rfl ?_
          refine tz_fR (pc := 156) dX2_appliedPart_156 fl_X2_28 r_141_0 ?_
          refine tz_aload_n (pc := 159) dX2_appliedPart_159 rfl rfl ?_
          refine tz_fR (pc := 160) dX2_appliedPart_160 fl_X2_28 r_141_0 ?_
          refine tz_fR (pc := 163) dX2_appliedPart_163 fl_X2_42 r_6_1 ?_
          refine tz_iload_n (pc := 166) dX2_appliedPart_166 rfl rfl ?_
          refine tz_aL (pc := 167) (z := t) (v := (J_150 7 t)) dX2_appliedPart_167 a_7 rfl (by omega) rfl (fun r_167 => ?_)
          refine tz_iload (pc := 168) dX2_appliedPart_168 rfl ?_
          refine tz_iload (pc := 170) dX2_appliedPart_170 rfl ?_
          refine tz_iload (pc := 172) dX2_appliedPart_172 rfl ?_
          refine tz_cV (pc := 174) (c_made hl n _ _ _ _ _ (by omega) (by omega) (by omega) (by omega) m_150 (q_150).2.1 (q_150).2.2.1 (by have := (q_150).2.1.ar (t := t) (by omega) (by have := (q_150).1; omega); omega) (ltA_of (by omega) (by omega) (by omega))) vl_X2_52 dX2_appliedPart_174 o_6 rfl rfl (Nat.le_of_ble_eq_true rfl) ⟨(Nat.le_of_ble_eq_true rfl), (Nat.le_of_ble_eq_true rfl)⟩ rfl rfl (Nat.le_of_ble_eq_true rfl) (Nat.le_of_ble_eq_true rfl) (fun r9 J_174 hq9 => ?_)
          obtain ⟨z_174, rfl, hz_174, p_9⟩ := hq9
          obtain ⟨m9, g9, h9⟩ := GR.made p_9 (by omega)
          have q9 := GR.tr q_150 g9
          exact tz_iret (pc := 177) (z := z_174) dX2_appliedPart_177 rfl (Nat.le_of_ble_eq_true rfl) (Nat.le_of_ble_eq_true rfl) ⟨Nat.le_refl _, Nat.le_add_right _ _⟩ ⟨_, rfl, (by omega), ⟨m9, q9, h9, fun S β hβ hG E => ap_c hG E hm ht (by omega) (ap_end (fun S t h => apO_f h) hG E C hm ht (Or.inr ⟨by rw [show J 8 t = J 8 t from rfl]; omega, rfl, rfl⟩) (Or.inr ⟨by rw [show J 8 t = J 8 t from rfl]; omega, rfl, rfl⟩) (Or.inl ⟨by omega, g_150, hz_150, fun S9 h9 E9 => x_150 S9 β (fun v a c => by rw [u_150]; exact hβ v a c) h9 E9⟩) (by rw [show J 7 t = J_150 7 t from (((q_150).2.2.2.1.1 t ht.1 ht.2).1).symm]; exact p_9))⟩⟩
        · refine tz_iconst (pc := 130) dX2_appliedPart_130 ?_
          refine tz_goto (pc := 131) (tgt := 153) dX2_appliedPart_131 (by decide) ?_
          refine tz_istore (pc := 153) (L2 := [_, _, _, _, _, _, _, _, _]) dX2_appliedPart_153 (by decide) rfl ?_
          refine tz_aload_n (pc := 155) dX2_appliedPart_155 rfl rfl ?_
          refine tz_fR (pc := 156) dX2_appliedPart_156 fl_X2_28 r_141_0 ?_
          refine tz_aload_n (pc := 159) dX2_appliedPart_159 rfl rfl ?_
          refine tz_fR (pc := 160) dX2_appliedPart_160 fl_X2_28 r_141_0 ?_
          refine tz_fR (pc := 163) dX2_appliedPart_163 fl_X2_42 r_6_1 ?_
          refine tz_iload_n (pc := 166) dX2_appliedPart_166 rfl rfl ?_
          refine tz_aL (pc := 167) (z := t) (v := (J 7 t)) dX2_appliedPart_167 a_7 rfl (by omega) rfl (fun r_167 => ?_)
          refine tz_iload (pc := 168) dX2_appliedPart_168 rfl ?_
          refine tz_iload (pc := 170) dX2_appliedPart_170 rfl ?_
          refine tz_iload (pc := 172) dX2_appliedPart_172 rfl ?_
          refine tz_cV (pc := 174) (c_made hl n _ _ _ _ _ (by omega) (by omega) (by omega) (by omega) m ((GR.rf C hm)).2.1 ((GR.rf C hm)).2.2.1 (by have := ((GR.rf C hm)).2.1.ar (t := t) (by omega) (by have := ((GR.rf C hm)).1; omega); omega) (ltA_of (by omega) (by omega) (by omega))) vl_X2_52 dX2_appliedPart_174 o_6 rfl rfl (Nat.le_of_ble_eq_true rfl) ⟨(Nat.le_of_ble_eq_true rfl), (Nat.le_of_ble_eq_true rfl)⟩ rfl rfl (Nat.le_of_ble_eq_true rfl) (Nat.le_of_ble_eq_true rfl) (fun r9 J_174 hq9 => ?_)
          obtain ⟨z_174, rfl, hz_174, p_9⟩ := hq9
          obtain ⟨m9, g9, h9⟩ := GR.made p_9 (by omega)
          have q9 := GR.tr (GR.rf C hm) g9
          exact tz_iret (pc := 177) (z := z_174) dX2_appliedPart_177 rfl (Nat.le_of_ble_eq_true rfl) (Nat.le_of_ble_eq_true rfl) ⟨Nat.le_refl _, Nat.le_add_right _ _⟩ ⟨_, rfl, (by omega), ⟨m9, q9, h9, fun S β hβ hG E => ap_c hG E hm ht (by omega) (ap_end (fun S t h => apO_f h) hG E C hm ht (Or.inr ⟨by rw [show J 8 t = J 8 t from rfl]; omega, rfl, rfl⟩) (Or.inr ⟨by rw [show J 8 t = J 8 t from rfl]; omega, rfl, rfl⟩) (Or.inr ⟨by rw [show J 8 t = J 8 t from rfl]; omega, rfl, rfl⟩) (by rw [show J 7 t = J 7 t from rfl]; exact p_9))⟩⟩

set_option maxHeartbeats 4000000 in
set_option maxRecDepth 100000 in
theorem x_app140_5 {l : Launch} {G : tb_G} (hl : l.stackTraces = false) (n : Nat) (J : zJ) (t : Int) (hr_t : -2147483648 ≤ t ∧ t < 2147483648) (m : Int) (C : CT J m) (hm : J 6 12 = m) (ht : 0 ≤ t ∧ t < m) (hr : rOK J 140 0 m) : tz_Ok l G M_X2_appliedPart 4 0 0 [.ref 141, zi t, .ref 140, zi 0, zi 5] n J (zqi (fun z J' => ∃ m', GR J' J m m' ∧ (z = -3 ∨ (0 ≤ z ∧ z < m')) ∧ ∀ (S : zJ) (β : Int → Int), (∀ v, 0 ≤ v → v < 8 → β v = J 140 (0 + v)) → S 164 21 = 0 → A0 J S → EXO (apO β 2 S t) z J')) zN := by
  refine tz_Ok.of hl (by decide +kernel) rfl (tb_c1 rfl) (Nat.le_of_ble_eq_true rfl) ?_
  show tz_At l G M_X2_appliedPart (tb_rm 4 0 0) none (tb_ZM G 0 0 (zQ n 0 (zqi (fun z J' => ∃ m', GR J' J m m' ∧ (z = -3 ∨ (0 ≤ z ∧ z < m')) ∧ ∀ (S : zJ) (β : Int → Int), (∀ v, 0 ≤ v → v < 8 → β v = J 140 (0 + v)) → S 164 21 = 0 → A0 J S → EXO (apO β 2 S t) z J'))) (zX n 0 zN)) 0 0 n J 0 [some (.ref 141), some (zi t), some (.ref 140), some (zi 0), some (zi 5), none, none, none, none] []
  have hb := C.told
  have ha := C.ar ht.1 ht.2
  refine tz_iload (pc := 0) dX2_appliedPart_0 rfl ?_
  refine tz_bipush (pc := 2) dX2_appliedPart_2 (by decide) ?_
  refine tz_icmp_leT (pc := 4) (tgt := 10) (by decide) dX2_appliedPart_4 (by decide) (by decide) (by decide) ?_
  refine tz_aload_n (pc := 10) dX2_appliedPart_10 rfl rfl ?_
  refine tz_fR (pc := 11) dX2_appliedPart_11 fl_X2_28 r_141_0 ?_
  refine tz_iload_n (pc := 14) dX2_appliedPart_14 rfl rfl ?_
  refine tz_cV (pc := 15) (c_isVar hl n _ _ (by omega) (by omega)) vl_X2_36 dX2_appliedPart_15 o_6 rfl rfl (Nat.le_of_ble_eq_true rfl) ⟨(Nat.le_of_ble_eq_true rfl), (Nat.le_of_ble_eq_true rfl)⟩ rfl rfl (Nat.le_of_ble_eq_true rfl) (Nat.le_of_ble_eq_true rfl) (fun r9 J_15 hq9 => ?_)
  obtain ⟨z_15, rfl, hz_15, rfl, rfl⟩ := hq9
  by_cases hw_18 : J 7 t < 0
  · rw [show (if J 7 t < 0 then 1 else 0 : Int) = 1 from if_pos hw_18]
    refine tz_if_eqF (pc := 18) (tgt := 51) (by decide) dX2_appliedPart_18 (by decide) (by decide) ?_
    refine tz_aload_n (pc := 21) dX2_appliedPart_21 rfl rfl ?_
    refine tz_iload_n (pc := 22) dX2_appliedPart_22 rfl rfl ?_
    refine tz_aload_n (pc := 23) dX2_appliedPart_23 rfl rfl ?_
    refine tz_fR (pc := 24) dX2_appliedPart_24 fl_X2_28 r_141_0 ?_
    refine tz_fR (pc := 27) dX2_appliedPart_27 fl_X2_42 r_6_1 ?_
    refine tz_iload_n (pc := 30) dX2_appliedPart_30 rfl rfl ?_
    refine tz_aL (pc := 31) (z := t) (v := (J 7 t)) dX2_appliedPart_31 a_7 rfl (by omega) rfl (fun r_31 => ?_)
    refine tz_iconst (pc := 32) dX2_appliedPart_32 ?_
    refine tz_ixor (pc := 33) (v := -1 - J 7 t) dX2_appliedPart_33 (z_nn (by omega)) ?_
    refine tz_iadd (pc := 34) (v := 0 + (-1 - J 7 t)) dX2_appliedPart_34 rfl ?_
    have hv := hr (-1 - J 7 t) (by omega) (by omega)
    refine tz_aL (pc := 35) (z := (0 + (-1 - J 7 t))) (v := (J 140 (0 + (-1 - J 7 t)))) dX2_appliedPart_35 a_140 rfl (by omega) rfl (fun r_35 => ?_)
    refine tz_istore (pc := 36) (L2 := [_, _, _, _, _, _, _, _, _]) dX2_appliedPart_36 (by decide) rfl ?_
    refine tz_iload (pc := 38) dX2_appliedPart_38 rfl ?_
    refine tz_iconst (pc := 40) dX2_appliedPart_40 ?_
    refine tz_icmp_ne (pc := 41) (tgt := 48) dX2_appliedPart_41 (by decide) (by omega) (by decide) (fun h_41 => ?_) (fun h_41 => ?_)
    · refine tz_iload (pc := 48) dX2_appliedPart_48 rfl ?_
      exact tz_iret (pc := 50) (z := (J 140 (0 + (-1 - J 7 t)))) dX2_appliedPart_50 rfl (Nat.le_of_ble_eq_true rfl) (Nat.le_of_ble_eq_true rfl) ⟨Nat.le_refl _, Nat.le_add_right _ _⟩ ⟨_, rfl, (by omega), ⟨m, GR.rf C hm, Or.inr (by omega), fun S β hβ hG E => ap_v hG E hm ht (by omega) (by omega) (by have := hβ (-1 - J 7 t) (by omega) (by omega); rw [this]; omega)⟩⟩
    · refine tz_iload_n (pc := 44) dX2_appliedPart_44 rfl rfl ?_
      refine tz_goto (pc := 45) (tgt := 50) dX2_appliedPart_45 (by decide) ?_
      exact tz_iret (pc := 50) (z := t) dX2_appliedPart_50 rfl (Nat.le_of_ble_eq_true rfl) (Nat.le_of_ble_eq_true rfl) ⟨Nat.le_refl _, Nat.le_add_right _ _⟩ ⟨_, rfl, (by omega), ⟨m, GR.rf C hm, Or.inr (by omega), fun S β hβ hG E => ap_v hG E hm ht (by omega) (by omega) (by have := hβ (-1 - J 7 t) (by omega) (by omega); rw [this]; omega)⟩⟩
  · rw [show (if J 7 t < 0 then 1 else 0 : Int) = 0 from if_neg hw_18]
    refine tz_if_eqT (pc := 18) (tgt := 51) (by decide) dX2_appliedPart_18 (by decide) (by decide) ?_
    refine tz_aload_n (pc := 51) dX2_appliedPart_51 rfl rfl ?_
    refine tz_fR (pc := 52) dX2_appliedPart_52 fl_X2_28 r_141_0 ?_
    refine tz_fR (pc := 55) dX2_appliedPart_55 fl_X2_45 r_6_2 ?_
    refine tz_iload_n (pc := 58) dX2_appliedPart_58 rfl rfl ?_
    refine tz_aL (pc := 59) (z := t) (v := (J 8 t)) dX2_appliedPart_59 a_8 rfl (by omega) rfl (fun r_59 => ?_)
    refine tz_istore (pc := 60) (L2 := [_, _, _, _, _, _, _, _, _]) dX2_appliedPart_60 (by decide) rfl ?_
    refine tz_iload (pc := 62) dX2_appliedPart_62 rfl ?_
    refine tz_iconst (pc := 64) dX2_appliedPart_64 ?_
    refine tz_icmp_ge (pc := 65) (tgt := 72) dX2_appliedPart_65 (by decide) (by omega) (by decide) (fun h_65 => ?_) (fun h_65 => ?_)
    · refine tz_aload_n (pc := 72) dX2_appliedPart_72 rfl rfl ?_
      refine tz_aload_n (pc := 73) dX2_appliedPart_73 rfl rfl ?_
      refine tz_fR (pc := 74) dX2_appliedPart_74 fl_X2_28 r_141_0 ?_
      refine tz_iload_n (pc := 77) dX2_appliedPart_77 rfl rfl ?_
      refine tz_iconst (pc := 78) dX2_appliedPart_78 ?_
      refine tz_cV (pc := 79) (c_arg hl n _ _ _ (by omega) (by decide) (by omega)) vl_X2_48 dX2_appliedPart_79 o_6 rfl rfl (Nat.le_of_ble_eq_true rfl) ⟨(Nat.le_of_ble_eq_true rfl), (Nat.le_of_ble_eq_true rfl)⟩ rfl rfl (Nat.le_of_ble_eq_true rfl) (Nat.le_of_ble_eq_true rfl) (fun r9 J_79 hq9 => ?_)
      obtain ⟨z_79, rfl, hz_79, rfl, rfl⟩ := hq9
      refine tz_aload_n (pc := 82) dX2_appliedPart_82 rfl rfl ?_
      refine tz_iload_n (pc := 83) dX2_appliedPart_83 rfl rfl ?_
      refine tz_iload (pc := 84) dX2_appliedPart_84 rfl ?_
      refine tz_iconst (pc := 86) dX2_appliedPart_86 ?_
      refine tz_iadd (pc := 87) (v := 6) dX2_appliedPart_87 (by decide) ?_
      have b_88 := GR.arg (GR.rf C hm) C ht (i := 0) (by omega)
      have c_88 := ((GR.rf C hm)).1
      refine tz_cV (pc := 88) (x_app140_6 hl n _ _ (by omega) m ((GR.rf C hm)).2.1 ((GR.rf C hm)).2.2.1 (by omega) (GR.row (GR.rf C hm) rfl hr)) vl_X2_32 dX2_appliedPart_88 o_141 rfl rfl (Nat.le_of_ble_eq_true rfl) ⟨(Nat.le_of_ble_eq_true rfl), (Nat.le_of_ble_eq_true rfl)⟩ rfl rfl (Nat.le_of_ble_eq_true rfl) (Nat.le_of_ble_eq_true rfl) (fun r9 J_88 hq9 => ?_)
      obtain ⟨z_88, rfl, hz_88, m_88, g_88, hz_88, x_88⟩ := hq9
      have q_88 := GR.tr (GR.rf C hm) g_88
      have d_88 := q_88.1
      have e_88 := g_88.1
      have u_88 : J 140 = J 140 := ((GR.rf C hm)).2.2.2.2 140 rfl
      have k8_88 : J 8 t = J 8 t := (((GR.rf C hm)).2.2.2.1.1 t ht.1 ht.2).2.1
      refine tz_istore (pc := 91) (L2 := [_, _, _, _, _, _, _, _, _]) dX2_appliedPart_91 (by decide) rfl ?_
      refine tz_iload (pc := 93) dX2_appliedPart_93 rfl ?_
      refine tz_iconst (pc := 95) dX2_appliedPart_95 ?_
      refine tz_icmp_ge (pc := 96) (tgt := 103) dX2_appliedPart_96 (by decide) (by omega) (by decide) (fun h_96 => ?_) (fun h_96 => ?_)
      · refine tz_aload_n (pc := 103) dX2_appliedPart_103 rfl rfl ?_
        refine tz_aload_n (pc := 104) dX2_appliedPart_104 rfl rfl ?_
        refine tz_fR (pc := 105) dX2_appliedPart_105 fl_X2_28 r_141_0 ?_
        refine tz_iload_n (pc := 108) dX2_appliedPart_108 rfl rfl ?_
        refine tz_iconst (pc := 109) dX2_appliedPart_109 ?_
        refine tz_cV (pc := 110) (c_arg hl n _ _ _ (by omega) (by decide) (by omega)) vl_X2_48 dX2_appliedPart_110 o_6 rfl rfl (Nat.le_of_ble_eq_true rfl) ⟨(Nat.le_of_ble_eq_true rfl), (Nat.le_of_ble_eq_true rfl)⟩ rfl rfl (Nat.le_of_ble_eq_true rfl) (Nat.le_of_ble_eq_true rfl) (fun r9 J_110 hq9 => ?_)
        obtain ⟨z_110, rfl, hz_110, rfl, rfl⟩ := hq9
        refine tz_aload_n (pc := 113) dX2_appliedPart_113 rfl rfl ?_
        refine tz_iload_n (pc := 114) dX2_appliedPart_114 rfl rfl ?_
        refine tz_iload (pc := 115) dX2_appliedPart_115 rfl ?_
        refine tz_iconst (pc := 117) dX2_appliedPart_117 ?_
        refine tz_iadd (pc := 118) (v := 6) dX2_appliedPart_118 (by decide) ?_
        have b_119 := GR.arg q_88 C ht (i := 1) (by omega)
        have c_119 := (q_88).1
        refine tz_cV (pc := 119) (x_app140_6 hl n _ _ (by omega) m_88 (q_88).2.1 (q_88).2.2.1 (by omega) (GR.row q_88 rfl hr)) vl_X2_32 dX2_appliedPart_119 o_141 rfl rfl (Nat.le_of_ble_eq_true rfl) ⟨(Nat.le_of_ble_eq_true rfl), (Nat.le_of_ble_eq_true rfl)⟩ rfl rfl (Nat.le_of_ble_eq_true rfl) (Nat.le_of_ble_eq_true rfl) (fun r9 J_119 hq9 => ?_)
        obtain ⟨z_119, rfl, hz_119, m_119, g_119, hz_119, x_119⟩ := hq9
        have q_119 := GR.tr q_88 g_119
        have d_119 := q_119.1
        have e_119 := g_119.1
        have u_119 : J_88 140 = J 140 := (q_88).2.2.2.2 140 rfl
        have k8_119 : J_88 8 t = J 8 t := ((q_88).2.2.2.1.1 t ht.1 ht.2).2.1
        refine tz_istore (pc := 122) (L2 := [_, _, _, _, _, _, _, _, _]) dX2_appliedPart_122 (by decide) rfl ?_
        refine tz_iload (pc := 124) dX2_appliedPart_124 rfl ?_
        refine tz_iconst (pc := 126) dX2_appliedPart_126 ?_
        refine tz_icmp_ge (pc := 127) (tgt := 134) dX2_appliedPart_127 (by decide) (by omega) (by decide) (fun h_127 => ?_) (fun h_127 => ?_)
        · refine tz_aload_n (pc := 134) dX2_appliedPart_134 rfl rfl ?_
          refine tz_aload_n (pc := 135) dX2_appliedPart_135 rfl rfl ?_
          refine tz_fR (pc := 136) dX2_appliedPart_136 fl_X2_28 r_141_0 ?_
          refine tz_iload_n (pc := 139) dX2_appliedPart_139 rfl rfl ?_
          refine tz_iconst (pc := 140) dX2_appliedPart_140 ?_
          refine tz_cV (pc := 141) (c_arg hl n _ _ _ (by omega) (by decide) (by omega)) vl_X2_48 dX2_appliedPart_141 o_6 rfl rfl (Nat.le_of_ble_eq_true rfl) ⟨(Nat.le_of_ble_eq_true rfl), (Nat.le_of_ble_eq_true rfl)⟩ rfl rfl (Nat.le_of_ble_eq_true rfl) (Nat.le_of_ble_eq_true rfl) (fun r9 J_141 hq9 => ?_)
          obtain ⟨z_141, rfl, hz_141, rfl, rfl⟩ := hq9
          refine tz_aload_n (pc := 144) dX2_appliedPart_144 rfl rfl ?_
          refine tz_iload_n (pc := 145) dX2_appliedPart_145 rfl rfl ?_
          refine tz_iload (pc := 146) dX2_appliedPart_146 rfl ?_
          refine tz_iconst (pc := 148) dX2_appliedPart_148 ?_
          refine tz_iadd (pc := 149) (v := 6) dX2_appliedPart_149 (by decide) ?_
          have b_150 := GR.arg q_119 C ht (i := 2) (by omega)
          have c_150 := (q_119).1
          refine tz_cV (pc := 150) (x_app140_6 hl n _ _ (by omega) m_119 (q_119).2.1 (q_119).2.2.1 (by omega) (GR.row q_119 rfl hr)) vl_X2_32 dX2_appliedPart_150 o_141 rfl rfl (Nat.le_of_ble_eq_true rfl) ⟨(Nat.le_of_ble_eq_true rfl), (Nat.le_of_ble_eq_true rfl)⟩ rfl rfl (Nat.le_of_ble_eq_true rfl) (Nat.le_of_ble_eq_true rfl) (fun r9 J_150 hq9 => ?_)
          obtain ⟨z_150, rfl, hz_150, m_150, g_150, hz_150, x_150⟩ := hq9
          have q_150 := GR.tr q_119 g_150
          have d_150 := q_150.1
          have e_150 := g_150.1
          have u_150 : J_119 140 = J 140 := (q_119).2.2.2.2 140 rfl
          have k8_150 : J_119 8 t = J 8 t := ((q_119).2.2.2.1.1 t ht.1 ht.2).2.1
          refine tz_istore (pc := 153) (L2 := [_, _, _, _, _, _, _, _, _]) dX2_appliedPart_153 (by decide) rfl ?_
          refine tz_aload_n (pc := 155) dX2_appliedPart_155 rfl rfl ?_
          refine tz_fR (pc := 156) dX2_appliedPart_156 fl_X2_28 r_141_0 ?_
          refine tz_aload_n (pc := 159) dX2_appliedPart_159 rfl rfl ?_
          refine tz_fR (pc := 160) dX2_appliedPart_160 fl_X2_28 r_141_0 ?_
          refine tz_fR (pc := 163) dX2_appliedPart_163 fl_X2_42 r_6_1 ?_
          refine tz_iload_n (pc := 166) dX2_appliedPart_166 rfl rfl ?_
          refine tz_aL (pc := 167) (z := t) (v := (J_150 7 t)) dX2_appliedPart_167 a_7 rfl (by omega) rfl (fun r_167 => ?_)
          refine tz_iload (pc := 168) dX2_appliedPart_168 rfl ?_
          refine tz_iload (pc := 170) dX2_appliedPart_170 rfl ?_
          refine tz_iload (pc := 172) dX2_appliedPart_172 rfl ?_
          refine tz_cV (pc := 174) (c_made hl n _ _ _ _ _ (by omega) (by omega) (by omega) (by omega) m_150 (q_150).2.1 (q_150).2.2.1 (by have := (q_150).2.1.ar (t := t) (by omega) (by have := (q_150).1; omega); omega) (ltA_of (by omega) (by omega) (by omega))) vl_X2_52 dX2_appliedPart_174 o_6 rfl rfl (Nat.le_of_ble_eq_true rfl) ⟨(Nat.le_of_ble_eq_true rfl), (Nat.le_of_ble_eq_true rfl)⟩ rfl rfl (Nat.le_of_ble_eq_true rfl) (Nat.le_of_ble_eq_true rfl) (fun r9 J_174 hq9 => ?_)
          obtain ⟨z_174, rfl, hz_174, p_9⟩ := hq9
          obtain ⟨m9, g9, h9⟩ := GR.made p_9 (by omega)
          have q9 := GR.tr q_150 g9
          exact tz_iret (pc := 177) (z := z_174) dX2_appliedPart_177 rfl (Nat.le_of_ble_eq_true rfl) (Nat.le_of_ble_eq_true rfl) ⟨Nat.le_refl _, Nat.le_add_right _ _⟩ ⟨_, rfl, (by omega), ⟨m9, q9, h9, fun S β hβ hG E => ap_c hG E hm ht (by omega) (ap_end (fun S t h => apO_f h) hG E C hm ht (Or.inl ⟨by omega, g_88, hz_88, fun S9 h9 E9 => x_88 S9 β (fun v a c => by rw [u_88]; exact hβ v a c) h9 E9⟩) (Or.inl ⟨by omega, g_119, hz_119, fun S9 h9 E9 => x_119 S9 β (fun v a c => by rw [u_119]; exact hβ v a c) h9 E9⟩) (Or.inl ⟨by omega, g_150, hz_150, fun S9 h9 E9 => x_150 S9 β (fun v a c => by rw [u_150]; exact hβ v a c) h9 E9⟩) (by rw [show J 7 t = J_150 7 t from (((q_150).2.2.2.1.1 t ht.1 ht.2).1).symm]; exact p_9))⟩⟩
        · refine tz_iconst (pc := 130) dX2_appliedPart_130 ?_
          refine tz_goto (pc := 131) (tgt := 153) dX2_appliedPart_131 (by decide) ?_
          refine tz_istore (pc := 153) (L2 := [_, _, _, _, _, _, _, _, _]) dX2_appliedPart_153 (by decide) rfl ?_
          refine tz_aload_n (pc := 155) dX2_appliedPart_155 rfl rfl ?_
          refine tz_fR (pc := 156) dX2_appliedPart_156 fl_X2_28 r_141_0 ?_
          refine tz_aload_n (pc := 159) dX2_appliedPart_159 rfl rfl ?_
          refine tz_fR (pc := 160) dX2_appliedPart_160 fl_X2_28 r_141_0 ?_
          refine tz_fR (pc := 163) dX2_appliedPart_163 fl_X2_42 r_6_1 ?_
          refine tz_iload_n (pc := 166) dX2_appliedPart_166 rfl rfl ?_
          refine tz_aL (pc := 167) (z := t) (v := (J_119 7 t)) dX2_appliedPart_167 a_7 rfl (by omega) rfl (fun r_167 => ?_)
          refine tz_iload (pc := 168) dX2_appliedPart_168 rfl ?_
          refine tz_iload (pc := 170) dX2_appliedPart_170 rfl ?_
          refine tz_iload (pc := 172) dX2_appliedPart_172 rfl ?_
          refine tz_cV (pc := 174) (c_made hl n _ _ _ _ _ (by omega) (by omega) (by omega) (by omega) m_119 (q_119).2.1 (q_119).2.2.1 (by have := (q_119).2.1.ar (t := t) (by omega) (by have := (q_119).1; omega); omega) (ltA_of (by omega) (by omega) (by omega))) vl_X2_52 dX2_appliedPart_174 o_6 rfl rfl (Nat.le_of_ble_eq_true rfl) ⟨(Nat.le_of_ble_eq_true rfl), (Nat.le_of_ble_eq_true rfl)⟩ rfl rfl (Nat.le_of_ble_eq_true rfl) (Nat.le_of_ble_eq_true rfl) (fun r9 J_174 hq9 => ?_)
          obtain ⟨z_174, rfl, hz_174, p_9⟩ := hq9
          obtain ⟨m9, g9, h9⟩ := GR.made p_9 (by omega)
          have q9 := GR.tr q_119 g9
          exact tz_iret (pc := 177) (z := z_174) dX2_appliedPart_177 rfl (Nat.le_of_ble_eq_true rfl) (Nat.le_of_ble_eq_true rfl) ⟨Nat.le_refl _, Nat.le_add_right _ _⟩ ⟨_, rfl, (by omega), ⟨m9, q9, h9, fun S β hβ hG E => ap_c hG E hm ht (by omega) (ap_end (fun S t h => apO_f h) hG E C hm ht (Or.inl ⟨by omega, g_88, hz_88, fun S9 h9 E9 => x_88 S9 β (fun v a c => by rw [u_88]; exact hβ v a c) h9 E9⟩) (Or.inl ⟨by omega, g_119, hz_119, fun S9 h9 E9 => x_119 S9 β (fun v a c => by rw [u_119]; exact hβ v a c) h9 E9⟩) (Or.inr ⟨by rw [show J_119 8 t = J 8 t from ((q_119).2.2.2.1.1 t ht.1 ht.2).2.1]; omega, rfl, rfl⟩) (by rw [show J 7 t = J_119 7 t from (((q_119).2.2.2.1.1 t ht.1 ht.2).1).symm]; exact p_9))⟩⟩
      · refine tz_iconst (pc := 99) dX2_appliedPart_99 ?_
        refine tz_goto (pc := 100) (tgt := 122) dX2_appliedPart_100 (by decide) ?_
        refine tz_istore (pc := 122) (L2 := [_, _, _, _, _, _, _, _, _]) dX2_appliedPart_122 (by decide) rfl ?_
        refine tz_iload (pc := 124) dX2_appliedPart_124 rfl ?_
        refine tz_iconst (pc := 126) dX2_appliedPart_126 ?_
        refine tz_icmp_ge (pc := 127) (tgt := 134) dX2_appliedPart_127 (by decide) (by omega) (by decide) (fun h_127 => ?_) (fun h_127 => ?_)
        · refine tz_aload_n (pc := 134) dX2_appliedPart_134 rfl rfl ?_
          refine tz_aload_n (pc := 135) dX2_appliedPart_135 rfl rfl ?_
          refine tz_fR (pc := 136) dX2_appliedPart_136 fl_X2_28 r_141_0 ?_
          refine tz_iload_n (pc := 139) dX2_appliedPart_139 rfl rfl ?_
          refine tz_iconst (pc := 140) dX2_appliedPart_140 ?_
          refine tz_cV (pc := 141) (c_arg hl n _ _ _ (by omega) (by decide) (by omega)) vl_X2_48 dX2_appliedPart_141 o_6 rfl rfl (Nat.le_of_ble_eq_true rfl) ⟨(Nat.le_of_ble_eq_true rfl), (Nat.le_of_ble_eq_true rfl)⟩ rfl rfl (Nat.le_of_ble_eq_true rfl) (Nat.le_of_ble_eq_true rfl) (fun r9 J_141 hq9 => ?_)
          obtain ⟨z_141, rfl, hz_141, rfl, rfl⟩ := hq9
          refine tz_aload_n (pc := 144) dX2_appliedPart_144 rfl rfl ?_
          refine tz_iload_n (pc := 145) dX2_appliedPart_145 rfl rfl ?_
          refine tz_iload (pc := 146) dX2_appliedPart_146 rfl ?_
          refine tz_iconst (pc := 148) dX2_appliedPart_148 ?_
          refine tz_iadd (pc := 149) (v := 6) dX2_appliedPart_149 (by decide) ?_
          have b_150 := GR.arg q_88 C ht (i := 2) (by omega)
          have c_150 := (q_88).1
          refine tz_cV (pc := 150) (x_app140_6 hl n _ _ (by omega) m_88 (q_88).2.1 (q_88).2.2.1 (by omega) (GR.row q_88 rfl hr)) vl_X2_32 dX2_appliedPart_150 o_141 rfl rfl (Nat.le_of_ble_eq_true rfl) ⟨(Nat.le_of_ble_eq_true rfl), (Nat.le_of_ble_eq_true rfl)⟩ rfl rfl (Nat.le_of_ble_eq_true rfl) (Nat.le_of_ble_eq_true rfl) (fun r9 J_150 hq9 => ?_)
          obtain ⟨z_150, rfl, hz_150, m_150, g_150, hz_150, x_150⟩ := hq9
          have q_150 := GR.tr q_88 g_150
          have d_150 := q_150.1
          have e_150 := g_150.1
          have u_150 : J_88 140 = J 140 := (q_88).2.2.2.2 140 rfl
          have k8_150 : J_88 8 t = J 8 t := ((q_88).2.2.2.1.1 t ht.1 ht.2).2.1
          refine tz_istore (pc := 153) (L2 := [_, _, _, _, _, _, _, _, _]) dX2_appliedPart_153 (by decide) rfl ?_
          refine tz_aload_n (pc := 155) dX2_appliedPart_155 rfl rfl ?_
          refine tz_fR (pc := 156) dX2_appliedPart_156 fl_X2_28 r_141_0 ?_
          refine tz_aload_n (pc := 159) dX2_appliedPart_159 rfl rfl ?_
          refine tz_fR (pc := 160) dX2_appliedPart_160 fl_X2_28 r_141_0 ?_
          refine tz_fR (pc := 163) dX2_appliedPart_163 fl_X2_42 r_6_1 ?_
          refine tz_iload_n (pc := 166) dX2_appliedPart_166 rfl rfl ?_
          refine tz_aL (pc := 167) (z := t) (v := (J_150 7 t)) dX2_appliedPart_167 a_7 rfl (by omega) rfl (fun r_167 => ?_)
          refine tz_iload (pc := 168) dX2_appliedPart_168 rfl ?_
          refine tz_iload (pc := 170) dX2_appliedPart_170 rfl ?_
          refine tz_iload (pc := 172) dX2_appliedPart_172 rfl ?_
          refine tz_cV (pc := 174) (c_made hl n _ _ _ _ _ (by omega) (by omega) (by omega) (by omega) m_150 (q_150).2.1 (q_150).2.2.1 (by have := (q_150).2.1.ar (t := t) (by omega) (by have := (q_150).1; omega); omega) (ltA_of (by omega) (by omega) (by omega))) vl_X2_52 dX2_appliedPart_174 o_6 rfl rfl (Nat.le_of_ble_eq_true rfl) ⟨(Nat.le_of_ble_eq_true rfl), (Nat.le_of_ble_eq_true rfl)⟩ rfl rfl (Nat.le_of_ble_eq_true rfl) (Nat.le_of_ble_eq_true rfl) (fun r9 J_174 hq9 => ?_)
          obtain ⟨z_174, rfl, hz_174, p_9⟩ := hq9
          obtain ⟨m9, g9, h9⟩ := GR.made p_9 (by omega)
          have q9 := GR.tr q_150 g9
          exact tz_iret (pc := 177) (z := z_174) dX2_appliedPart_177 rfl (Nat.le_of_ble_eq_true rfl) (Nat.le_of_ble_eq_true rfl) ⟨Nat.le_refl _, Nat.le_add_right _ _⟩ ⟨_, rfl, (by omega), ⟨m9, q9, h9, fun S β hβ hG E => ap_c hG E hm ht (by omega) (ap_end (fun S t h => apO_f h) hG E C hm ht (Or.inl ⟨by omega, g_88, hz_88, fun S9 h9 E9 => x_88 S9 β (fun v a c => by rw [u_88]; exact hβ v a c) h9 E9⟩) (Or.inr ⟨by rw [show J_88 8 t = J 8 t from ((q_88).2.2.2.1.1 t ht.1 ht.2).2.1]; omega, rfl, rfl⟩) (Or.inl ⟨by omega, g_150, hz_150, fun S9 h9 E9 => x_150 S9 β (fun v a c => by rw [u_150]; exact hβ v a c) h9 E9⟩) (by rw [show J 7 t = J_150 7 t from (((q_150).2.2.2.1.1 t ht.1 ht.2).1).symm]; exact p_9))⟩⟩
        · refine tz_iconst (pc := 130) dX2_appliedPart_130 ?_
          refine tz_goto (pc := 131) (tgt := 153) dX2_appliedPart_131 (by decide) ?_
          refine tz_istore (pc := 153) (L2 := [_, _, _, _, _, _, _, _, _]) dX2_appliedPart_153 (by decide) rfl ?_
          refine tz_aload_n (pc := 155) dX2_appliedPart_155 rfl rfl ?_
          refine tz_fR (pc := 156) dX2_appliedPart_156 fl_X2_28 r_141_0 ?_
          refine tz_aload_n (pc := 159) dX2_appliedPart_159 rfl rfl ?_
          refine tz_fR (pc := 160) dX2_appliedPart_160 fl_X2_28 r_141_0 ?_
          refine tz_fR (pc := 163) dX2_appliedPart_163 fl_X2_42 r_6_1 ?_
          refine tz_iload_n (pc := 166) dX2_appliedPart_166 rfl rfl ?_
          refine tz_aL (pc := 167) (z := t) (v := (J_88 7 t)) dX2_appliedPart_167 a_7 rfl (by omega) rfl (fun r_167 => ?_)
          refine tz_iload (pc := 168) dX2_appliedPart_168 rfl ?_
          refine tz_iload (pc := 170) dX2_appliedPart_170 rfl ?_
          refine tz_iload (pc := 172) dX2_appliedPart_172 rfl ?_
          refine tz_cV (pc := 174) (c_made hl n _ _ _ _ _ (by omega) (by omega) (by omega) (by omega) m_88 (q_88).2.1 (q_88).2.2.1 (by have := (q_88).2.1.ar (t := t) (by omega) (by have := (q_88).1; omega); omega) (ltA_of (by omega) (by omega) (by omega))) vl_X2_52 dX2_appliedPart_174 o_6 rfl rfl (Nat.le_of_ble_eq_true rfl) ⟨(Nat.le_of_ble_eq_true rfl), (Nat.le_of_ble_eq_true rfl)⟩ rfl rfl (Nat.le_of_ble_eq_true rfl) (Nat.le_of_ble_eq_true rfl) (fun r9 J_174 hq9 => ?_)
          obtain ⟨z_174, rfl, hz_174, p_9⟩ := hq9
          obtain ⟨m9, g9, h9⟩ := GR.made p_9 (by omega)
          have q9 := GR.tr q_88 g9
          exact tz_iret (pc := 177) (z := z_174) dX2_appliedPart_177 rfl (Nat.le_of_ble_eq_true rfl) (Nat.le_of_ble_eq_true rfl) ⟨Nat.le_refl _, Nat.le_add_right _ _⟩ ⟨_, rfl, (by omega), ⟨m9, q9, h9, fun S β hβ hG E => ap_c hG E hm ht (by omega) (ap_end (fun S t h => apO_f h) hG E C hm ht (Or.inl ⟨by omega, g_88, hz_88, fun S9 h9 E9 => x_88 S9 β (fun v a c => by rw [u_88]; exact hβ v a c) h9 E9⟩) (Or.inr ⟨by rw [show J_88 8 t = J 8 t from ((q_88).2.2.2.1.1 t ht.1 ht.2).2.1]; omega, rfl, rfl⟩) (Or.inr ⟨by rw [show J_88 8 t = J 8 t from ((q_88).2.2.2.1.1 t ht.1 ht.2).2.1]; omega, rfl, rfl⟩) (by rw [show J 7 t = J_88 7 t from (((q_88).2.2.2.1.1 t ht.1 ht.2).1).symm]; exact p_9))⟩⟩
    · refine tz_iconst (pc := 68) dX2_appliedPart_68 ?_
      refine tz_goto (pc := 69) (tgt := 91) dX2_appliedPart_69 (by decide) ?_
      refine tz_istore (pc := 91) (L2 := [_, _, _, _, _, _, _, _, _]) dX2_appliedPart_91 (by decide) rfl ?_
      refine tz_iload (pc := 93) dX2_appliedPart_93 rfl ?_
      refine tz_iconst (pc := 95) dX2_appliedPart_95 ?_
      refine tz_icmp_ge (pc := 96) (tgt := 103) dX2_appliedPart_96 (by decide) (by omega) (by decide) (fun h_96 => ?_) (fun h_96 => ?_)
      · refine tz_aload_n (pc := 103) dX2_appliedPart_103 rfl rfl ?_
        refine tz_aload_n (pc := 104) dX2_appliedPart_104 rfl rfl ?_
        refine tz_fR (pc := 105) dX2_appliedPart_105 fl_X2_28 r_141_0 ?_
        refine tz_iload_n (pc := 108) dX2_appliedPart_108 rfl rfl ?_
        refine tz_iconst (pc := 109) dX2_appliedPart_109 ?_
        refine tz_cV (pc := 110) (c_arg hl n _ _ _ (by omega) (by decide) (by omega)) vl_X2_48 dX2_appliedPart_110 o_6 rfl rfl (Nat.le_of_ble_eq_true rfl) ⟨(Nat.le_of_ble_eq_true rfl), (Nat.le_of_ble_eq_true rfl)⟩ rfl rfl (Nat.le_of_ble_eq_true rfl) (Nat.le_of_ble_eq_true rfl) (fun r9 J_110 hq9 => ?_)
        obtain ⟨z_110, rfl, hz_110, rfl, rfl⟩ := hq9
        refine tz_aload_n (pc := 113) dX2_appliedPart_113 rfl rfl ?_
        refine tz_iload_n (pc := 114) dX2_appliedPart_114 rfl rfl ?_
        refine tz_iload (pc := 115) dX2_appliedPart_115 rfl ?_
        refine tz_iconst (pc := 117) dX2_appliedPart_117 ?_
        refine tz_iadd (pc := 118) (v := 6) dX2_appliedPart_118 (by decide) ?_
        have b_119 := GR.arg (GR.rf C hm) C ht (i := 1) (by omega)
        have c_119 := ((GR.rf C hm)).1
        refine tz_cV (pc := 119) (x_app140_6 hl n _ _ (by omega) m ((GR.rf C hm)).2.1 ((GR.rf C hm)).2.2.1 (by omega) (GR.row (GR.rf C hm) rfl hr)) vl_X2_32 dX2_appliedPart_119 o_141 rfl rfl (Nat.le_of_ble_eq_true rfl) ⟨(Nat.le_of_ble_eq_true rfl), (Nat.le_of_ble_eq_true rfl)⟩ rfl rfl (Nat.le_of_ble_eq_true rfl) (Nat.le_of_ble_eq_true rfl) (fun r9 J_119 hq9 => ?_)
        obtain ⟨z_119, rfl, hz_119, m_119, g_119, hz_119, x_119⟩ := hq9
        have q_119 := GR.tr (GR.rf C hm) g_119
        have d_119 := q_119.1
        have e_119 := g_119.1
        have u_119 : J 140 = J 140 := ((GR.rf C hm)).2.2.2.2 140 rfl
        have k8_119 : J 8 t = J 8 t := (((GR.rf C hm)).2.2.2.1.1 t ht.1 ht.2).2.1
        refine tz_istore (pc := 122) (L2 := [_, _, _, _, _, _, _, _, _]) dX2_appliedPart_122 (by decide) rfl ?_
        refine tz_iload (pc := 124) dX2_appliedPart_124 rfl ?_
        refine tz_iconst (pc := 126) dX2_appliedPart_126 ?_
        refine tz_icmp_ge (pc := 127) (tgt := 134) dX2_appliedPart_127 (by decide) (by omega) (by decide) (fun h_127 => ?_) (fun h_127 => ?_)
        · refine tz_aload_n (pc := 134) dX2_appliedPart_134 rfl rfl ?_
          refine tz_aload_n (pc := 135) dX2_appliedPart_135 rfl rfl ?_
          refine tz_fR (pc := 136) dX2_appliedPart_136 fl_X2_28 r_141_0 ?_
          refine tz_iload_n (pc := 139) dX2_appliedPart_139 rfl rfl ?_
          refine tz_iconst (pc := 140) dX2_appliedPart_140 ?_
          refine tz_cV (pc := 141) (c_arg hl n _ _ _ (by omega) (by decide) (by omega)) vl_X2_48 dX2_appliedPart_141 o_6 rfl rfl (Nat.le_of_ble_eq_true rfl) ⟨(Nat.le_of_ble_eq_true rfl), (Nat.le_of_ble_eq_true rfl)⟩ rfl rfl (Nat.le_of_ble_eq_true rfl) (Nat.le_of_ble_eq_true rfl) (fun r9 J_141 hq9 => ?_)
          obtain ⟨z_141, rfl, hz_141, rfl, rfl⟩ := hq9
          refine tz_aload_n (pc := 144) dX2_appliedPart_144 rfl rfl ?_
          refine tz_iload_n (pc := 145) dX2_appliedPart_145 rfl rfl ?_
          refine tz_iload (pc := 146) dX2_appliedPart_146 rfl ?_
          refine tz_iconst (pc := 148) dX2_appliedPart_148 ?_
          refine tz_iadd (pc := 149) (v := 6) dX2_appliedPart_149 (by decide) ?_
          have b_150 := GR.arg q_119 C ht (i := 2) (by omega)
          have c_150 := (q_119).1
          refine tz_cV (pc := 150) (x_app140_6 hl n _ _ (by omega) m_119 (q_119).2.1 (q_119).2.2.1 (by omega) (GR.row q_119 rfl hr)) vl_X2_32 dX2_appliedPart_150 o_141 rfl rfl (Nat.le_of_ble_eq_true rfl) ⟨(Nat.le_of_ble_eq_true rfl), (Nat.le_of_ble_eq_true rfl)⟩ rfl rfl (Nat.le_of_ble_eq_true rfl) (Nat.le_of_ble_eq_true rfl) (fun r9 J_150 hq9 => ?_)
          obtain ⟨z_150, rfl, hz_150, m_150, g_150, hz_150, x_150⟩ := hq9
          have q_150 := GR.tr q_119 g_150
          have d_150 := q_150.1
          have e_150 := g_150.1
          have u_150 : J_119 140 = J 140 := (q_119).2.2.2.2 140 rfl
          have k8_150 : J_119 8 t = J 8 t := ((q_119).2.2.2.1.1 t ht.1 ht.2).2.1
          refine tz_istore (pc := 153) (L2 := [_, _, _, _, _, _, _, _, _]) dX2_appliedPart_153 (by decide) rfl ?_
          refine tz_aload_n (pc := 155) dX2_appliedPart_155 rfl rfl ?_
          refine tz_fR (pc := 156) dX2_appliedPart_156 fl_X2_28 r_141_0 ?_
          refine tz_aload_n (pc := 159) dX2_appliedPart_159 rfl rfl ?_
          refine tz_fR (pc := 160) dX2_appliedPart_160 fl_X2_28 r_141_0 ?_
          refine tz_fR (pc := 163) dX2_appliedPart_163 fl_X2_42 r_6_1 ?_
          refine tz_iload_n (pc := 166) dX2_appliedPart_166 rfl rfl ?_
          refine tz_aL (pc := 167) (z := t) (v := (J_150 7 t)) dX2_appliedPart_167 a_7 rfl (by omega) rfl (fun r_167 => ?_)
          refine tz_iload (pc := 168) dX2_appliedPart_168 rfl ?_
          refine tz_iload (pc := 170) dX2_appliedPart_170 rfl ?_
          refine tz_iload (pc := 172) dX2_appliedPart_172 rfl ?_
          refine tz_cV (pc := 174) (c_made hl n _ _ _ _ _ (by omega) (by omega) (by omega) (by omega) m_150 (q_150).2.1 (q_150).2.2.1 (by have := (q_150).2.1.ar (t := t) (by omega) (by have := (q_150).1; omega); omega) (ltA_of (by omega) (by omega) (by omega))) vl_X2_52 dX2_appliedPart_174 o_6 rfl rfl (Nat.le_of_ble_eq_true rfl) ⟨(Nat.le_of_ble_eq_true rfl), (Nat.le_of_ble_eq_true rfl)⟩ rfl rfl (Nat.le_of_ble_eq_true rfl) (Nat.le_of_ble_eq_true rfl) (fun r9 J_174 hq9 => ?_)
          obtain ⟨z_174, rfl, hz_174, p_9⟩ := hq9
          obtain ⟨m9, g9, h9⟩ := GR.made p_9 (by omega)
          have q9 := GR.tr q_150 g9
          exact tz_iret (pc := 177) (z := z_174) dX2_appliedPart_177 rfl (Nat.le_of_ble_eq_true rfl) (Nat.le_of_ble_eq_true rfl) ⟨Nat.le_refl _, Nat.le_add_right _ _⟩ ⟨_, rfl, (by omega), ⟨m9, q9, h9, fun S β hβ hG E => ap_c hG E hm ht (by omega) (ap_end (fun S t h => apO_f h) hG E C hm ht (Or.inr ⟨by rw [show J 8 t = J 8 t from rfl]; omega, rfl, rfl⟩) (Or.inl ⟨by omega, g_119, hz_119, fun S9 h9 E9 => x_119 S9 β (fun v a c => by rw [u_119]; exact hβ v a c) h9 E9⟩) (Or.inl ⟨by omega, g_150, hz_150, fun S9 h9 E9 => x_150 S9 β (fun v a c => by rw [u_150]; exact hβ v a c) h9 E9⟩) (by rw [show J 7 t = J_150 7 t from (((q_150).2.2.2.1.1 t ht.1 ht.2).1).symm]; exact p_9))⟩⟩
        · refine tz_iconst (pc := 130) dX2_appliedPart_130 ?_
          refine tz_goto (pc := 131) (tgt := 153) dX2_appliedPart_131 (by decide) ?_
          refine tz_istore (pc := 153) (L2 := [_, _, _, _, _, _, _, _, _]) dX2_appliedPart_153 (by decide) rfl ?_
          refine tz_aload_n (pc := 155) dX2_appliedPart_155 rfl rfl ?_
          refine tz_fR (pc := 156) dX2_appliedPart_156 fl_X2_28 r_141_0 ?_
          refine tz_aload_n (pc := 159) dX2_appliedPart_159 rfl rfl ?_
          refine tz_fR (pc := 160) dX2_appliedPart_160 fl_X2_28 r_141_0 ?_
          refine tz_fR (pc := 163) dX2_appliedPart_163 fl_X2_42 r_6_1 ?_
          refine tz_iload_n (pc := 166) dX2_appliedPart_166 rfl rfl ?_
          refine tz_aL (pc := 167) (z := t) (v := (J_119 7 t)) dX2_appliedPart_167 a_7 rfl (by omega) rfl (fun r_167 => ?_)
          refine tz_iload (pc := 168) dX2_appliedPart_168 rfl ?_
          refine tz_iload (pc := 170) dX2_appliedPart_170 rfl ?_
          refine tz_iload (pc := 172) dX2_appliedPart_172 rfl ?_
          refine tz_cV (pc := 174) (c_made hl n _ _ _ _ _ (by omega) (by omega) (by omega) (by omega) m_119 (q_119).2.1 (q_119).2.2.1 (by have := (q_119).2.1.ar (t := t) (by omega) (by have := (q_119).1; omega); omega) (ltA_of (by omega) (by omega) (by omega))) vl_X2_52 dX2_appliedPart_174 o_6 rfl rfl (Nat.le_of_ble_eq_true rfl) ⟨(Nat.le_of_ble_eq_true rfl), (Nat.le_of_ble_eq_true rfl)⟩ rfl rfl (Nat.le_of_ble_eq_true rfl) (Nat.le_of_ble_eq_true rfl) (fun r9 J_174 hq9 => ?_)
          obtain ⟨z_174, rfl, hz_174, p_9⟩ := hq9
          obtain ⟨m9, g9, h9⟩ := GR.made p_9 (by omega)
          have q9 := GR.tr q_119 g9
          exact tz_iret (pc := 177) (z := z_174) dX2_appliedPart_177 rfl (Nat.le_of_ble_eq_true rfl) (Nat.le_of_ble_eq_true rfl) ⟨Nat.le_refl _, Nat.le_add_right _ _⟩ ⟨_, rfl, (by omega), ⟨m9, q9, h9, fun S β hβ hG E => ap_c hG E hm ht (by omega) (ap_end (fun S t h => apO_f h) hG E C hm ht (Or.inr ⟨by rw [show J 8 t = J 8 t from rfl]; omega, rfl, rfl⟩) (Or.inl ⟨by omega, g_119, hz_119, fun S9 h9 E9 => x_119 S9 β (fun v a c => by rw [u_119]; exact hβ v a c) h9 E9⟩) (Or.inr ⟨by rw [show J_119 8 t = J 8 t from ((q_119).2.2.2.1.1 t ht.1 ht.2).2.1]; omega, rfl, rfl⟩) (by rw [show J 7 t = J_119 7 t from (((q_119).2.2.2.1.1 t ht.1 ht.2).1).symm]; exact p_9))⟩⟩
      · refine tz_iconst (pc := 99) dX2_appliedPart_99 ?_
        refine tz_goto (pc := 100) (tgt := 122) dX2_appliedPart_100 (by decide) ?_
        refine tz_istore (pc := 122) (L2 := [_, _, _, _, _, _, _, _, _]) dX2_appliedPart_122 (by decide) rfl ?_
        refine tz_iload (pc := 124) dX2_appliedPart_124 rfl ?_
        refine tz_iconst (pc := 126) dX2_appliedPart_126 ?_
        refine tz_icmp_ge (pc := 127) (tgt := 134) dX2_appliedPart_127 (by decide) (by omega) (by decide) (fun h_127 => ?_) (fun h_127 => ?_)
        · refine tz_aload_n (pc := 134) dX2_appliedPart_134 rfl rfl ?_
          refine tz_aload_n (pc := 135) dX2_appliedPart_135 rfl rfl ?_
          refine tz_fR (pc := 136) dX2_appliedPart_136 fl_X2_28 r_141_0 ?_
          refine tz_iload_n (pc := 139) dX2_appliedPart_139 rfl rfl ?_
          refine tz_iconst (pc := 140) dX2_appliedPart_140 ?_
          refine tz_cV (pc := 141) (c_arg hl n _ _ _ (by omega) (by decide) (by omega)) vl_X2_48 dX2_appliedPart_141 o_6 rfl rfl (Nat.le_of_ble_eq_true rfl) ⟨(Nat.le_of_ble_eq_true rfl), (Nat.le_of_ble_eq_true rfl)⟩ rfl rfl (Nat.le_of_ble_eq_true rfl) (Nat.le_of_ble_eq_true rfl) (fun r9 J_141 hq9 => ?_)
          obtain ⟨z_141, rfl, hz_141, rfl, rfl⟩ := hq9
          refine tz_aload_n (pc := 144) dX2_appliedPart_144 rfl rfl ?_
          refine tz_iload_n (pc := 145) dX2_appliedPart_145 rfl rfl ?_
          refine tz_iload (pc := 146) dX2_appliedPart_146 rfl ?_
          refine tz_iconst (pc := 148) dX2_appliedPart_148 ?_
          refine tz_iadd (pc := 149) (v := 6) dX2_appliedPart_149 (by decide) ?_
          have b_150 := GR.arg (GR.rf C hm) C ht (i := 2) (by omega)
          have c_150 := ((GR.rf C hm)).1
          refine tz_cV (pc := 150) (x_app140_6 hl n _ _ (by omega) m ((GR.rf C hm)).2.1 ((GR.rf C hm)).2.2.1 (by omega) (GR.row (GR.rf C hm) rfl hr)) vl_X2_32 dX2_appliedPart_150 o_141 rfl rfl (Nat.le_of_ble_eq_true rfl) ⟨(Nat.le_of_ble_eq_true rfl), (Nat.le_of_ble_eq_true rfl)⟩ rfl rfl (Nat.le_of_ble_eq_true rfl) (Nat.le_of_ble_eq_true rfl) (fun r9 J_150 hq9 => ?_)
          obtain ⟨z_150, rfl, hz_150, m_150, g_150, hz_150, x_150⟩ := hq9
          have q_150 := GR.tr (GR.rf C hm) g_150
          have d_150 := q_150.1
          have e_150 := g_150.1
          have u_150 : J 140 = J 140 := ((GR.rf C hm)).2.2.2.2 140 rfl
          have k8_150 : J 8 t = J 8 t := (((GR.rf C hm)).2.2.2.1.1 t ht.1 ht.2).2.1
          refine tz_istore (pc := 153) (L2 := [_, _, _, _, _, _, _, _, _]) dX2_appliedPart_153 (by decide) rfl ?_
          refine tz_aload_n (pc := 155) dX2_appliedPart_155 rfl rfl ?_
          refine tz_fR (pc := 156) dX2_appliedPart_156 fl_X2_28 r_141_0 ?_
          refine tz_aload_n (pc := 159) dX2_appliedPart_159 rfl rfl ?_
          refine tz_fR (pc := 160) dX2_appliedPart_160 fl_X2_28 r_141_0 ?_
          refine tz_fR (pc := 163) dX2_appliedPart_163 fl_X2_42 r_6_1 ?_
          refine tz_iload_n (pc := 166) dX2_appliedPart_166 rfl rfl ?_
          refine tz_aL (pc := 167) (z := t) (v := (J_150 7 t)) dX2_appliedPart_167 a_7 rfl (by omega) rfl (fun r_167 => ?_)
          refine tz_iload (pc := 168) dX2_appliedPart_168 rfl ?_
          refine tz_iload (pc := 170) dX2_appliedPart_170 rfl ?_
          refine tz_iload (pc := 172) dX2_appliedPart_172 rfl ?_
          refine tz_cV (pc := 174) (c_made hl n _ _ _ _ _ (by omega) (by omega) (by omega) (by omega) m_150 (q_150).2.1 (q_150).2.2.1 (by have := (q_150).2.1.ar (t := t) (by omega) (by have := (q_150).1; omega); omega) (ltA_of (by omega) (by omega) (by omega))) vl_X2_52 dX2_appliedPart_174 o_6 rfl rfl (Nat.le_of_ble_eq_true rfl) ⟨(Nat.le_of_ble_eq_true rfl), (Nat.le_of_ble_eq_true rfl)⟩ rfl rfl (Nat.le_of_ble_eq_true rfl) (Nat.le_of_ble_eq_true rfl) (fun r9 J_174 hq9 => ?_)
          obtain ⟨z_174, rfl, hz_174, p_9⟩ := hq9
          obtain ⟨m9, g9, h9⟩ := GR.made p_9 (by omega)
          have q9 := GR.tr q_150 g9
          exact tz_iret (pc := 177) (z := z_174) dX2_appliedPart_177 rfl (Nat.le_of_ble_eq_true rfl) (Nat.le_of_ble_eq_true rfl) ⟨Nat.le_refl _, Nat.le_add_right _ _⟩ ⟨_, rfl, (by omega), ⟨m9, q9, h9, fun S β hβ hG E => ap_c hG E hm ht (by omega) (ap_end (fun S t h => apO_f h) hG E C hm ht (Or.inr ⟨by rw [show J 8 t = J 8 t from rfl]; omega, rfl, rfl⟩) (Or.inr ⟨by rw [show J 8 t = J 8 t from rfl]; omega, rfl, rfl⟩) (Or.inl ⟨by omega, g_150, hz_150, fun S9 h9 E9 => x_150 S9 β (fun v a c => by rw [u_150]; exact hβ v a c) h9 E9⟩) (by rw [show J 7 t = J_150 7 t from (((q_150).2.2.2.1.1 t ht.1 ht.2).1).symm]; exact p_9))⟩⟩
        · refine tz_iconst (pc := 130) dX2_appliedPart_130 ?_
          refine tz_goto (pc := 131) (tgt := 153) dX2_appliedPart_131 (by decide) ?_
          refine tz_istore (pc := 153) (L2 := [_, _, _, _, _, _, _, _, _]) dX2_appliedPart_153 (by decide) rfl ?_
          refine tz_aload_n (pc := 155) dX2_appliedPart_155 rfl rfl ?_
          refine tz_fR (pc := 156) dX2_appliedPart_156 fl_X2_28 r_141_0 ?_
          refine tz_aload_n (pc := 159) dX2_appliedPart_159 rfl rfl ?_
          refine tz_fR (pc := 160) dX2_appliedPart_160 fl_X2_28 r_141_0 ?_
          refine tz_fR (pc := 163) dX2_appliedPart_163 fl_X2_42 r_6_1 ?_
          refine tz_iload_n (pc := 166) dX2_appliedPart_166 rfl rfl ?_
          refine tz_aL (pc := 167) (z := t) (v := (J 7 t)) dX2_appliedPart_167 a_7 rfl (by omega) rfl (fun r_167 => ?_)
          refine tz_iload (pc := 168) dX2_appliedPart_168 rfl ?_
          refine tz_iload (pc := 170) dX2_appliedPart_170 rfl ?_
          refine tz_iload (pc := 172) dX2_appliedPart_172 rfl ?_
          refine tz_cV (pc := 174) (c_made hl n _ _ _ _ _ (by omega) (by omega) (by omega) (by omega) m ((GR.rf C hm)).2.1 ((GR.rf C hm)).2.2.1 (by have := ((GR.rf C hm)).2.1.ar (t := t) (by omega) (by have := ((GR.rf C hm)).1; omega); omega) (ltA_of (by omega) (by omega) (by omega))) vl_X2_52 dX2_appliedPart_174 o_6 rfl rfl (Nat.le_of_ble_eq_true rfl) ⟨(Nat.le_of_ble_eq_true rfl), (Nat.le_of_ble_eq_true rfl)⟩ rfl rfl (Nat.le_of_ble_eq_true rfl) (Nat.le_of_ble_eq_true rfl) (fun r9 J_174 hq9 => ?_)
          obtain ⟨z_174, rfl, hz_174, p_9⟩ := hq9
          obtain ⟨m9, g9, h9⟩ := GR.made p_9 (by omega)
          have q9 := GR.tr (GR.rf C hm) g9
          exact tz_iret (pc := 177) (z := z_174) dX2_appliedPart_177 rfl (Nat.le_of_ble_eq_true rfl) (Nat.le_of_ble_eq_true rfl) ⟨Nat.le_refl _, Nat.le_add_right _ _⟩ ⟨_, rfl, (by omega), ⟨m9, q9, h9, fun S β hβ hG E => ap_c hG E hm ht (by omega) (ap_end (fun S t h => apO_f h) hG E C hm ht (Or.inr ⟨by rw [show J 8 t = J 8 t from rfl]; omega, rfl, rfl⟩) (Or.inr ⟨by rw [show J 8 t = J 8 t from rfl]; omega, rfl, rfl⟩) (Or.inr ⟨by rw [show J 8 t = J 8 t from rfl]; omega, rfl, rfl⟩) (by rw [show J 7 t = J 7 t from rfl]; exact p_9))⟩⟩

set_option maxHeartbeats 4000000 in
set_option maxRecDepth 100000 in
theorem x_app140_4 {l : Launch} {G : tb_G} (hl : l.stackTraces = false) (n : Nat) (J : zJ) (t : Int) (hr_t : -2147483648 ≤ t ∧ t < 2147483648) (m : Int) (C : CT J m) (hm : J 6 12 = m) (ht : 0 ≤ t ∧ t < m) (hr : rOK J 140 0 m) : tz_Ok l G M_X2_appliedPart 5 0 0 [.ref 141, zi t, .ref 140, zi 0, zi 4] n J (zqi (fun z J' => ∃ m', GR J' J m m' ∧ (z = -3 ∨ (0 ≤ z ∧ z < m')) ∧ ∀ (S : zJ) (β : Int → Int), (∀ v, 0 ≤ v → v < 8 → β v = J 140 (0 + v)) → S 164 21 = 0 → A0 J S → EXO (apO β 3 S t) z J')) zN := by
  refine tz_Ok.of hl (by decide +kernel) rfl (tb_c1 rfl) (Nat.le_of_ble_eq_true rfl) ?_
  show tz_At l G M_X2_appliedPart (tb_rm 5 0 0) none (tb_ZM G 0 0 (zQ n 0 (zqi (fun z J' => ∃ m', GR J' J m m' ∧ (z = -3 ∨ (0 ≤ z ∧ z < m')) ∧ ∀ (S : zJ) (β : Int → Int), (∀ v, 0 ≤ v → v < 8 → β v = J 140 (0 + v)) → S 164 21 = 0 → A0 J S → EXO (apO β 3 S t) z J'))) (zX n 0 zN)) 0 0 n J 0 [some (.ref 141), some (zi t), some (.ref 140), some (zi 0), some (zi 4), none, none, none, none] []
  have hb := C.told
  have ha := C.ar ht.1 ht.2
  refine tz_iload (pc := 0) dX2_appliedPart_0 rfl ?_
  refine tz_bipush (pc := 2) dX2_appliedPart_2 (by decide) ?_
  refine tz_icmp_leT (pc := 4) (tgt := 10) (by decide) dX2_appliedPart_4 (by decide) (by decide) (by decide) ?_
  refine tz_aload_n (pc := 10) dX2_appliedPart_10 rfl rfl ?_
  refine tz_fR (pc := 11) dX2_appliedPart_11 fl_X2_28 r_141_0 ?_
  refine tz_iload_n (pc := 14) dX2_appliedPart_14 rfl rfl ?_
  refine tz_cV (pc := 15) (c_isVar hl n _ _ (by omega) (by omega)) vl_X2_36 dX2_appliedPart_15 o_6 rfl rfl (Nat.le_of_ble_eq_true rfl) ⟨(Nat.le_of_ble_eq_true rfl), (Nat.le_of_ble_eq_true rfl)⟩ rfl rfl (Nat.le_of_ble_eq_true rfl) (Nat.le_of_ble_eq_true rfl) (fun r9 J_15 hq9 => ?_)
  obtain ⟨z_15, rfl, hz_15, rfl, rfl⟩ := hq9
  by_cases hw_18 : J 7 t < 0
  · rw [show (if J 7 t < 0 then 1 else 0 : Int) = 1 from if_pos hw_18]
    refine tz_if_eqF (pc := 18) (tgt := 51) (by decide) dX2_appliedPart_18 (by decide) (by decide) ?_
    refine tz_aload_n (pc := 21) dX2_appliedPart_21 rfl rfl ?_
    refine tz_iload_n (pc := 22) dX2_appliedPart_22 rfl rfl ?_
    refine tz_aload_n (pc := 23) dX2_appliedPart_23 rfl rfl ?_
    refine tz_fR (pc := 24) dX2_appliedPart_24 fl_X2_28 r_141_0 ?_
    refine tz_fR (pc := 27) dX2_appliedPart_27 fl_X2_42 r_6_1 ?_
    refine tz_iload_n (pc := 30) dX2_appliedPart_30 rfl rfl ?_
    refine tz_aL (pc := 31) (z := t) (v := (J 7 t)) dX2_appliedPart_31 a_7 rfl (by omega) rfl (fun r_31 => ?_)
    refine tz_iconst (pc := 32) dX2_appliedPart_32 ?_
    refine tz_ixor (pc := 33) (v := -1 - J 7 t) dX2_appliedPart_33 (z_nn (by omega)) ?_
    refine tz_iadd (pc := 34) (v := 0 + (-1 - J 7 t)) dX2_appliedPart_34 rfl ?_
    have hv := hr (-1 - J 7 t) (by omega) (by omega)
    refine tz_aL (pc := 35) (z := (0 + (-1 - J 7 t))) (v := (J 140 (0 + (-1 - J 7 t)))) dX2_appliedPart_35 a_140 rfl (by omega) rfl (fun r_35 => ?_)
    refine tz_istore (pc := 36) (L2 := [_, _, _, _, _, _, _, _, _]) dX2_appliedPart_36 (by decide) rfl ?_
    refine tz_iload (pc := 38) dX2_appliedPart_38 rfl ?_
    refine tz_iconst (pc := 40) dX2_appliedPart_40 ?_
    refine tz_icmp_ne (pc := 41) (tgt := 48) dX2_appliedPart_41 (by decide) (by omega) (by decide) (fun h_41 => ?_) (fun h_41 => ?_)
    · refine tz_iload (pc := 48) dX2_appliedPart_48 rfl ?_
      exact tz_iret (pc := 50) (z := (J 140 (0 + (-1 - J 7 t)))) dX2_appliedPart_50 rfl (Nat.le_of_ble_eq_true rfl) (Nat.le_of_ble_eq_true rfl) ⟨Nat.le_refl _, Nat.le_add_right _ _⟩ ⟨_, rfl, (by omega), ⟨m, GR.rf C hm, Or.inr (by omega), fun S β hβ hG E => ap_v hG E hm ht (by omega) (by omega) (by have := hβ (-1 - J 7 t) (by omega) (by omega); rw [this]; omega)⟩⟩
    · refine tz_iload_n (pc := 44) dX2_appliedPart_44 rfl rfl ?_
      refine tz_goto (pc := 45) (tgt := 50) dX2_appliedPart_45 (by decide) ?_
      exact tz_iret (pc := 50) (z := t) dX2_appliedPart_50 rfl (Nat.le_of_ble_eq_true rfl) (Nat.le_of_ble_eq_true rfl) ⟨Nat.le_refl _, Nat.le_add_right _ _⟩ ⟨_, rfl, (by omega), ⟨m, GR.rf C hm, Or.inr (by omega), fun S β hβ hG E => ap_v hG E hm ht (by omega) (by omega) (by have := hβ (-1 - J 7 t) (by omega) (by omega); rw [this]; omega)⟩⟩
  · rw [show (if J 7 t < 0 then 1 else 0 : Int) = 0 from if_neg hw_18]
    refine tz_if_eqT (pc := 18) (tgt := 51) (by decide) dX2_appliedPart_18 (by decide) (by decide) ?_
    refine tz_aload_n (pc := 51) dX2_appliedPart_51 rfl rfl ?_
    refine tz_fR (pc := 52) dX2_appliedPart_52 fl_X2_28 r_141_0 ?_
    refine tz_fR (pc := 55) dX2_appliedPart_55 fl_X2_45 r_6_2 ?_
    refine tz_iload_n (pc := 58) dX2_appliedPart_58 rfl rfl ?_
    refine tz_aL (pc := 59) (z := t) (v := (J 8 t)) dX2_appliedPart_59 a_8 rfl (by omega) rfl (fun r_59 => ?_)
    refine tz_istore (pc := 60) (L2 := [_, _, _, _, _, _, _, _, _]) dX2_appliedPart_60 (by decide) rfl ?_
    refine tz_iload (pc := 62) dX2_appliedPart_62 rfl ?_
    refine tz_iconst (pc := 64) dX2_appliedPart_64 ?_
    refine tz_icmp_ge (pc := 65) (tgt := 72) dX2_appliedPart_65 (by decide) (by omega) (by decide) (fun h_65 => ?_) (fun h_65 => ?_)
    · refine tz_aload_n (pc := 72) dX2_appliedPart_72 rfl rfl ?_
      refine tz_aload_n (pc := 73) dX2_appliedPart_73 rfl rfl ?_
      refine tz_fR (pc := 74) dX2_appliedPart_74 fl_X2_28 r_141_0 ?_
      refine tz_iload_n (pc := 77) dX2_appliedPart_77 rfl rfl ?_
      refine tz_iconst (pc := 78) dX2_appliedPart_78 ?_
      refine tz_cV (pc := 79) (c_arg hl n _ _ _ (by omega) (by decide) (by omega)) vl_X2_48 dX2_appliedPart_79 o_6 rfl rfl (Nat.le_of_ble_eq_true rfl) ⟨(Nat.le_of_ble_eq_true rfl), (Nat.le_of_ble_eq_true rfl)⟩ rfl rfl (Nat.le_of_ble_eq_true rfl) (Nat.le_of_ble_eq_true rfl) (fun r9 J_79 hq9 => ?_)
      obtain ⟨z_79, rfl, hz_79, rfl, rfl⟩ := hq9
      refine tz_aload_n (pc := 82) dX2_appliedPart_82 rfl rfl ?_
      refine tz_iload_n (pc := 83) dX2_appliedPart_83 rfl rfl ?_
      refine tz_iload (pc := 84) dX2_appliedPart_84 rfl ?_
      refine tz_iconst (pc := 86) dX2_appliedPart_86 ?_
      refine tz_iadd (pc := 87) (v := 5) dX2_appliedPart_87 (by decide) ?_
      have b_88 := GR.arg (GR.rf C hm) C ht (i := 0) (by omega)
      have c_88 := ((GR.rf C hm)).1
      refine tz_cV (pc := 88) (x_app140_5 hl n _ _ (by omega) m ((GR.rf C hm)).2.1 ((GR.rf C hm)).2.2.1 (by omega) (GR.row (GR.rf C hm) rfl hr)) vl_X2_32 dX2_appliedPart_88 o_141 rfl rfl (Nat.le_of_ble_eq_true rfl) ⟨(Nat.le_of_ble_eq_true rfl), (Nat.le_of_ble_eq_true rfl)⟩ rfl rfl (Nat.le_of_ble_eq_true rfl) (Nat.le_of_ble_eq_true rfl) (fun r9 J_88 hq9 => ?_)
      obtain ⟨z_88, rfl, hz_88, m_88, g_88, hz_88, x_88⟩ := hq9
      have q_88 := GR.tr (GR.rf C hm) g_88
      have d_88 := q_88.1
      have e_88 := g_88.1
      have u_88 : J 140 = J 140 := ((GR.rf C hm)).2.2.2.2 140 rfl
      have k8_88 : J 8 t = J 8 t := (((GR.rf C hm)).2.2.2.1.1 t ht.1 ht.2).2.1
      refine tz_istore (pc := 91) (L2 := [_, _, _, _, _, _, _, _, _]) dX2_appliedPart_91 (by decide) rfl ?_
      refine tz_iload (pc := 93) dX2_appliedPart_93 rfl ?_
      refine tz_iconst (pc := 95) dX2_appliedPart_95 ?_
      refine tz_icmp_ge (pc := 96) (tgt := 103) dX2_appliedPart_96 (by decide) (by omega) (by decide) (fun h_96 => ?_) (fun h_96 => ?_)
      · refine tz_aload_n (pc := 103) dX2_appliedPart_103 rfl rfl ?_
        refine tz_aload_n (pc := 104) dX2_appliedPart_104 rfl rfl ?_
        refine tz_fR (pc := 105) dX2_appliedPart_105 fl_X2_28 r_141_0 ?_
        refine tz_iload_n (pc := 108) dX2_appliedPart_108 rfl rfl ?_
        refine tz_iconst (pc := 109) dX2_appliedPart_109 ?_
        refine tz_cV (pc := 110) (c_arg hl n _ _ _ (by omega) (by decide) (by omega)) vl_X2_48 dX2_appliedPart_110 o_6 rfl rfl (Nat.le_of_ble_eq_true rfl) ⟨(Nat.le_of_ble_eq_true rfl), (Nat.le_of_ble_eq_true rfl)⟩ rfl rfl (Nat.le_of_ble_eq_true rfl) (Nat.le_of_ble_eq_true rfl) (fun r9 J_110 hq9 => ?_)
        obtain ⟨z_110, rfl, hz_110, rfl, rfl⟩ := hq9
        refine tz_aload_n (pc := 113) dX2_appliedPart_113 rfl rfl ?_
        refine tz_iload_n (pc := 114) dX2_appliedPart_114 rfl rfl ?_
        refine tz_iload (pc := 115) dX2_appliedPart_115 rfl ?_
        refine tz_iconst (pc := 117) dX2_appliedPart_117 ?_
        refine tz_iadd (pc := 118) (v := 5) dX2_appliedPart_118 (by decide) ?_
        have b_119 := GR.arg q_88 C ht (i := 1) (by omega)
        have c_119 := (q_88).1
        refine tz_cV (pc := 119) (x_app140_5 hl n _ _ (by omega) m_88 (q_88).2.1 (q_88).2.2.1 (by omega) (GR.row q_88 rfl hr)) vl_X2_32 dX2_appliedPart_119 o_141 rfl rfl (Nat.le_of_ble_eq_true rfl) ⟨(Nat.le_of_ble_eq_true rfl), (Nat.le_of_ble_eq_true rfl)⟩ rfl rfl (Nat.le_of_ble_eq_true rfl) (Nat.le_of_ble_eq_true rfl) (fun r9 J_119 hq9 => ?_)
        obtain ⟨z_119, rfl, hz_119, m_119, g_119, hz_119, x_119⟩ := hq9
        have q_119 := GR.tr q_88 g_119
        have d_119 := q_119.1
        have e_119 := g_119.1
        have u_119 : J_88 140 = J 140 := (q_88).2.2.2.2 140 rfl
        have k8_119 : J_88 8 t = J 8 t := ((q_88).2.2.2.1.1 t ht.1 ht.2).2.1
        refine tz_istore (pc := 122) (L2 := [_, _, _, _, _, _, _, _, _]) dX2_appliedPart_122 (by decide) rfl ?_
        refine tz_iload (pc := 124) dX2_appliedPart_124 rfl ?_
        refine tz_iconst (pc := 126) dX2_appliedPart_126 ?_
        refine tz_icmp_ge (pc := 127) (tgt := 134) dX2_appliedPart_127 (by decide) (by omega) (by decide) (fun h_127 => ?_) (fun h_127 => ?_)
        · refine tz_aload_n (pc := 134) dX2_appliedPart_134 rfl rfl ?_
          refine tz_aload_n (pc := 135) dX2_appliedPart_135 rfl rfl ?_
          refine tz_fR (pc := 136) dX2_appliedPart_136 fl_X2_28 r_141_0 ?_
          refine tz_iload_n (pc := 139) dX2_appliedPart_139 rfl rfl ?_
          refine tz_iconst (pc := 140) dX2_appliedPart_140 ?_
          refine tz_cV (pc := 141) (c_arg hl n _ _ _ (by omega) (by decide) (by omega)) vl_X2_48 dX2_appliedPart_141 o_6 rfl rfl (Nat.le_of_ble_eq_true rfl) ⟨(Nat.le_of_ble_eq_true rfl), (Nat.le_of_ble_eq_true rfl)⟩ rfl rfl (Nat.le_of_ble_eq_true rfl) (Nat.le_of_ble_eq_true rfl) (fun r9 J_141 hq9 => ?_)
          obtain ⟨z_141, rfl, hz_141, rfl, rfl⟩ := hq9
          refine tz_aload_n (pc := 144) dX2_appliedPart_144 rfl rfl ?_
          refine tz_iload_n (pc := 145) dX2_appliedPart_145 rfl rfl ?_
          refine tz_iload (pc := 146) dX2_appliedPart_146 rfl ?_
          refine tz_iconst (pc := 148) dX2_appliedPart_148 ?_
          refine tz_iadd (pc := 149) (v := 5) dX2_appliedPart_149 (by decide) ?_
          have b_150 := GR.arg q_119 C ht (i := 2) (by omega)
          have c_150 := (q_119).1
          refine tz_cV (pc := 150) (x_app140_5 hl n _ _ (by omega) m_119 (q_119).2.1 (q_119).2.2.1 (by omega) (GR.row q_119 rfl hr)) vl_X2_32 dX2_appliedPart_150 o_141 rfl rfl (Nat.le_of_ble_eq_true rfl) ⟨(Nat.le_of_ble_eq_true rfl), (Nat.le_of_ble_eq_true rfl)⟩ rfl rfl (Nat.le_of_ble_eq_true rfl) (Nat.le_of_ble_eq_true rfl) (fun r9 J_150 hq9 => ?_)
          obtain ⟨z_150, rfl, hz_150, m_150, g_150, hz_150, x_150⟩ := hq9
          have q_150 := GR.tr q_119 g_150
          have d_150 := q_150.1
          have e_150 := g_150.1
          have u_150 : J_119 140 = J 140 := (q_119).2.2.2.2 140 rfl
          have k8_150 : J_119 8 t = J 8 t := ((q_119).2.2.2.1.1 t ht.1 ht.2).2.1
          refine tz_istore (pc := 153) (L2 := [_, _, _, _, _, _, _, _, _]) dX2_appliedPart_153 (by decide) rfl ?_
          refine tz_aload_n (pc := 155) dX2_appliedPart_155 rfl rfl ?_
          refine tz_fR (pc := 156) dX2_appliedPart_156 fl_X2_28 r_141_0 ?_
          refine tz_aload_n (pc := 159) dX2_appliedPart_159 rfl rfl ?_
          refine tz_fR (pc := 160) dX2_appliedPart_160 fl_X2_28 r_141_0 ?_
          refine tz_fR (pc := 163) dX2_appliedPart_163 fl_X2_42 r_6_1 ?_
          refine tz_iload_n (pc := 166) dX2_appliedPart_166 rfl rfl ?_
          refine tz_aL (pc := 167) (z := t) (v := (J_150 7 t)) dX2_appliedPart_167 a_7 rfl (by omega) rfl (fun r_167 => ?_)
          refine tz_iload (pc := 168) dX2_appliedPart_168 rfl ?_
          refine tz_iload (pc := 170) dX2_appliedPart_170 rfl ?_
          refine tz_iload (pc := 172) dX2_appliedPart_172 rfl ?_
          refine tz_cV (pc := 174) (c_made hl n _ _ _ _ _ (by omega) (by omega) (by omega) (by omega) m_150 (q_150).2.1 (q_150).2.2.1 (by have := (q_150).2.1.ar (t := t) (by omega) (by have := (q_150).1; omega); omega) (ltA_of (by omega) (by omega) (by omega))) vl_X2_52 dX2_appliedPart_174 o_6 rfl rfl (Nat.le_of_ble_eq_true rfl) ⟨(Nat.le_of_ble_eq_true rfl), (Nat.le_of_ble_eq_true rfl)⟩ rfl rfl (Nat.le_of_ble_eq_true rfl) (Nat.le_of_ble_eq_true rfl) (fun r9 J_174 hq9 => ?_)
          obtain ⟨z_174, rfl, hz_174, p_9⟩ := hq9
          obtain ⟨m9, g9, h9⟩ := GR.made p_9 (by omega)
          have q9 := GR.tr q_150 g9
          exact tz_iret (pc := 177) (z := z_174) dX2_appliedPart_177 rfl (Nat.le_of_ble_eq_true rfl) (Nat.le_of_ble_eq_true rfl) ⟨Nat.le_refl _, Nat.le_add_right _ _⟩ ⟨_, rfl, (by omega), ⟨m9, q9, h9, fun S β hβ hG E => ap_c hG E hm ht (by omega) (ap_end (fun S t h => apO_f h) hG E C hm ht (Or.inl ⟨by omega, g_88, hz_88, fun S9 h9 E9 => x_88 S9 β (fun v a c => by rw [u_88]; exact hβ v a c) h9 E9⟩) (Or.inl ⟨by omega, g_119, hz_119, fun S9 h9 E9 => x_119 S9 β (fun v a c => by rw [u_119]; exact hβ v a c) h9 E9⟩) (Or.inl ⟨by omega, g_150, hz_150, fun S9 h9 E9 => x_150 S9 β (fun v a c => by rw [u_150]; exact hβ v a c) h9 E9⟩) (by rw [show J 7 t = J_150 7 t from (((q_150).2.2.2.1.1 t ht.1 ht.2).1).symm]; exact p_9))⟩⟩
        · refine tz_iconst (pc := 130) dX2_appliedPart_130 ?_
          refine tz_goto (pc := 131) (tgt := 153) dX2_appliedPart_131 (by decide) ?_
          refine tz_istore (pc := 153) (L2 := [_, _, _, _, _, _, _, _, _]) dX2_appliedPart_153 (by decide) rfl ?_
          refine tz_aload_n (pc := 155) dX2_appliedPart_155 rfl rfl ?_
          refine tz_fR (pc := 156) dX2_appliedPart_156 fl_X2_28 r_141_0 ?_
          refine tz_aload_n (pc := 159) dX2_appliedPart_159 rfl rfl ?_
          refine tz_fR (pc := 160) dX2_appliedPart_160 fl_X2_28 r_141_0 ?_
          refine tz_fR (pc := 163) dX2_appliedPart_163 fl_X2_42 r_6_1 ?_
          refine tz_iload_n (pc := 166) dX2_appliedPart_166 rfl rfl ?_
          refine tz_aL (pc := 167) (z := t) (v := (J_119 7 t)) dX2_appliedPart_167 a_7 rfl (by omega) rfl (fun r_167 => ?_)
          refine tz_iload (pc := 168) dX2_appliedPart_168 rfl ?_
          refine tz_iload (pc := 170) dX2_appliedPart_170 rfl ?_
          refine tz_iload (pc := 172) dX2_appliedPart_172 rfl ?_
          refine tz_cV (pc := 174) (c_made hl n _ _ _ _ _ (by omega) (by omega) (by omega) (by omega) m_119 (q_119).2.1 (q_119).2.2.1 (by have := (q_119).2.1.ar (t := t) (by omega) (by have := (q_119).1; omega); omega) (ltA_of (by omega) (by omega) (by omega))) vl_X2_52 dX2_appliedPart_174 o_6 rfl rfl (Nat.le_of_ble_eq_true rfl) ⟨(Nat.le_of_ble_eq_true rfl), (Nat.le_of_ble_eq_true rfl)⟩ rfl rfl (Nat.le_of_ble_eq_true rfl) (Nat.le_of_ble_eq_true rfl) (fun r9 J_174 hq9 => ?_)
          obtain ⟨z_174, rfl, hz_174, p_9⟩ := hq9
          obtain ⟨m9, g9, h9⟩ := GR.made p_9 (by omega)
          have q9 := GR.tr q_119 g9
          exact tz_iret (pc := 177) (z := z_174) dX2_appliedPart_177 rfl (Nat.le_of_ble_eq_true rfl) (Nat.le_of_ble_eq_true rfl) ⟨Nat.le_refl _, Nat.le_add_right _ _⟩ ⟨_, rfl, (by omega), ⟨m9, q9, h9, fun S β hβ hG E => ap_c hG E hm ht (by omega) (ap_end (fun S t h => apO_f h) hG E C hm ht (Or.inl ⟨by omega, g_88, hz_88, fun S9 h9 E9 => x_88 S9 β (fun v a c => by rw [u_88]; exact hβ v a c) h9 E9⟩) (Or.inl ⟨by omega, g_119, hz_119, fun S9 h9 E9 => x_119 S9 β (fun v a c => by rw [u_119]; exact hβ v a c) h9 E9⟩) (Or.inr ⟨by rw [show J_119 8 t = J 8 t from ((q_119).2.2.2.1.1 t ht.1 ht.2).2.1]; omega, rfl, rfl⟩) (by rw [show J 7 t = J_119 7 t from (((q_119).2.2.2.1.1 t ht.1 ht.2).1).symm]; exact p_9))⟩⟩
      · refine tz_iconst (pc := 99) dX2_appliedPart_99 ?_
        refine tz_goto (pc := 100) (tgt := 122) dX2_appliedPart_100 (by decide) ?_
        refine tz_istore (pc := 122) (L2 := [_, _, _, _, _, _, _, _, _]) dX2_appliedPart_122 (by decide) rfl ?_
        refine tz_iload (pc := 124) dX2_appliedPart_124 rfl ?_
        refine tz_iconst (pc := 126) dX2_appliedPart_126 ?_
        refine tz_icmp_ge (pc := 127) (tgt := 134) dX2_appliedPart_127 (by decide) (by omega) (by decide) (fun h_127 => ?_) (fun h_127 => ?_)
        · refine tz_aload_n (pc := 134) dX2_appliedPart_134 rfl rfl ?_
          refine tz_aload_n (pc := 135) dX2_appliedPart_135 rfl rfl ?_
          refine tz_fR (pc := 136) dX2_appliedPart_136 fl_X2_28 r_141_0 ?_
          refine tz_iload_n (pc := 139) dX2_appliedPart_139 rfl rfl ?_
          refine tz_iconst (pc := 140) dX2_appliedPart_140 ?_
          refine tz_cV (pc := 141) (c_arg hl n _ _ _ (by omega) (by decide) (by omega)) vl_X2_48 dX2_appliedPart_141 o_6 rfl rfl (Nat.le_of_ble_eq_true rfl) ⟨(Nat.le_of_ble_eq_true rfl), (Nat.le_of_ble_eq_true rfl)⟩ rfl rfl (Nat.le_of_ble_eq_true rfl) (Nat.le_of_ble_eq_true rfl) (fun r9 J_141 hq9 => ?_)
          obtain ⟨z_141, rfl, hz_141, rfl, rfl⟩ := hq9
          refine tz_aload_n (pc := 144) dX2_appliedPart_144 rfl rfl ?_
          refine tz_iload_n (pc := 145) dX2_appliedPart_145 rfl rfl ?_
          refine tz_iload (pc := 146) dX2_appliedPart_146 rfl ?_
          refine tz_iconst (pc := 148) dX2_appliedPart_148 ?_
          refine tz_iadd (pc := 149) (v := 5) dX2_appliedPart_149 (by decide) ?_
          have b_150 := GR.arg q_88 C ht (i := 2) (by omega)
          have c_150 := (q_88).1
          refine tz_cV (pc := 150) (x_app140_5 hl n _ _ (by omega) m_88 (q_88).2.1 (q_88).2.2.1 (by omega) (GR.row q_88 rfl hr)) vl_X2_32 dX2_appliedPart_150 o_141 rfl rfl (Nat.le_of_ble_eq_true rfl) ⟨(Nat.le_of_ble_eq_true rfl), (Nat.le_of_ble_eq_true rfl)⟩ rfl rfl (Nat.le_of_ble_eq_true rfl) (Nat.le_of_ble_eq_true rfl) (fun r9 J_150 hq9 => ?_)
          obtain ⟨z_150, rfl, hz_150, m_150, g_150, hz_150, x_150⟩ := hq9
          have q_150 := GR.tr q_88 g_150
          have d_150 := q_150.1
          have e_150 := g_150.1
          have u_150 : J_88 140 = J 140 := (q_88).2.2.2.2 140 rfl
          have k8_150 : J_88 8 t = J 8 t := ((q_88).2.2.2.1.1 t ht.1 ht.2).2.1
          refine tz_istore (pc := 153) (L2 := [_, _, _, _, _, _, _, _, _]) dX2_appliedPart_153 (by decide) rfl ?_
          refine tz_aload_n (pc := 155) dX2_appliedPart_155 rfl rfl ?_
          refine tz_fR (pc := 156) dX2_appliedPart_156 fl_X2_28 r_141_0 ?_
          refine tz_aload_n (pc := 159) dX2_appliedPart_159 rfl rfl ?_
          refine tz_fR (pc := 160) dX2_appliedPart_160 fl_X2_28 r_141_0 ?_
          refine tz_fR (pc := 163) dX2_appliedPart_163 fl_X2_42 r_6_1 ?_
          refine tz_iload_n (pc := 166) dX2_appliedPart_166 rfl rfl ?_
          refine tz_aL (pc := 167) (z := t) (v := (J_150 7 t)) dX2_appliedPart_167 a_7 rfl (by omega) rfl (fun r_167 => ?_)
          refine tz_iload (pc := 168) dX2_appliedPart_168 rfl ?_
          refine tz_iload (pc := 170) dX2_appliedPart_170 rfl ?_
          refine tz_iload (pc := 172) dX2_appliedPart_172 rfl ?_
          refine tz_cV (pc := 174) (c_made hl n _ _ _ _ _ (by omega) (by omega) (by omega) (by omega) m_150 (q_150).2.1 (q_150).2.2.1 (by have := (q_150).2.1.ar (t := t) (by omega) (by have := (q_150).1; omega); omega) (ltA_of (by omega) (by omega) (by omega))) vl_X2_52 dX2_appliedPart_174 o_6 rfl rfl (Nat.le_of_ble_eq_true rfl) ⟨(Nat.le_of_ble_eq_true rfl), (Nat.le_of_ble_eq_true rfl)⟩ rfl rfl (Nat.le_of_ble_eq_true rfl) (Nat.le_of_ble_eq_true rfl) (fun r9 J_174 hq9 => ?_)
          obtain ⟨z_174, rfl, hz_174, p_9⟩ := hq9
          obtain ⟨m9, g9, h9⟩ := GR.made p_9 (by omega)
          have q9 := GR.tr q_150 g9
          exact tz_iret (pc := 177) (z := z_174) dX2_appliedPart_177 rfl (Nat.le_of_ble_eq_true rfl) (Nat.le_of_ble_eq_true rfl) ⟨Nat.le_refl _, Nat.le_add_right _ _⟩ ⟨_, rfl, (by omega), ⟨m9, q9, h9, fun S β hβ hG E => ap_c hG E hm ht (by omega) (ap_end (fun S t h => apO_f h) hG E C hm ht (Or.inl ⟨by omega, g_88, hz_88, fun S9 h9 E9 => x_88 S9 β (fun v a c => by rw [u_88]; exact hβ v a c) h9 E9⟩) (Or.inr ⟨by rw [show J_88 8 t = J 8 t from ((q_88).2.2.2.1.1 t ht.1 ht.2).2.1]; omega, rfl, rfl⟩) (Or.inl ⟨by omega, g_150, hz_150, fun S9 h9 E9 => x_150 S9 β (fun v a c => by rw [u_150]; exact hβ v a c) h9 E9⟩) (by rw [show J 7 t = J_150 7 t from (((q_150).2.2.2.1.1 t ht.1 ht.2).1).symm]; exact p_9))⟩⟩
        · refine tz_iconst (pc := 130) dX2_appliedPart_130 ?_
          refine tz_goto (pc := 131) (tgt := 153) dX2_appliedPart_131 (by decide) ?_
          refine tz_istore (pc := 153) (L2 := [_, _, _, _, _, _, _, _, _]) dX2_appliedPart_153 (by decide) rfl ?_
          refine tz_aload_n (pc := 155) dX2_appliedPart_155 rfl rfl ?_
          refine tz_fR (pc := 156) dX2_appliedPart_156 fl_X2_28 r_141_0 ?_
          refine tz_aload_n (pc := 159) dX2_appliedPart_159 rfl rfl ?_
          refine tz_fR (pc := 160) dX2_appliedPart_160 fl_X2_28 r_141_0 ?_
          refine tz_fR (pc := 163) dX2_appliedPart_163 fl_X2_42 r_6_1 ?_
          refine tz_iload_n (pc := 166) dX2_appliedPart_166 rfl rfl ?_
          refine tz_aL (pc := 167) (z := t) (v := (J_88 7 t)) dX2_appliedPart_167 a_7 rfl (by omega) rfl (fun r_167 => ?_)
          refine tz_iload (pc := 168) dX2_appliedPart_168 rfl ?_
          refine tz_iload (pc := 170) dX2_appliedPart_170 rfl ?_
          refine tz_iload (pc := 172) dX2_appliedPart_172 rfl ?_
          refine tz_cV (pc := 174) (c_made hl n _ _ _ _ _ (by omega) (by omega) (by omega) (by omega) m_88 (q_88).2.1 (q_88).2.2.1 (by have := (q_88).2.1.ar (t := t) (by omega) (by have := (q_88).1; omega); omega) (ltA_of (by omega) (by omega) (by omega))) vl_X2_52 dX2_appliedPart_174 o_6 rfl rfl (Nat.le_of_ble_eq_true rfl) ⟨(Nat.le_of_ble_eq_true rfl), (Nat.le_of_ble_eq_true rfl)⟩ rfl rfl (Nat.le_of_ble_eq_true rfl) (Nat.le_of_ble_eq_true rfl) (fun r9 J_174 hq9 => ?_)
          obtain ⟨z_174, rfl, hz_174, p_9⟩ := hq9
          obtain ⟨m9, g9, h9⟩ := GR.made p_9 (by omega)
          have q9 := GR.tr q_88 g9
          exact tz_iret (pc := 177) (z := z_174) dX2_appliedPart_177 rfl (Nat.le_of_ble_eq_true rfl) (Nat.le_of_ble_eq_true rfl) ⟨Nat.le_refl _, Nat.le_add_right _ _⟩ ⟨_, rfl, (by omega), ⟨m9, q9, h9, fun S β hβ hG E => ap_c hG E hm ht (by omega) (ap_end (fun S t h => apO_f h) hG E C hm ht (Or.inl ⟨by omega, g_88, hz_88, fun S9 h9 E9 => x_88 S9 β (fun v a c => by rw [u_88]; exact hβ v a c) h9 E9⟩) (Or.inr ⟨by rw [show J_88 8 t = J 8 t from ((q_88).2.2.2.1.1 t ht.1 ht.2).2.1]; omega, rfl, rfl⟩) (Or.inr ⟨by rw [show J_88 8 t = J 8 t from ((q_88).2.2.2.1.1 t ht.1 ht.2).2.1]; omega, rfl, rfl⟩) (by rw [show J 7 t = J_88 7 t from (((q_88).2.2.2.1.1 t ht.1 ht.2).1).symm]; exact p_9))⟩⟩
    · refine tz_iconst (pc := 68) dX2_appliedPart_68 ?_
      refine tz_goto (pc := 69) (tgt := 91) dX2_appliedPart_69 (by decide) ?_
      refine tz_istore (pc := 91) (L2 := [_, _, _, _, _, _, _, _, _]) dX2_appliedPart_91 (by decide) rfl ?_
      refine tz_iload (pc := 93) dX2_appliedPart_93 rfl ?_
      refine tz_iconst (pc := 95) dX2_appliedPart_95 ?_
      refine tz_icmp_ge (pc := 96) (tgt := 103) dX2_appliedPart_96 (by decide) (by omega) (by decide) (fun h_96 => ?_) (fun h_96 => ?_)
      · refine tz_aload_n (pc := 103) dX2_appliedPart_103 rfl rfl ?_
        refine tz_aload_n (pc := 104) dX2_appliedPart_104 rfl rfl ?_
        refine tz_fR (pc := 105) dX2_appliedPart_105 fl_X2_28 r_141_0 ?_
        refine tz_iload_n (pc := 108) dX2_appliedPart_108 rfl rfl ?_
        refine tz_iconst (pc := 109) dX2_appliedPart_109 ?_
        refine tz_cV (pc := 110) (c_arg hl n _ _ _ (by omega) (by decide) (by omega)) vl_X2_48 dX2_appliedPart_110 o_6 rfl rfl (Nat.le_of_ble_eq_true rfl) ⟨(Nat.le_of_ble_eq_true rfl), (Nat.le_of_ble_eq_true rfl)⟩ rfl rfl (Nat.le_of_ble_eq_true rfl) (Nat.le_of_ble_eq_true rfl) (fun r9 J_110 hq9 => ?_)
        obtain ⟨z_110, rfl, hz_110, rfl, rfl⟩ := hq9
        refine tz_aload_n (pc := 113) dX2_appliedPart_113 rfl rfl ?_
        refine tz_iload_n (pc := 114) dX2_appliedPart_114 rfl rfl ?_
        refine tz_iload (pc := 115) dX2_appliedPart_115 rfl ?_
        refine tz_iconst (pc := 117) dX2_appliedPart_117 ?_
        refine tz_iadd (pc := 118) (v := 5) dX2_appliedPart_118 (by decide) ?_
        have b_119 := GR.arg (GR.rf C hm) C ht (i := 1) (by omega)
        have c_119 := ((GR.rf C hm)).1
        refine tz_cV (pc := 119) (x_app140_5 hl n _ _ (by omega) m ((GR.rf C hm)).2.1 ((GR.rf C hm)).2.2.1 (by omega) (GR.row (GR.rf C hm) rfl hr)) vl_X2_32 dX2_appliedPart_119 o_141 rfl rfl (Nat.le_of_ble_eq_true rfl) ⟨(Nat.le_of_ble_eq_true rfl), (Nat.le_of_ble_eq_true rfl)⟩ rfl rfl (Nat.le_of_ble_eq_true rfl) (Nat.le_of_ble_eq_true rfl) (fun r9 J_119 hq9 => ?_)
        obtain ⟨z_119, rfl, hz_119, m_119, g_119, hz_119, x_119⟩ := hq9
        have q_119 := GR.tr (GR.rf C hm) g_119
        have d_119 := q_119.1
        have e_119 := g_119.1
        have u_119 : J 140 = J 140 := ((GR.rf C hm)).2.2.2.2 140 rfl
        have k8_119 : J 8 t = J 8 t := (((GR.rf C hm)).2.2.2.1.1 t ht.1 ht.2).2.1
        refine tz_istore (pc := 122) (L2 := [_, _, _, _, _, _, _, _, _]) dX2_appliedPart_122 (by decide) rfl ?_
        refine tz_iload (pc := 124) dX2_appliedPart_124 rfl ?_
        refine tz_iconst (pc := 126) dX2_appliedPart_126 ?_
        refine tz_icmp_ge (pc := 127) (tgt := 134) dX2_appliedPart_127 (by decide) (by omega) (by decide) (fun h_127 => ?_) (fun h_127 => ?_)
        · refine tz_aload_n (pc := 134) dX2_appliedPart_134 rfl rfl ?_
          refine tz_aload_n (pc := 135) dX2_appliedPart_135 rfl rfl ?_
          refine tz_fR (pc := 136) dX2_appliedPart_136 fl_X2_28 r_141_0 ?_
          refine tz_iload_n (pc := 139) dX2_appliedPart_139 rfl rfl ?_
          refine tz_iconst (pc := 140) dX2_appliedPart_140 ?_
          refine tz_cV (pc := 141) (c_arg hl n _ _ _ (by omega) (by decide) (by omega)) vl_X2_48 dX2_appliedPart_141 o_6 rfl rfl (Nat.le_of_ble_eq_true rfl) ⟨(Nat.le_of_ble_eq_true rfl), (Nat.le_of_ble_eq_true rfl)⟩ rfl rfl (Nat.le_of_ble_eq_true rfl) (Nat.le_of_ble_eq_true rfl) (fun r9 J_141 hq9 => ?_)
          obtain ⟨z_141, rfl, hz_141, rfl, rfl⟩ := hq9
          refine tz_aload_n (pc := 144) dX2_appliedPart_144 rfl rfl ?_
          refine tz_iload_n (pc := 145) dX2_appliedPart_145 rfl rfl ?_
          refine tz_iload (pc := 146) dX2_appliedPart_146 rfl ?_
          refine tz_iconst (pc := 148) dX2_appliedPart_148 ?_
          refine tz_iadd (pc := 149) (v := 5) dX2_appliedPart_149 (by decide) ?_
          have b_150 := GR.arg q_119 C ht (i := 2) (by omega)
          have c_150 := (q_119).1
          refine tz_cV (pc := 150) (x_app140_5 hl n _ _ (by omega) m_119 (q_119).2.1 (q_119).2.2.1 (by omega) (GR.row q_119 rfl hr)) vl_X2_32 dX2_appliedPart_150 o_141 rfl rfl (Nat.le_of_ble_eq_true rfl) ⟨(Nat.le_of_ble_eq_true rfl), (Nat.le_of_ble_eq_true rfl)⟩ rfl rfl (Nat.le_of_ble_eq_true rfl) (Nat.le_of_ble_eq_true rfl) (fun r9 J_150 hq9 => ?_)
          obtain ⟨z_150, rfl, hz_150, m_150, g_150, hz_150, x_150⟩ := hq9
          have q_150 := GR.tr q_119 g_150
          have d_150 := q_150.1
          have e_150 := g_150.1
          have u_150 : J_119 140 = J 140 := (q_119).2.2.2.2 140 rfl
          have k8_150 : J_119 8 t = J 8 t := ((q_119).2.2.2.1.1 t ht.1 ht.2).2.1
          refine tz_istore (pc := 153) (L2 := [_, _, _, _, _, _, _, _, _]) dX2_appliedPart_153 (by decide) rfl ?_
          refine tz_aload_n (pc := 155) dX2_appliedPart_155 rfl rfl ?_
          refine tz_fR (pc := 156) dX2_appliedPart_156 fl_X2_28 r_141_0 ?_
          refine tz_aload_n (pc := 159) dX2_appliedPart_159 rfl rfl ?_
          refine tz_fR (pc := 160) dX2_appliedPart_160 fl_X2_28 r_141_0 ?_
          refine tz_fR (pc := 163) dX2_appliedPart_163 fl_X2_42 r_6_1 ?_
          refine tz_iload_n (pc := 166) dX2_appliedPart_166 rfl rfl ?_
          refine tz_aL (pc := 167) (z := t) (v := (J_150 7 t)) dX2_appliedPart_167 a_7 rfl (by omega) rfl (fun r_167 => ?_)
          refine tz_iload (pc := 168) dX2_appliedPart_168 rfl ?_
          refine tz_iload (pc := 170) dX2_appliedPart_170 rfl ?_
          refine tz_iload (pc := 172) dX2_appliedPart_172 rfl ?_
          refine tz_cV (pc := 174) (c_made hl n _ _ _ _ _ (by omega) (by omega) (by omega) (by omega) m_150 (q_150).2.1 (q_150).2.2.1 (by have := (q_150).2.1.ar (t := t) (by omega) (by have := (q_150).1; omega); omega) (ltA_of (by omega) (by omega) (by omega))) vl_X2_52 dX2_appliedPart_174 o_6 rfl rfl (Nat.le_of_ble_eq_true rfl) ⟨(Nat.le_of_ble_eq_true rfl), (Nat.le_of_ble_eq_true rfl)⟩ rfl rfl (Nat.le_of_ble_eq_true rfl) (Nat.le_of_ble_eq_true rfl) (fun r9 J_174 hq9 => ?_)
          obtain ⟨z_174, rfl, hz_174, p_9⟩ := hq9
          obtain ⟨m9, g9, h9⟩ := GR.made p_9 (by omega)
          have q9 := GR.tr q_150 g9
          exact tz_iret (pc := 177) (z := z_174) dX2_appliedPart_177 rfl (Nat.le_of_ble_eq_true rfl) (Nat.le_of_ble_eq_true rfl) ⟨Nat.le_refl _, Nat.le_add_right _ _⟩ ⟨_, rfl, (by omega), ⟨m9, q9, h9, fun S β hβ hG E => ap_c hG E hm ht (by omega) (ap_end (fun S t h => apO_f h) hG E C hm ht (Or.inr ⟨by rw [show J 8 t = J 8 t from rfl]; omega, rfl, rfl⟩) (Or.inl ⟨by omega, g_119, hz_119, fun S9 h9 E9 => x_119 S9 β (fun v a c => by rw [u_119]; exact hβ v a c) h9 E9⟩) (Or.inl ⟨by omega, g_150, hz_150, fun S9 h9 E9 => x_150 S9 β (fun v a c => by rw [u_150]; exact hβ v a c) h9 E9⟩) (by rw [show J 7 t = J_150 7 t from (((q_150).2.2.2.1.1 t ht.1 ht.2).1).symm]; exact p_9))⟩⟩
        · refine tz_iconst (pc := 130) dX2_appliedPart_130 ?_
          refine tz_goto (pc := 131) (tgt := 153) dX2_appliedPart_131 (by decide) ?_
          refine tz_istore (pc := 153) (L2 := [_, _, _, _, _, _, _, _, _]) dX2_appliedPart_153 (by decide) rfl ?_
          refine tz_aload_n (pc := 155) dX2_appliedPart_155 rfl rfl ?_
          refine tz_fR (pc := 156) dX2_appliedPart_156 fl_X2_28 r_141_0 ?_
          refine tz_aload_n (pc := 159) dX2_appliedPart_159 rfl rfl ?_
          refine tz_fR (pc := 160) dX2_appliedPart_160 fl_X2_28 r_141_0 ?_
          refine tz_fR (pc := 163) dX2_appliedPart_163 fl_X2_42 r_6_1 ?_
          refine tz_iload_n (pc := 166) dX2_appliedPart_166 rfl rfl ?_
          refine tz_aL (pc := 167) (z := t) (v := (J_119 7 t)) dX2_appliedPart_167 a_7 rfl (by omega) rfl (fun r_167 => ?_)
          refine tz_iload (pc := 168) dX2_appliedPart_168 rfl ?_
          refine tz_iload (pc := 170) dX2_appliedPart_170 rfl ?_
          refine tz_iload (pc := 172) dX2_appliedPart_172 rfl ?_
          refine tz_cV (pc := 174) (c_made hl n _ _ _ _ _ (by omega) (by omega) (by omega) (by omega) m_119 (q_119).2.1 (q_119).2.2.1 (by have := (q_119).2.1.ar (t := t) (by omega) (by have := (q_119).1; omega); omega) (ltA_of (by omega) (by omega) (by omega))) vl_X2_52 dX2_appliedPart_174 o_6 rfl rfl (Nat.le_of_ble_eq_true rfl) ⟨(Nat.le_of_ble_eq_true rfl), (Nat.le_of_ble_eq_true rfl)⟩ rfl rfl (Nat.le_of_ble_eq_true rfl) (Nat.le_of_ble_eq_true rfl) (fun r9 J_174 hq9 => ?_)
          obtain ⟨z_174, rfl, hz_174, p_9⟩ := hq9
          obtain ⟨m9, g9, h9⟩ := GR.made p_9 (by omega)
          have q9 := GR.tr q_119 g9
          exact tz_iret (pc := 177) (z := z_174) dX2_appliedPart_177 rfl (Nat.le_of_ble_eq_true rfl) (Nat.le_of_ble_eq_true rfl) ⟨Nat.le_refl _, Nat.le_add_right _ _⟩ ⟨_, rfl, (by omega), ⟨m9, q9, h9, fun S β hβ hG E => ap_c hG E hm ht (by omega) (ap_end (fun S t h => apO_f h) hG E C hm ht (Or.inr ⟨by rw [show J 8 t = J 8 t from rfl]; omega, rfl, rfl⟩) (Or.inl ⟨by omega, g_119, hz_119, fun S9 h9 E9 => x_119 S9 β (fun v a c => by rw [u_119]; exact hβ v a c) h9 E9⟩) (Or.inr ⟨by rw [show J_119 8 t = J 8 t from ((q_119).2.2.2.1.1 t ht.1 ht.2).2.1]; omega, rfl, rfl⟩) (by rw [show J 7 t = J_119 7 t from (((q_119).2.2.2.1.1 t ht.1 ht.2).1).symm]; exact p_9))⟩⟩
      · refine tz_iconst (pc := 99) dX2_appliedPart_99 ?_
        refine tz_goto (pc := 100) (tgt := 122) dX2_appliedPart_100 (by decide) ?_
        refine tz_istore (pc := 122) (L2 := [_, _, _, _, _, _, _, _, _]) dX2_appliedPart_122 (by decide) rfl ?_
        refine tz_iload (pc := 124) dX2_appliedPart_124 rfl ?_
        refine tz_iconst (pc := 126) dX2_appliedPart_126 ?_
        refine tz_icmp_ge (pc := 127) (tgt := 134) dX2_appliedPart_127 (by decide) (by omega) (by decide) (fun h_127 => ?_) (fun h_127 => ?_)
        · refine tz_aload_n (pc := 134) dX2_appliedPart_134 rfl rfl ?_
          refine tz_aload_n (pc := 135) dX2_appliedPart_135 rfl rfl ?_
          refine tz_fR (pc := 136) dX2_appliedPart_136 fl_X2_28 r_141_0 ?_
          refine tz_iload_n (pc := 139) dX2_appliedPart_139 rfl rfl ?_
          refine tz_iconst (pc := 140) dX2_appliedPart_140 ?_
          refine tz_cV (pc := 141) (c_arg hl n _ _ _ (by omega) (by decide) (by omega)) vl_X2_48 dX2_appliedPart_141 o_6 rfl rfl (Nat.le_of_ble_eq_true rfl) ⟨(Nat.le_of_ble_eq_true rfl), (Nat.le_of_ble_eq_true rfl)⟩ rfl rfl (Nat.le_of_ble_eq_true rfl) (Nat.le_of_ble_eq_true rfl) (fun r9 J_141 hq9 => ?_)
          obtain ⟨z_141, rfl, hz_141, rfl, rfl⟩ := hq9
          refine tz_aload_n (pc := 144) dX2_appliedPart_144 rfl rfl ?_
          refine tz_iload_n (pc := 145) dX2_appliedPart_145 rfl rfl ?_
          refine tz_iload (pc := 146) dX2_appliedPart_146 rfl ?_
          refine tz_iconst (pc := 148) dX2_appliedPart_148 ?_
          refine tz_iadd (pc := 149) (v := 5) dX2_appliedPart_149 (by decide) ?_
          have b_150 := GR.arg (GR.rf C hm) C ht (i := 2) (by omega)
          have c_150 := ((GR.rf C hm)).1
          refine tz_cV (pc := 150) (x_app140_5 hl n _ _ (by omega) m ((GR.rf C hm)).2.1 ((GR.rf C hm)).2.2.1 (by omega) (GR.row (GR.rf C hm) rfl hr)) vl_X2_32 dX2_appliedPart_150 o_141 rfl rfl (Nat.le_of_ble_eq_true rfl) ⟨(Nat.le_of_ble_eq_true rfl), (Nat.le_of_ble_eq_true rfl)⟩ rfl rfl (Nat.le_of_ble_eq_true rfl) (Nat.le_of_ble_eq_true rfl) (fun r9 J_150 hq9 => ?_)
          obtain ⟨z_150, rfl, hz_150, m_150, g_150, hz_150, x_150⟩ := hq9
          have q_150 := GR.tr (GR.rf C hm) g_150
          have d_150 := q_150.1
          have e_150 := g_150.1
          have u_150 : J 140 = J 140 := ((GR.rf C hm)).2.2.2.2 140 rfl
          have k8_150 : J 8 t = J 8 t := (((GR.rf C hm)).2.2.2.1.1 t ht.1 ht.2).2.1
          refine tz_istore (pc := 153) (L2 := [_, _, _, _, _, _, _, _, _]) dX2_appliedPart_153 (by decide) rfl ?_
          refine tz_aload_n (pc := 155) dX2_appliedPart_155 rfl rfl ?_
          refine tz_fR (pc := 156) dX2_appliedPart_156 fl_X2_28 r_141_0 ?_
          refine tz_aload_n (pc := 159) dX2_appliedPart_159 rfl rfl ?_
          refine tz_fR (pc := 160) dX2_appliedPart_160 fl_X2_28 r_141_0 ?_
          refine tz_fR (pc := 163) dX2_appliedPart_163 fl_X2_42 r_6_1 ?_
          refine tz_iload_n (pc := 166) dX2_appliedPart_166 rfl rfl ?_
          refine tz_aL (pc := 167) (z := t) (v := (J_150 7 t)) dX2_appliedPart_167 a_7 rfl (by omega) rfl (fun r_167 => ?_)
          refine tz_iload (pc := 168) dX2_appliedPart_168 rfl ?_
          refine tz_iload (pc := 170) dX2_appliedPart_170 rfl ?_
          refine tz_iload (pc := 172) dX2_appliedPart_172 rfl ?_
          refine tz_cV (pc := 174) (c_made hl n _ _ _ _ _ (by omega) (by omega) (by omega) (by omega) m_150 (q_150).2.1 (q_150).2.2.1 (by have := (q_150).2.1.ar (t := t) (by omega) (by have := (q_150).1; omega); omega) (ltA_of (by omega) (by omega) (by omega))) vl_X2_52 dX2_appliedPart_174 o_6 rfl rfl (Nat.le_of_ble_eq_true rfl) ⟨(Nat.le_of_ble_eq_true rfl), (Nat.le_of_ble_eq_true rfl)⟩ rfl rfl (Nat.le_of_ble_eq_true rfl) (Nat.le_of_ble_eq_true rfl) (fun r9 J_174 hq9 => ?_)
          obtain ⟨z_174, rfl, hz_174, p_9⟩ := hq9
          obtain ⟨m9, g9, h9⟩ := GR.made p_9 (by omega)
          have q9 := GR.tr q_150 g9
          exact tz_iret (pc := 177) (z := z_174) dX2_appliedPart_177 rfl (Nat.le_of_ble_eq_true rfl) (Nat.le_of_ble_eq_true rfl) ⟨Nat.le_refl _, Nat.le_add_right _ _⟩ ⟨_, rfl, (by omega), ⟨m9, q9, h9, fun S β hβ hG E => ap_c hG E hm ht (by omega) (ap_end (fun S t h => apO_f h) hG E C hm ht (Or.inr ⟨by rw [show J 8 t = J 8 t from rfl]; omega, rfl, rfl⟩) (Or.inr ⟨by rw [show J 8 t = J 8 t from rfl]; omega, rfl, rfl⟩) (Or.inl ⟨by omega, g_150, hz_150, fun S9 h9 E9 => x_150 S9 β (fun v a c => by rw [u_150]; exact hβ v a c) h9 E9⟩) (by rw [show J 7 t = J_150 7 t from (((q_150).2.2.2.1.1 t ht.1 ht.2).1).symm]; exact p_9))⟩⟩
        · refine tz_iconst (pc := 130) dX2_appliedPart_130 ?_
          refine tz_goto (pc := 131) (tgt := 153) dX2_appliedPart_131 (by decide) ?_
          refine tz_istore (pc := 153) (L2 := [_, _, _, _, _, _, _, _, _]) dX2_appliedPart_153 (by decide) rfl ?_
          refine tz_aload_n (pc := 155) dX2_appliedPart_155 rfl rfl ?_
          refine tz_fR (pc := 156) dX2_appliedPart_156 fl_X2_28 r_141_0 ?_
          refine tz_aload_n (pc := 159) dX2_appliedPart_159 rfl rfl ?_
          refine tz_fR (pc := 160) dX2_appliedPart_160 fl_X2_28 r_141_0 ?_
          refine tz_fR (pc := 163) dX2_appliedPart_163 fl_X2_42 r_6_1 ?_
          refine tz_iload_n (pc := 166) dX2_appliedPart_166 rfl rfl ?_
          refine tz_aL (pc := 167) (z := t) (v := (J 7 t)) dX2_appliedPart_167 a_7 rfl (by omega) rfl (fun r_167 => ?_)
          refine tz_iload (pc := 168) dX2_appliedPart_168 rfl ?_
          refine tz_iload (pc := 170) dX2_appliedPart_170 rfl ?_
          refine tz_iload (pc := 172) dX2_appliedPart_172 rfl ?_
          refine tz_cV (pc := 174) (c_made hl n _ _ _ _ _ (by omega) (by omega) (by omega) (by omega) m ((GR.rf C hm)).2.1 ((GR.rf C hm)).2.2.1 (by have := ((GR.rf C hm)).2.1.ar (t := t) (by omega) (by have := ((GR.rf C hm)).1; omega); omega) (ltA_of (by omega) (by omega) (by omega))) vl_X2_52 dX2_appliedPart_174 o_6 rfl rfl (Nat.le_of_ble_eq_true rfl) ⟨(Nat.le_of_ble_eq_true rfl), (Nat.le_of_ble_eq_true rfl)⟩ rfl rfl (Nat.le_of_ble_eq_true rfl) (Nat.le_of_ble_eq_true rfl) (fun r9 J_174 hq9 => ?_)
          obtain ⟨z_174, rfl, hz_174, p_9⟩ := hq9
          obtain ⟨m9, g9, h9⟩ := GR.made p_9 (by omega)
          have q9 := GR.tr (GR.rf C hm) g9
          exact tz_iret (pc := 177) (z := z_174) dX2_appliedPart_177 rfl (Nat.le_of_ble_eq_true rfl) (Nat.le_of_ble_eq_true rfl) ⟨Nat.le_refl _, Nat.le_add_right _ _⟩ ⟨_, rfl, (by omega), ⟨m9, q9, h9, fun S β hβ hG E => ap_c hG E hm ht (by omega) (ap_end (fun S t h => apO_f h) hG E C hm ht (Or.inr ⟨by rw [show J 8 t = J 8 t from rfl]; omega, rfl, rfl⟩) (Or.inr ⟨by rw [show J 8 t = J 8 t from rfl]; omega, rfl, rfl⟩) (Or.inr ⟨by rw [show J 8 t = J 8 t from rfl]; omega, rfl, rfl⟩) (by rw [show J 7 t = J 7 t from rfl]; exact p_9))⟩⟩

set_option maxHeartbeats 4000000 in
set_option maxRecDepth 100000 in
theorem x_app140_3 {l : Launch} {G : tb_G} (hl : l.stackTraces = false) (n : Nat) (J : zJ) (t : Int) (hr_t : -2147483648 ≤ t ∧ t < 2147483648) (m : Int) (C : CT J m) (hm : J 6 12 = m) (ht : 0 ≤ t ∧ t < m) (hr : rOK J 140 0 m) : tz_Ok l G M_X2_appliedPart 6 0 0 [.ref 141, zi t, .ref 140, zi 0, zi 3] n J (zqi (fun z J' => ∃ m', GR J' J m m' ∧ (z = -3 ∨ (0 ≤ z ∧ z < m')) ∧ ∀ (S : zJ) (β : Int → Int), (∀ v, 0 ≤ v → v < 8 → β v = J 140 (0 + v)) → S 164 21 = 0 → A0 J S → EXO (apO β 4 S t) z J')) zN := by
  refine tz_Ok.of hl (by decide +kernel) rfl (tb_c1 rfl) (Nat.le_of_ble_eq_true rfl) ?_
  show tz_At l G M_X2_appliedPart (tb_rm 6 0 0) none (tb_ZM G 0 0 (zQ n 0 (zqi (fun z J' => ∃ m', GR J' J m m' ∧ (z = -3 ∨ (0 ≤ z ∧ z < m')) ∧ ∀ (S : zJ) (β : Int → Int), (∀ v, 0 ≤ v → v < 8 → β v = J 140 (0 + v)) → S 164 21 = 0 → A0 J S → EXO (apO β 4 S t) z J'))) (zX n 0 zN)) 0 0 n J 0 [some (.ref 141), some (zi t), some (.ref 140), some (zi 0), some (zi 3), none, none, none, none] []
  have hb := C.told
  have ha := C.ar ht.1 ht.2
  refine tz_iload (pc := 0) dX2_appliedPart_0 rfl ?_
  refine tz_bipush (pc := 2) dX2_appliedPart_2 (by decide) ?_
  refine tz_icmp_leT (pc := 4) (tgt := 10) (by decide) dX2_appliedPart_4 (by decide) (by decide) (by decide) ?_
  refine tz_aload_n (pc := 10) dX2_appliedPart_10 rfl rfl ?_
  refine tz_fR (pc := 11) dX2_appliedPart_11 fl_X2_28 r_141_0 ?_
  refine tz_iload_n (pc := 14) dX2_appliedPart_14 rfl rfl ?_
  refine tz_cV (pc := 15) (c_isVar hl n _ _ (by omega) (by omega)) vl_X2_36 dX2_appliedPart_15 o_6 rfl rfl (Nat.le_of_ble_eq_true rfl) ⟨(Nat.le_of_ble_eq_true rfl), (Nat.le_of_ble_eq_true rfl)⟩ rfl rfl (Nat.le_of_ble_eq_true rfl) (Nat.le_of_ble_eq_true rfl) (fun r9 J_15 hq9 => ?_)
  obtain ⟨z_15, rfl, hz_15, rfl, rfl⟩ := hq9
  by_cases hw_18 : J 7 t < 0
  · rw [show (if J 7 t < 0 then 1 else 0 : Int) = 1 from if_pos hw_18]
    refine tz_if_eqF (pc := 18) (tgt := 51) (by decide) dX2_appliedPart_18 (by decide) (by decide) ?_
    refine tz_aload_n (pc := 21) dX2_appliedPart_21 rfl rfl ?_
    refine tz_iload_n (pc := 22) dX2_appliedPart_22 rfl rfl ?_
    refine tz_aload_n (pc := 23) dX2_appliedPart_23 rfl rfl ?_
    refine tz_fR (pc := 24) dX2_appliedPart_24 fl_X2_28 r_141_0 ?_
    refine tz_fR (pc := 27) dX2_appliedPart_27 fl_X2_42 r_6_1 ?_
    refine tz_iload_n (pc := 30) dX2_appliedPart_30 rfl rfl ?_
    refine tz_aL (pc := 31) (z := t) (v := (J 7 t)) dX2_appliedPart_31 a_7 rfl (by omega) rfl (fun r_31 => ?_)
    refine tz_iconst (pc := 32) dX2_appliedPart_32 ?_
    refine tz_ixor (pc := 33) (v := -1 - J 7 t) dX2_appliedPart_33 (z_nn (by omega)) ?_
    refine tz_iadd (pc := 34) (v := 0 + (-1 - J 7 t)) dX2_appliedPart_34 rfl ?_
    have hv := hr (-1 - J 7 t) (by omega) (by omega)
    refine tz_aL (pc := 35) (z := (0 + (-1 - J 7 t))) (v := (J 140 (0 + (-1 - J 7 t)))) dX2_appliedPart_35 a_140 rfl (by omega) rfl (fun r_35 => ?_)
    refine tz_istore (pc := 36) (L2 := [_, _, _, _, _, _, _, _, _]) dX2_appliedPart_36 (by decide) rfl ?_
    refine tz_iload (pc := 38) dX2_appliedPart_38 rfl ?_
    refine tz_iconst (pc := 40) dX2_appliedPart_40 ?_
    refine tz_icmp_ne (pc := 41) (tgt := 48) dX2_appliedPart_41 (by decide) (by omega) (by decide) (fun h_41 => ?_) (fun h_41 => ?_)
    · refine tz_iload (pc := 48) dX2_appliedPart_48 rfl ?_
      exact tz_iret (pc := 50) (z := (J 140 (0 + (-1 - J 7 t)))) dX2_appliedPart_50 rfl (Nat.le_of_ble_eq_true rfl) (Nat.le_of_ble_eq_true rfl) ⟨Nat.le_refl _, Nat.le_add_right _ _⟩ ⟨_, rfl, (by omega), ⟨m, GR.rf C hm, Or.inr (by omega), fun S β hβ hG E => ap_v hG E hm ht (by omega) (by omega) (by have := hβ (-1 - J 7 t) (by omega) (by omega); rw [this]; omega)⟩⟩
    · refine tz_iload_n (pc := 44) dX2_appliedPart_44 rfl rfl ?_
      refine tz_goto (pc := 45) (tgt := 50) dX2_appliedPart_45 (by decide) ?_
      exact tz_iret (pc := 50) (z := t) dX2_appliedPart_50 rfl (Nat.le_of_ble_eq_true rfl) (Nat.le_of_ble_eq_true rfl) ⟨Nat.le_refl _, Nat.le_add_right _ _⟩ ⟨_, rfl, (by omega), ⟨m, GR.rf C hm, Or.inr (by omega), fun S β hβ hG E => ap_v hG E hm ht (by omega) (by omega) (by have := hβ (-1 - J 7 t) (by omega) (by omega); rw [this]; omega)⟩⟩
  · rw [show (if J 7 t < 0 then 1 else 0 : Int) = 0 from if_neg hw_18]
    refine tz_if_eqT (pc := 18) (tgt := 51) (by decide) dX2_appliedPart_18 (by decide) (by decide) ?_
    refine tz_aload_n (pc := 51) dX2_appliedPart_51 rfl rfl ?_
    refine tz_fR (pc := 52) dX2_appliedPart_52 fl_X2_28 r_141_0 ?_
    refine tz_fR (pc := 55) dX2_appliedPart_55 fl_X2_45 r_6_2 ?_
    refine tz_iload_n (pc := 58) dX2_appliedPart_58 rfl rfl ?_
    refine tz_aL (pc := 59) (z := t) (v := (J 8 t)) dX2_appliedPart_59 a_8 rfl (by omega) rfl (fun r_59 => ?_)
    refine tz_istore (pc := 60) (L2 := [_, _, _, _, _, _, _, _, _]) dX2_appliedPart_60 (by decide) rfl ?_
    refine tz_iload (pc := 62) dX2_appliedPart_62 rfl ?_
    refine tz_iconst (pc := 64) dX2_appliedPart_64 ?_
    refine tz_icmp_ge (pc := 65) (tgt := 72) dX2_appliedPart_65 (by decide) (by omega) (by decide) (fun h_65 => ?_) (fun h_65 => ?_)
    · refine tz_aload_n (pc := 72) dX2_appliedPart_72 rfl rfl ?_
      refine tz_aload_n (pc := 73) dX2_appliedPart_73 rfl rfl ?_
      refine tz_fR (pc := 74) dX2_appliedPart_74 fl_X2_28 r_141_0 ?_
      refine tz_iload_n (pc := 77) dX2_appliedPart_77 rfl rfl ?_
      refine tz_iconst (pc := 78) dX2_appliedPart_78 ?_
      refine tz_cV (pc := 79) (c_arg hl n _ _ _ (by omega) (by decide) (by omega)) vl_X2_48 dX2_appliedPart_79 o_6 rfl rfl (Nat.le_of_ble_eq_true rfl) ⟨(Nat.le_of_ble_eq_true rfl), (Nat.le_of_ble_eq_true rfl)⟩ rfl rfl (Nat.le_of_ble_eq_true rfl) (Nat.le_of_ble_eq_true rfl) (fun r9 J_79 hq9 => ?_)
      obtain ⟨z_79, rfl, hz_79, rfl, rfl⟩ := hq9
      refine tz_aload_n (pc := 82) dX2_appliedPart_82 rfl rfl ?_
      refine tz_iload_n (pc := 83) dX2_appliedPart_83 rfl rfl ?_
      refine tz_iload (pc := 84) dX2_appliedPart_84 rfl ?_
      refine tz_iconst (pc := 86) dX2_appliedPart_86 ?_
      refine tz_iadd (pc := 87) (v := 4) dX2_appliedPart_87 (by decide) ?_
      have b_88 := GR.arg (GR.rf C hm) C ht (i := 0) (by omega)
      have c_88 := ((GR.rf C hm)).1
      refine tz_cV (pc := 88) (x_app140_4 hl n _ _ (by omega) m ((GR.rf C hm)).2.1 ((GR.rf C hm)).2.2.1 (by omega) (GR.row (GR.rf C hm) rfl hr)) vl_X2_32 dX2_appliedPart_88 o_141 rfl rfl (Nat.le_of_ble_eq_true rfl) ⟨(Nat.le_of_ble_eq_true rfl), (Nat.le_of_ble_eq_true rfl)⟩ rfl rfl (Nat.le_of_ble_eq_true rfl) (Nat.le_of_ble_eq_true rfl) (fun r9 J_88 hq9 => ?_)
      obtain ⟨z_88, rfl, hz_88, m_88, g_88, hz_88, x_88⟩ := hq9
      have q_88 := GR.tr (GR.rf C hm) g_88
      have d_88 := q_88.1
      have e_88 := g_88.1
      have u_88 : J 140 = J 140 := ((GR.rf C hm)).2.2.2.2 140 rfl
      have k8_88 : J 8 t = J 8 t := (((GR.rf C hm)).2.2.2.1.1 t ht.1 ht.2).2.1
      refine tz_istore (pc := 91) (L2 := [_, _, _, _, _, _, _, _, _]) dX2_appliedPart_91 (by decide) rfl ?_
      refine tz_iload (pc := 93) dX2_appliedPart_93 rfl ?_
      refine tz_iconst (pc := 95) dX2_appliedPart_95 ?_
      refine tz_icmp_ge (pc := 96) (tgt := 103) dX2_appliedPart_96 (by decide) (by omega) (by decide) (fun h_96 => ?_) (fun h_96 => ?_)
      · refine tz_aload_n (pc := 103) dX2_appliedPart_103 rfl rfl ?_
        refine tz_aload_n (pc := 104) dX2_appliedPart_104 rfl rfl ?_
        refine tz_fR (pc := 105) dX2_appliedPart_105 fl_X2_28 r_141_0 ?_
        refine tz_iload_n (pc := 108) dX2_appliedPart_108 rfl rfl ?_
        refine tz_iconst (pc := 109) dX2_appliedPart_109 ?_
        refine tz_cV (pc := 110) (c_arg hl n _ _ _ (by omega) (by decide) (by omega)) vl_X2_48 dX2_appliedPart_110 o_6 rfl rfl (Nat.le_of_ble_eq_true rfl) ⟨(Nat.le_of_ble_eq_true rfl), (Nat.le_of_ble_eq_true rfl)⟩ rfl rfl (Nat.le_of_ble_eq_true rfl) (Nat.le_of_ble_eq_true rfl) (fun r9 J_110 hq9 => ?_)
        obtain ⟨z_110, rfl, hz_110, rfl, rfl⟩ := hq9
        refine tz_aload_n (pc := 113) dX2_appliedPart_113 rfl rfl ?_
        refine tz_iload_n (pc := 114) dX2_appliedPart_114 rfl rfl ?_
        refine tz_iload (pc := 115) dX2_appliedPart_115 rfl ?_
        refine tz_iconst (pc := 117) dX2_appliedPart_117 ?_
        refine tz_iadd (pc := 118) (v := 4) dX2_appliedPart_118 (by decide) ?_
        have b_119 := GR.arg q_88 C ht (i := 1) (by omega)
        have c_119 := (q_88).1
        refine tz_cV (pc := 119) (x_app140_4 hl n _ _ (by omega) m_88 (q_88).2.1 (q_88).2.2.1 (by omega) (GR.row q_88 rfl hr)) vl_X2_32 dX2_appliedPart_119 o_141 rfl rfl (Nat.le_of_ble_eq_true rfl) ⟨(Nat.le_of_ble_eq_true rfl), (Nat.le_of_ble_eq_true rfl)⟩ rfl rfl (Nat.le_of_ble_eq_true rfl) (Nat.le_of_ble_eq_true rfl) (fun r9 J_119 hq9 => ?_)
        obtain ⟨z_119, rfl, hz_119, m_119, g_119, hz_119, x_119⟩ := hq9
        have q_119 := GR.tr q_88 g_119
        have d_119 := q_119.1
        have e_119 := g_119.1
        have u_119 : J_88 140 = J 140 := (q_88).2.2.2.2 140 rfl
        have k8_119 : J_88 8 t = J 8 t := ((q_88).2.2.2.1.1 t ht.1 ht.2).2.1
        refine tz_istore (pc := 122) (L2 := [_, _, _, _, _, _, _, _, _]) dX2_appliedPart_122 (by decide) rfl ?_
        refine tz_iload (pc := 124) dX2_appliedPart_124 rfl ?_
        refine tz_iconst (pc := 126) dX2_appliedPart_126 ?_
        refine tz_icmp_ge (pc := 127) (tgt := 134) dX2_appliedPart_127 (by decide) (by omega) (by decide) (fun h_127 => ?_) (fun h_127 => ?_)
        · refine tz_aload_n (pc := 134) dX2_appliedPart_134 rfl rfl ?_
          refine tz_aload_n (pc := 135) dX2_appliedPart_135 rfl rfl ?_
          refine tz_fR (pc := 136) dX2_appliedPart_136 fl_X2_28 r_141_0 ?_
          refine tz_iload_n (pc := 139) dX2_appliedPart_139 rfl rfl ?_
          refine tz_iconst (pc := 140) dX2_appliedPart_140 ?_
          refine tz_cV (pc := 141) (c_arg hl n _ _ _ (by omega) (by decide) (by omega)) vl_X2_48 dX2_appliedPart_141 o_6 rfl rfl (Nat.le_of_ble_eq_true rfl) ⟨(Nat.le_of_ble_eq_true rfl), (Nat.le_of_ble_eq_true rfl)⟩ rfl rfl (Nat.le_of_ble_eq_true rfl) (Nat.le_of_ble_eq_true rfl) (fun r9 J_141 hq9 => ?_)
          obtain ⟨z_141, rfl, hz_141, rfl, rfl⟩ := hq9
          refine tz_aload_n (pc := 144) dX2_appliedPart_144 rfl rfl ?_
          refine tz_iload_n (pc := 145) dX2_appliedPart_145 rfl rfl ?_
          refine tz_iload (pc := 146) dX2_appliedPart_146 rfl ?_
          refine tz_iconst (pc := 148) dX2_appliedPart_148 ?_
          refine tz_iadd (pc := 149) (v := 4) dX2_appliedPart_149 (by decide) ?_
          have b_150 := GR.arg q_119 C ht (i := 2) (by omega)
          have c_150 := (q_119).1
          refine tz_cV (pc := 150) (x_app140_4 hl n _ _ (by omega) m_119 (q_119).2.1 (q_119).2.2.1 (by omega) (GR.row q_119 rfl hr)) vl_X2_32 dX2_appliedPart_150 o_141 rfl rfl (Nat.le_of_ble_eq_true rfl) ⟨(Nat.le_of_ble_eq_true rfl), (Nat.le_of_ble_eq_true rfl)⟩ rfl rfl (Nat.le_of_ble_eq_true rfl) (Nat.le_of_ble_eq_true rfl) (fun r9 J_150 hq9 => ?_)
          obtain ⟨z_150, rfl, hz_150, m_150, g_150, hz_150, x_150⟩ := hq9
          have q_150 := GR.tr q_119 g_150
          have d_150 := q_150.1
          have e_150 := g_150.1
          have u_150 : J_119 140 = J 140 := (q_119).2.2.2.2 140 rfl
          have k8_150 : J_119 8 t = J 8 t := ((q_119).2.2.2.1.1 t ht.1 ht.2).2.1
          refine tz_istore (pc := 153) (L2 := [_, _, _, _, _, _, _, _, _]) dX2_appliedPart_153 (by decide) rfl ?_
          refine tz_aload_n (pc := 155) dX2_appliedPart_155 rfl rfl ?_
          refine tz_fR (pc := 156) dX2_appliedPart_156 fl_X2_28 r_141_0 ?_
          refine tz_aload_n (pc := 159) dX2_appliedPart_159 rfl rfl ?_
          refine tz_fR (pc := 160) dX2_appliedPart_160 fl_X2_28 r_141_0 ?_
          refine tz_fR (pc := 163) dX2_appliedPart_163 fl_X2_42 r_6_1 ?_
          refine tz_iload_n (pc := 166) dX2_appliedPart_166 rfl rfl ?_
          refine tz_aL (pc := 167) (z := t) (v := (J_150 7 t)) dX2_appliedPart_167 a_7 rfl (by omega) rfl (fun r_167 => ?_)
          refine tz_iload (pc := 168) dX2_appliedPart_168 rfl ?_
          refine tz_iload (pc := 170) dX2_appliedPart_170 rfl ?_
          refine tz_iload (pc := 172) dX2_appliedPart_172 rfl ?_
          refine tz_cV (pc := 174) (c_made hl n _ _ _ _ _ (by omega) (by omega) (by omega) (by omega) m_150 (q_150).2.1 (q_150).2.2.1 (by have := (q_150).2.1.ar (t := t) (by omega) (by have := (q_150).1; omega); omega) (ltA_of (by omega) (by omega) (by omega))) vl_X2_52 dX2_appliedPart_174 o_6 rfl rfl (Nat.le_of_ble_eq_true rfl) ⟨(Nat.le_of_ble_eq_true rfl), (Nat.le_of_ble_eq_true rfl)⟩ rfl rfl (Nat.le_of_ble_eq_true rfl) (Nat.le_of_ble_eq_true rfl) (fun r9 J_174 hq9 => ?_)
          obtain ⟨z_174, rfl, hz_174, p_9⟩ := hq9
          obtain ⟨m9, g9, h9⟩ := GR.made p_9 (by omega)
          have q9 := GR.tr q_150 g9
          exact tz_iret (pc := 177) (z := z_174) dX2_appliedPart_177 rfl (Nat.le_of_ble_eq_true rfl) (Nat.le_of_ble_eq_true rfl) ⟨Nat.le_refl _, Nat.le_add_right _ _⟩ ⟨_, rfl, (by omega), ⟨m9, q9, h9, fun S β hβ hG E => ap_c hG E hm ht (by omega) (ap_end (fun S t h => apO_f h) hG E C hm ht (Or.inl ⟨by omega, g_88, hz_88, fun S9 h9 E9 => x_88 S9 β (fun v a c => by rw [u_88]; exact hβ v a c) h9 E9⟩) (Or.inl ⟨by omega, g_119, hz_119, fun S9 h9 E9 => x_119 S9 β (fun v a c => by rw [u_119]; exact hβ v a c) h9 E9⟩) (Or.inl ⟨by omega, g_150, hz_150, fun S9 h9 E9 => x_150 S9 β (fun v a c => by rw [u_150]; exact hβ v a c) h9 E9⟩) (by rw [show J 7 t = J_150 7 t from (((q_150).2.2.2.1.1 t ht.1 ht.2).1).symm]; exact p_9))⟩⟩
        · refine tz_iconst (pc := 130) dX2_appliedPart_130 ?_
          refine tz_goto (pc := 131) (tgt := 153) dX2_appliedPart_131 (by decide) ?_
          refine tz_istore (pc := 153) (L2 := [_, _, _, _, _, _, _, _, _]) dX2_appliedPart_153 (by decide) rfl ?_
          refine tz_aload_n (pc := 155) dX2_appliedPart_155 rfl rfl ?_
          refine tz_fR (pc := 156) dX2_appliedPart_156 fl_X2_28 r_141_0 ?_
          refine tz_aload_n (pc := 159) dX2_appliedPart_159 rfl rfl ?_
          refine tz_fR (pc := 160) dX2_appliedPart_160 fl_X2_28 r_141_0 ?_
          refine tz_fR (pc := 163) dX2_appliedPart_163 fl_X2_42 r_6_1 ?_
          refine tz_iload_n (pc := 166) dX2_appliedPart_166 rfl rfl ?_
          refine tz_aL (pc := 167) (z := t) (v := (J_119 7 t)) dX2_appliedPart_167 a_7 rfl (by omega) rfl (fun r_167 => ?_)
          refine tz_iload (pc := 168) dX2_appliedPart_168 rfl ?_
          refine tz_iload (pc := 170) dX2_appliedPart_170 rfl ?_
          refine tz_iload (pc := 172) dX2_appliedPart_172 rfl ?_
          refine tz_cV (pc := 174) (c_made hl n _ _ _ _ _ (by omega) (by omega) (by omega) (by omega) m_119 (q_119).2.1 (q_119).2.2.1 (by have := (q_119).2.1.ar (t := t) (by omega) (by have := (q_119).1; omega); omega) (ltA_of (by omega) (by omega) (by omega))) vl_X2_52 dX2_appliedPart_174 o_6 rfl rfl (Nat.le_of_ble_eq_true rfl) ⟨(Nat.le_of_ble_eq_true rfl), (Nat.le_of_ble_eq_true rfl)⟩ rfl rfl (Nat.le_of_ble_eq_true rfl) (Nat.le_of_ble_eq_true rfl) (fun r9 J_174 hq9 => ?_)
          obtain ⟨z_174, rfl, hz_174, p_9⟩ := hq9
          obtain ⟨m9, g9, h9⟩ := GR.made p_9 (by omega)
          have q9 := GR.tr q_119 g9
          exact tz_iret (pc := 177) (z := z_174) dX2_appliedPart_177 rfl (Nat.le_of_ble_eq_true rfl) (Nat.le_of_ble_eq_true rfl) ⟨Nat.le_refl _, Nat.le_add_right _ _⟩ ⟨_, rfl, (by omega), ⟨m9, q9, h9, fun S β hβ hG E => ap_c hG E hm ht (by omega) (ap_end (fun S t h => apO_f h) hG E C hm ht (Or.inl ⟨by omega, g_88, hz_88, fun S9 h9 E9 => x_88 S9 β (fun v a c => by rw [u_88]; exact hβ v a c) h9 E9⟩) (Or.inl ⟨by omega, g_119, hz_119, fun S9 h9 E9 => x_119 S9 β (fun v a c => by rw [u_119]; exact hβ v a c) h9 E9⟩) (Or.inr ⟨by rw [show J_119 8 t = J 8 t from ((q_119).2.2.2.1.1 t ht.1 ht.2).2.1]; omega, rfl, rfl⟩) (by rw [show J 7 t = J_119 7 t from (((q_119).2.2.2.1.1 t ht.1 ht.2).1).symm]; exact p_9))⟩⟩
      · refine tz_iconst (pc := 99) dX2_appliedPart_99 ?_
        refine tz_goto (pc := 100) (tgt := 122) dX2_appliedPart_100 (by decide) ?_
        refine tz_istore (pc := 122) (L2 := [_, _, _, _, _, _, _, _, _]) dX2_appliedPart_122 (by decide) rfl ?_
        refine tz_iload (pc := 124) dX2_appliedPart_124 rfl ?_
        refine tz_iconst (pc := 126) dX2_appliedPart_126 ?_
        refine tz_icmp_ge (pc := 127) (tgt := 134) dX2_appliedPart_127 (by decide) (by omega) (by decide) (fun h_127 => ?_) (fun h_127 => ?_)
        · refine tz_aload_n (pc := 134) dX2_appliedPart_134 rfl rfl ?_
          refine tz_aload_n (pc := 135) dX2_appliedPart_135 rfl rfl ?_
          refine tz_fR (pc := 136) dX2_appliedPart_136 fl_X2_28 r_141_0 ?_
          refine tz_iload_n (pc := 139) dX2_appliedPart_139 rfl rfl ?_
          refine tz_iconst (pc := 140) dX2_appliedPart_140 ?_
          refine tz_cV (pc := 141) (c_arg hl n _ _ _ (by omega) (by decide) (by omega)) vl_X2_48 dX2_appliedPart_141 o_6 rfl rfl (Nat.le_of_ble_eq_true rfl) ⟨(Nat.le_of_ble_eq_true rfl), (Nat.le_of_ble_eq_true rfl)⟩ rfl rfl (Nat.le_of_ble_eq_true rfl) (Nat.le_of_ble_eq_true rfl) (fun r9 J_141 hq9 => ?_)
          obtain ⟨z_141, rfl, hz_141, rfl, rfl⟩ := hq9
          refine tz_aload_n (pc := 144) dX2_appliedPart_144 rfl rfl ?_
          refine tz_iload_n (pc := 145) dX2_appliedPart_145 rfl rfl ?_
          refine tz_iload (pc := 146) dX2_appliedPart_146 rfl ?_
          refine tz_iconst (pc := 148) dX2_appliedPart_148 ?_
          refine tz_iadd (pc := 149) (v := 4) dX2_appliedPart_149 (by decide) ?_
          have b_150 := GR.arg q_88 C ht (i := 2) (by omega)
          have c_150 := (q_88).1
          refine tz_cV (pc := 150) (x_app140_4 hl n _ _ (by omega) m_88 (q_88).2.1 (q_88).2.2.1 (by omega) (GR.row q_88 rfl hr)) vl_X2_32 dX2_appliedPart_150 o_141 rfl rfl (Nat.le_of_ble_eq_true rfl) ⟨(Nat.le_of_ble_eq_true rfl), (Nat.le_of_ble_eq_true rfl)⟩ rfl rfl (Nat.le_of_ble_eq_true rfl) (Nat.le_of_ble_eq_true rfl) (fun r9 J_150 hq9 => ?_)
          obtain ⟨z_150, rfl, hz_150, m_150, g_150, hz_150, x_150⟩ := hq9
          have q_150 := GR.tr q_88 g_150
          have d_150 := q_150.1
          have e_150 := g_150.1
          have u_150 : J_88 140 = J 140 := (q_88).2.2.2.2 140 rfl
          have k8_150 : J_88 8 t = J 8 t := ((q_88).2.2.2.1.1 t ht.1 ht.2).2.1
          refine tz_istore (pc := 153) (L2 := [_, _, _, _, _, _, _, _, _]) dX2_appliedPart_153 (by decide) rfl ?_
          refine tz_aload_n (pc := 155) dX2_appliedPart_155 rfl rfl ?_
          refine tz_fR (pc := 156) dX2_appliedPart_156 fl_X2_28 r_141_0 ?_
          refine tz_aload_n (pc := 159) dX2_appliedPart_159 rfl rfl ?_
          refine tz_fR (pc := 160) dX2_appliedPart_160 fl_X2_28 r_141_0 ?_
          refine tz_fR (pc := 163) dX2_appliedPart_163 fl_X2_42 r_6_1 ?_
          refine tz_iload_n (pc := 166) dX2_appliedPart_166 rfl rfl ?_
          refine tz_aL (pc := 167) (z := t) (v := (J_150 7 t)) dX2_appliedPart_167 a_7 rfl (by omega) rfl (fun r_167 => ?_)
          refine tz_iload (pc := 168) dX2_appliedPart_168 rfl ?_
          refine tz_iload (pc := 170) dX2_appliedPart_170 rfl ?_
          refine tz_iload (pc := 172) dX2_appliedPart_172 rfl ?_
          refine tz_cV (pc := 174) (c_made hl n _ _ _ _ _ (by omega) (by omega) (by omega) (by omega) m_150 (q_150).2.1 (q_150).2.2.1 (by have := (q_150).2.1.ar (t := t) (by omega) (by have := (q_150).1; omega); omega) (ltA_of (by omega) (by omega) (by omega))) vl_X2_52 dX2_appliedPart_174 o_6 rfl rfl (Nat.le_of_ble_eq_true rfl) ⟨(Nat.le_of_ble_eq_true rfl), (Nat.le_of_ble_eq_true rfl)⟩ rfl rfl (Nat.le_of_ble_eq_true rfl) (Nat.le_of_ble_eq_true rfl) (fun r9 J_174 hq9 => ?_)
          obtain ⟨z_174, rfl, hz_174, p_9⟩ := hq9
          obtain ⟨m9, g9, h9⟩ := GR.made p_9 (by omega)
          have q9 := GR.tr q_150 g9
          exact tz_iret (pc := 177) (z := z_174) dX2_appliedPart_177 rfl (Nat.le_of_ble_eq_true rfl) (Nat.le_of_ble_eq_true rfl) ⟨Nat.le_refl _, Nat.le_add_right _ _⟩ ⟨_, rfl, (by omega), ⟨m9, q9, h9, fun S β hβ hG E => ap_c hG E hm ht (by omega) (ap_end (fun S t h => apO_f h) hG E C hm ht (Or.inl ⟨by omega, g_88, hz_88, fun S9 h9 E9 => x_88 S9 β (fun v a c => by rw [u_88]; exact hβ v a c) h9 E9⟩) (Or.inr ⟨by rw [show J_88 8 t = J 8 t from ((q_88).2.2.2.1.1 t ht.1 ht.2).2.1]; omega, rfl, rfl⟩) (Or.inl ⟨by omega, g_150, hz_150, fun S9 h9 E9 => x_150 S9 β (fun v a c => by rw [u_150]; exact hβ v a c) h9 E9⟩) (by rw [show J 7 t = J_150 7 t from (((q_150).2.2.2.1.1 t ht.1 ht.2).1).symm]; exact p_9))⟩⟩
        · refine tz_iconst (pc := 130) dX2_appliedPart_130 ?_
          refine tz_goto (pc := 131) (tgt := 153) dX2_appliedPart_131 (by decide) ?_
          refine tz_istore (pc := 153) (L2 := [_, _, _, _, _, _, _, _, _]) dX2_appliedPart_153 (by decide) rfl ?_
          refine tz_aload_n (pc := 155) dX2_appliedPart_155 rfl rfl ?_
          refine tz_fR (pc := 156) dX2_appliedPart_156 fl_X2_28 r_141_0 ?_
          refine tz_aload_n (pc := 159) dX2_appliedPart_159 rfl rfl ?_
          refine tz_fR (pc := 160) dX2_appliedPart_160 fl_X2_28 r_141_0 ?_
          refine tz_fR (pc := 163) dX2_appliedPart_163 fl_X2_42 r_6_1 ?_
          refine tz_iload_n (pc := 166) dX2_appliedPart_166 rfl rfl ?_
          refine tz_aL (pc := 167) (z := t) (v := (J_88 7 t)) dX2_appliedPart_167 a_7 rfl (by omega) rfl (fun r_167 => ?_)
          refine tz_iload (pc := 168) dX2_appliedPart_168 rfl ?_
          refine tz_iload (pc := 170) dX2_appliedPart_170 rfl ?_
          refine tz_iload (pc := 172) dX2_appliedPart_172 rfl ?_
          refine tz_cV (pc := 174) (c_made hl n _ _ _ _ _ (by omega) (by omega) (by omega) (by omega) m_88 (q_88).2.1 (q_88).2.2.1 (by have := (q_88).2.1.ar (t := t) (by omega) (by have := (q_88).1; omega); omega) (ltA_of (by omega) (by omega) (by omega))) vl_X2_52 dX2_appliedPart_174 o_6 rfl rfl (Nat.le_of_ble_eq_true rfl) ⟨(Nat.le_of_ble_eq_true rfl), (Nat.le_of_ble_eq_true rfl)⟩ rfl rfl (Nat.le_of_ble_eq_true rfl) (Nat.le_of_ble_eq_true rfl) (fun r9 J_174 hq9 => ?_)
          obtain ⟨z_174, rfl, hz_174, p_9⟩ := hq9
          obtain ⟨m9, g9, h9⟩ := GR.made p_9 (by omega)
          have q9 := GR.tr q_88 g9
          exact tz_iret (pc := 177) (z := z_174) dX2_appliedPart_177 rfl (Nat.le_of_ble_eq_true rfl) (Nat.le_of_ble_eq_true rfl) ⟨Nat.le_refl _, Nat.le_add_right _ _⟩ ⟨_, rfl, (by omega), ⟨m9, q9, h9, fun S β hβ hG E => ap_c hG E hm ht (by omega) (ap_end (fun S t h => apO_f h) hG E C hm ht (Or.inl ⟨by omega, g_88, hz_88, fun S9 h9 E9 => x_88 S9 β (fun v a c => by rw [u_88]; exact hβ v a c) h9 E9⟩) (Or.inr ⟨by rw [show J_88 8 t = J 8 t from ((q_88).2.2.2.1.1 t ht.1 ht.2).2.1]; omega, rfl, rfl⟩) (Or.inr ⟨by rw [show J_88 8 t = J 8 t from ((q_88).2.2.2.1.1 t ht.1 ht.2).2.1]; omega, rfl, rfl⟩) (by rw [show J 7 t = J_88 7 t from (((q_88).2.2.2.1.1 t ht.1 ht.2).1).symm]; exact p_9))⟩⟩
    · refine tz_iconst (pc := 68) dX2_appliedPart_68 ?_
      refine tz_goto (pc := 69) (tgt := 91) dX2_appliedPart_69 (by decide) ?_
      refine tz_istore (pc := 91) (L2 := [_, _, _, _, _, _, _, _, _]) dX2_appliedPart_91 (by decide) rfl ?_
      refine tz_iload (pc := 93) dX2_appliedPart_93 rfl ?_
      refine tz_iconst (pc := 95) dX2_appliedPart_95 ?_
      refine tz_icmp_ge (pc := 96) (tgt := 103) dX2_appliedPart_96 (by decide) (by omega) (by decide) (fun h_96 => ?_) (fun h_96 => ?_)
      · refine tz_aload_n (pc := 103) dX2_appliedPart_103 rfl rfl ?_
        refine tz_aload_n (pc := 104) dX2_appliedPart_104 rfl rfl ?_
        refine tz_fR (pc := 105) dX2_appliedPart_105 fl_X2_28 r_141_0 ?_
        refine tz_iload_n (pc := 108) dX2_appliedPart_108 rfl rfl ?_
        refine tz_iconst (pc := 109) dX2_appliedPart_109 ?_
        refine tz_cV (pc := 110) (c_arg hl n _ _ _ (by omega) (by decide) (by omega)) vl_X2_48 dX2_appliedPart_110 o_6 rfl rfl (Nat.le_of_ble_eq_true rfl) ⟨(Nat.le_of_ble_eq_true rfl), (Nat.le_of_ble_eq_true rfl)⟩ rfl rfl (Nat.le_of_ble_eq_true rfl) (Nat.le_of_ble_eq_true rfl) (fun r9 J_110 hq9 => ?_)
        obtain ⟨z_110, rfl, hz_110, rfl, rfl⟩ := hq9
        refine tz_aload_n (pc := 113) dX2_appliedPart_113 rfl rfl ?_
        refine tz_iload_n (pc := 114) dX2_appliedPart_114 rfl rfl ?_
        refine tz_iload (pc := 115) dX2_appliedPart_115 rfl ?_
        refine tz_iconst (pc := 117) dX2_appliedPart_117 ?_
        refine tz_iadd (pc := 118) (v := 4) dX2_appliedPart_118 (by decide) ?_
        have b_119 := GR.arg (GR.rf C hm) C ht (i := 1) (by omega)
        have c_119 := ((GR.rf C hm)).1
        refine tz_cV (pc := 119) (x_app140_4 hl n _ _ (by omega) m ((GR.rf C hm)).2.1 ((GR.rf C hm)).2.2.1 (by omega) (GR.row (GR.rf C hm) rfl hr)) vl_X2_32 dX2_appliedPart_119 o_141 rfl rfl (Nat.le_of_ble_eq_true rfl) ⟨(Nat.le_of_ble_eq_true rfl), (Nat.le_of_ble_eq_true rfl)⟩ rfl rfl (Nat.le_of_ble_eq_true rfl) (Nat.le_of_ble_eq_true rfl) (fun r9 J_119 hq9 => ?_)
        obtain ⟨z_119, rfl, hz_119, m_119, g_119, hz_119, x_119⟩ := hq9
        have q_119 := GR.tr (GR.rf C hm) g_119
        have d_119 := q_119.1
        have e_119 := g_119.1
        have u_119 : J 140 = J 140 := ((GR.rf C hm)).2.2.2.2 140 rfl
        have k8_119 : J 8 t = J 8 t := (((GR.rf C hm)).2.2.2.1.1 t ht.1 ht.2).2.1
        refine tz_istore (pc := 122) (L2 := [_, _, _, _, _, _, _, _, _]) dX2_appliedPart_122 (by decide) rfl ?_
        refine tz_iload (pc := 124) dX2_appliedPart_124 rfl ?_
        refine tz_iconst (pc := 126) dX2_appliedPart_126 ?_
        refine tz_icmp_ge (pc := 127) (tgt := 134) dX2_appliedPart_127 (by decide) (by omega) (by decide) (fun h_127 => ?_) (fun h_127 => ?_)
        · refine tz_aload_n (pc := 134) dX2_appliedPart_134 rfl rfl ?_
          refine tz_aload_n (pc := 135) dX2_appliedPart_135 rfl rfl ?_
          refine tz_fR (pc := 136) dX2_appliedPart_136 fl_X2_28 r_141_0 ?_
          refine tz_iload_n (pc := 139) dX2_appliedPart_139 rfl rfl ?_
          refine tz_iconst (pc := 140) dX2_appliedPart_140 ?_
          refine tz_cV (pc := 141) (c_arg hl n _ _ _ (by omega) (by decide) (by omega)) vl_X2_48 dX2_appliedPart_141 o_6 rfl rfl (Nat.le_of_ble_eq_true rfl) ⟨(Nat.le_of_ble_eq_true rfl), (Nat.le_of_ble_eq_true rfl)⟩ rfl rfl (Nat.le_of_ble_eq_true rfl) (Nat.le_of_ble_eq_true rfl) (fun r9 J_141 hq9 => ?_)
          obtain ⟨z_141, rfl, hz_141, rfl, rfl⟩ := hq9
          refine tz_aload_n (pc := 144) dX2_appliedPart_144 rfl rfl ?_
          refine tz_iload_n (pc := 145) dX2_appliedPart_145 rfl rfl ?_
          refine tz_iload (pc := 146) dX2_appliedPart_146 rfl ?_
          refine tz_iconst (pc := 148) dX2_appliedPart_148 ?_
          refine tz_iadd (pc := 149) (v := 4) dX2_appliedPart_149 (by decide) ?_
          have b_150 := GR.arg q_119 C ht (i := 2) (by omega)
          have c_150 := (q_119).1
          refine tz_cV (pc := 150) (x_app140_4 hl n _ _ (by omega) m_119 (q_119).2.1 (q_119).2.2.1 (by omega) (GR.row q_119 rfl hr)) vl_X2_32 dX2_appliedPart_150 o_141 rfl rfl (Nat.le_of_ble_eq_true rfl) ⟨(Nat.le_of_ble_eq_true rfl), (Nat.le_of_ble_eq_true rfl)⟩ rfl rfl (Nat.le_of_ble_eq_true rfl) (Nat.le_of_ble_eq_true rfl) (fun r9 J_150 hq9 => ?_)
          obtain ⟨z_150, rfl, hz_150, m_150, g_150, hz_150, x_150⟩ := hq9
          have q_150 := GR.tr q_119 g_150
          have d_150 := q_150.1
          have e_150 := g_150.1
          have u_150 : J_119 140 = J 140 := (q_119).2.2.2.2 140 rfl
          have k8_150 : J_119 8 t = J 8 t := ((q_119).2.2.2.1.1 t ht.1 ht.2).2.1
          refine tz_istore (pc := 153) (L2 := [_, _, _, _, _, _, _, _, _]) dX2_appliedPart_153 (by decide) rfl ?_
          refine tz_aload_n (pc := 155) dX2_appliedPart_155 rfl rfl ?_
          refine tz_fR (pc := 156) dX2_appliedPart_156 fl_X2_28 r_141_0 ?_
          refine tz_aload_n (pc := 159) dX2_appliedPart_159 rfl rfl ?_
          refine tz_fR (pc := 160) dX2_appliedPart_160 fl_X2_28 r_141_0 ?_
          refine tz_fR (pc := 163) dX2_appliedPart_163 fl_X2_42 r_6_1 ?_
          refine tz_iload_n (pc := 166) dX2_appliedPart_166 rfl rfl ?_
          refine tz_aL (pc := 167) (z := t) (v := (J_150 7 t)) dX2_appliedPart_167 a_7 rfl (by omega) rfl (fun r_167 => ?_)
          refine tz_iload (pc := 168) dX2_appliedPart_168 rfl ?_
          refine tz_iload (pc := 170) dX2_appliedPart_170 rfl ?_
          refine tz_iload (pc := 172) dX2_appliedPart_172 rfl ?_
          refine tz_cV (pc := 174) (c_made hl n _ _ _ _ _ (by omega) (by omega) (by omega) (by omega) m_150 (q_150).2.1 (q_150).2.2.1 (by have := (q_150).2.1.ar (t := t) (by omega) (by have := (q_150).1; omega); omega) (ltA_of (by omega) (by omega) (by omega))) vl_X2_52 dX2_appliedPart_174 o_6 rfl rfl (Nat.le_of_ble_eq_true rfl) ⟨(Nat.le_of_ble_eq_true rfl), (Nat.le_of_ble_eq_true rfl)⟩ rfl rfl (Nat.le_of_ble_eq_true rfl) (Nat.le_of_ble_eq_true rfl) (fun r9 J_174 hq9 => ?_)
          obtain ⟨z_174, rfl, hz_174, p_9⟩ := hq9
          obtain ⟨m9, g9, h9⟩ := GR.made p_9 (by omega)
          have q9 := GR.tr q_150 g9
          exact tz_iret (pc := 177) (z := z_174) dX2_appliedPart_177 rfl (Nat.le_of_ble_eq_true rfl) (Nat.le_of_ble_eq_true rfl) ⟨Nat.le_refl _, Nat.le_add_right _ _⟩ ⟨_, rfl, (by omega), ⟨m9, q9, h9, fun S β hβ hG E => ap_c hG E hm ht (by omega) (ap_end (fun S t h => apO_f h) hG E C hm ht (Or.inr ⟨by rw [show J 8 t = J 8 t from rfl]; omega, rfl, rfl⟩) (Or.inl ⟨by omega, g_119, hz_119, fun S9 h9 E9 => x_119 S9 β (fun v a c => by rw [u_119]; exact hβ v a c) h9 E9⟩) (Or.inl ⟨by omega, g_150, hz_150, fun S9 h9 E9 => x_150 S9 β (fun v a c => by rw [u_150]; exact hβ v a c) h9 E9⟩) (by rw [show J 7 t = J_150 7 t from (((q_150).2.2.2.1.1 t ht.1 ht.2).1).symm]; exact p_9))⟩⟩
        · refine tz_iconst (pc := 130) dX2_appliedPart_130 ?_
          refine tz_goto (pc := 131) (tgt := 153) dX2_appliedPart_131 (by decide) ?_
          refine tz_istore (pc := 153) (L2 := [_, _, _, _, _, _, _, _, _]) dX2_appliedPart_153 (by decide) rfl ?_
          refine tz_aload_n (pc := 155) dX2_appliedPart_155 rfl rfl ?_
          refine tz_fR (pc := 156) dX2_appliedPart_156 fl_X2_28 r_141_0 ?_
          refine tz_aload_n (pc := 159) dX2_appliedPart_159 rfl rfl ?_
          refine tz_fR (pc := 160) dX2_appliedPart_160 fl_X2_28 r_141_0 ?_
          refine tz_fR (pc := 163) dX2_appliedPart_163 fl_X2_42 r_6_1 ?_
          refine tz_iload_n (pc := 166) dX2_appliedPart_166 rfl rfl ?_
          refine tz_aL (pc := 167) (z := t) (v := (J_119 7 t)) dX2_appliedPart_167 a_7 rfl (by omega) rfl (fun r_167 => ?_)
          refine tz_iload (pc := 168) dX2_appliedPart_168 rfl ?_
          refine tz_iload (pc := 170) dX2_appliedPart_170 rfl ?_
          refine tz_iload (pc := 172) dX2_appliedPart_172 rfl ?_
          refine tz_cV (pc := 174) (c_made hl n _ _ _ _ _ (by omega) (by omega) (by omega) (by omega) m_119 (q_119).2.1 (q_119).2.2.1 (by have := (q_119).2.1.ar (t := t) (by omega) (by have := (q_119).1; omega); omega) (ltA_of (by omega) (by omega) (by omega))) vl_X2_52 dX2_appliedPart_174 o_6 rfl rfl (Nat.le_of_ble_eq_true rfl) ⟨(Nat.le_of_ble_eq_true rfl), (Nat.le_of_ble_eq_true rfl)⟩ rfl rfl (Nat.le_of_ble_eq_true rfl) (Nat.le_of_ble_eq_true rfl) (fun r9 J_174 hq9 => ?_)
          obtain ⟨z_174, rfl, hz_174, p_9⟩ := hq9
          obtain ⟨m9, g9, h9⟩ := GR.made p_9 (by omega)
          have q9 := GR.tr q_119 g9
          exact tz_iret (pc := 177) (z := z_174) dX2_appliedPart_177 rfl (Nat.le_of_ble_eq_true rfl) (Nat.le_of_ble_eq_true rfl) ⟨Nat.le_refl _, Nat.le_add_right _ _⟩ ⟨_, rfl, (by omega), ⟨m9, q9, h9, fun S β hβ hG E => ap_c hG E hm ht (by omega) (ap_end (fun S t h => apO_f h) hG E C hm ht (Or.inr ⟨by rw [show J 8 t = J 8 t from rfl]; omega, rfl, rfl⟩) (Or.inl ⟨by omega, g_119, hz_119, fun S9 h9 E9 => x_119 S9 β (fun v a c => by rw [u_119]; exact hβ v a c) h9 E9⟩) (Or.inr ⟨by rw [show J_119 8 t = J 8 t from ((q_119).2.2.2.1.1 t ht.1 ht.2).2.1]; omega, rfl, rfl⟩) (by rw [show J 7 t = J_119 7 t from (((q_119).2.2.2.1.1 t ht.1 ht.2).1).symm]; exact p_9))⟩⟩
      · refine tz_iconst (pc := 99) dX2_appliedPart_99 ?_
        refine tz_goto (pc := 100) (tgt := 122) dX2_appliedPart_100 (by decide) ?_
        refine tz_istore (pc := 122) (L2 := [_, _, _, _, _, _, _, _, _]) dX2_appliedPart_122 (by decide) rfl ?_
        refine tz_iload (pc := 124) dX2_appliedPart_124 rfl ?_
        refine tz_iconst (pc := 126) dX2_appliedPart_126 ?_
        refine tz_icmp_ge (pc := 127) (tgt := 134) dX2_appliedPart_127 (by decide) (by omega) (by decide) (fun h_127 => ?_) (fun h_127 => ?_)
        · refine tz_aload_n (pc := 134) dX2_appliedPart_134 rfl rfl ?_
          refine tz_aload_n (pc := 135) dX2_appliedPart_135 rfl rfl ?_
          refine tz_fR (pc := 136) dX2_appliedPart_136 fl_X2_28 r_141_0 ?_
          refine tz_iload_n (pc := 139) dX2_appliedPart_139 rfl rfl ?_
          refine tz_iconst (pc := 140) dX2_appliedPart_140 ?_
          refine tz_cV (pc := 141) (c_arg hl n _ _ _ (by omega) (by decide) (by omega)) vl_X2_48 dX2_appliedPart_141 o_6 rfl rfl (Nat.le_of_ble_eq_true rfl) ⟨(Nat.le_of_ble_eq_true rfl), (Nat.le_of_ble_eq_true rfl)⟩ rfl rfl (Nat.le_of_ble_eq_true rfl) (Nat.le_of_ble_eq_true rfl) (fun r9 J_141 hq9 => ?_)
          obtain ⟨z_141, rfl, hz_141, rfl, rfl⟩ := hq9
          refine tz_aload_n (pc := 144) dX2_appliedPart_144 rfl rfl ?_
          refine tz_iload_n (pc := 145) dX2_appliedPart_145 rfl rfl ?_
          refine tz_iload (pc := 146) dX2_appliedPart_146 rfl ?_
          refine tz_iconst (pc := 148) dX2_appliedPart_148 ?_
          refine tz_iadd (pc := 149) (v := 4) dX2_appliedPart_149 (by decide) ?_
          have b_150 := GR.arg (GR.rf C hm) C ht (i := 2) (by omega)
          have c_150 := ((GR.rf C hm)).1
          refine tz_cV (pc := 150) (x_app140_4 hl n _ _ (by omega) m ((GR.rf C hm)).2.1 ((GR.rf C hm)).2.2.1 (by omega) (GR.row (GR.rf C hm) rfl hr)) vl_X2_32 dX2_appliedPart_150 o_141 rfl rfl (Nat.le_of_ble_eq_true rfl) ⟨(Nat.le_of_ble_eq_true rfl), (Nat.le_of_ble_eq_true rfl)⟩ rfl rfl (Nat.le_of_ble_eq_true rfl) (Nat.le_of_ble_eq_true rfl) (fun r9 J_150 hq9 => ?_)
          obtain ⟨z_150, rfl, hz_150, m_150, g_150, hz_150, x_150⟩ := hq9
          have q_150 := GR.tr (GR.rf C hm) g_150
          have d_150 := q_150.1
          have e_150 := g_150.1
          have u_150 : J 140 = J 140 := ((GR.rf C hm)).2.2.2.2 140 rfl
          have k8_150 : J 8 t = J 8 t := (((GR.rf C hm)).2.2.2.1.1 t ht.1 ht.2).2.1
          refine tz_istore (pc := 153) (L2 := [_, _, _, _, _, _, _, _, _]) dX2_appliedPart_153 (by decide) rfl ?_
          refine tz_aload_n (pc := 155) dX2_appliedPart_155 rfl rfl ?_
          refine tz_fR (pc := 156) dX2_appliedPart_156 fl_X2_28 r_141_0 ?_
          refine tz_aload_n (pc := 159) dX2_appliedPart_159 rfl rfl ?_
          refine tz_fR (pc := 160) dX2_appliedPart_160 fl_X2_28 r_141_0 ?_
          refine tz_fR (pc := 163) dX2_appliedPart_163 fl_X2_42 r_6_1 ?_
          refine tz_iload_n (pc := 166) dX2_appliedPart_166 rfl rfl ?_
          refine tz_aL (pc := 167) (z := t) (v := (J_150 7 t)) dX2_appliedPart_167 a_7 rfl (by omega) rfl (fun r_167 => ?_)
          refine tz_iload (pc := 168) dX2_appliedPart_168 rfl ?_
          refine tz_iload (pc := 170) dX2_appliedPart_170 rfl ?_
          refine tz_iload (pc := 172) dX2_appliedPart_172 rfl ?_
          refine tz_cV (pc := 174) (c_made hl n _ _ _ _ _ (by omega) (by omega) (by omega) (by omega) m_150 (q_150).2.1 (q_150).2.2.1 (by have := (q_150).2.1.ar (t := t) (by omega) (by have := (q_150).1; omega); omega) (ltA_of (by omega) (by omega) (by omega))) vl_X2_52 dX2_appliedPart_174 o_6 rfl rfl (Nat.le_of_ble_eq_true rfl) ⟨(Nat.le_of_ble_eq_true rfl), (Nat.le_of_ble_eq_true rfl)⟩ rfl rfl (Nat.le_of_ble_eq_true rfl) (Nat.le_of_ble_eq_true rfl) (fun r9 J_174 hq9 => ?_)
          obtain ⟨z_174, rfl, hz_174, p_9⟩ := hq9
          obtain ⟨m9, g9, h9⟩ := GR.made p_9 (by omega)
          have q9 := GR.tr q_150 g9
          exact tz_iret (pc := 177) (z := z_174) dX2_appliedPart_177 rfl (Nat.le_of_ble_eq_true rfl) (Nat.le_of_ble_eq_true rfl) ⟨Nat.le_refl _, Nat.le_add_right _ _⟩ ⟨_, rfl, (by omega), ⟨m9, q9, h9, fun S β hβ hG E => ap_c hG E hm ht (by omega) (ap_end (fun S t h => apO_f h) hG E C hm ht (Or.inr ⟨by rw [show J 8 t = J 8 t from rfl]; omega, rfl, rfl⟩) (Or.inr ⟨by rw [show J 8 t = J 8 t from rfl]; omega, rfl, rfl⟩) (Or.inl ⟨by omega, g_150, hz_150, fun S9 h9 E9 => x_150 S9 β (fun v a c => by rw [u_150]; exact hβ v a c) h9 E9⟩) (by rw [show J 7 t = J_150 7 t from (((q_150).2.2.2.1.1 t ht.1 ht.2).1).symm]; exact p_9))⟩⟩
        · refine tz_iconst (pc := 130) dX2_appliedPart_130 ?_
          refine tz_goto (pc := 131) (tgt := 153) dX2_appliedPart_131 (by decide) ?_
          refine tz_istore (pc := 153) (L2 := [_, _, _, _, _, _, _, _, _]) dX2_appliedPart_153 (by decide) rfl ?_
          refine tz_aload_n (pc := 155) dX2_appliedPart_155 rfl rfl ?_
          refine tz_fR (pc := 156) dX2_appliedPart_156 fl_X2_28 r_141_0 ?_
          refine tz_aload_n (pc := 159) dX2_appliedPart_159 rfl rfl ?_
          refine tz_fR (pc := 160) dX2_appliedPart_160 fl_X2_28 r_141_0 ?_
          refine tz_fR (pc := 163) dX2_appliedPart_163 fl_X2_42 r_6_1 ?_
          refine tz_iload_n (pc := 166) dX2_appliedPart_166 rfl rfl ?_
          refine tz_aL (pc := 167) (z := t) (v := (J 7 t)) dX2_appliedPart_167 a_7 rfl (by omega) rfl (fun r_167 => ?_)
          refine tz_iload (pc := 168) dX2_appliedPart_168 rfl ?_
          refine tz_iload (pc := 170) dX2_appliedPart_170 rfl ?_
          refine tz_iload (pc := 172) dX2_appliedPart_172 rfl ?_
          refine tz_cV (pc := 174) (c_made hl n _ _ _ _ _ (by omega) (by omega) (by omega) (by omega) m ((GR.rf C hm)).2.1 ((GR.rf C hm)).2.2.1 (by have := ((GR.rf C hm)).2.1.ar (t := t) (by omega) (by have := ((GR.rf C hm)).1; omega); omega) (ltA_of (by omega) (by omega) (by omega))) vl_X2_52 dX2_appliedPart_174 o_6 rfl rfl (Nat.le_of_ble_eq_true rfl) ⟨(Nat.le_of_ble_eq_true rfl), (Nat.le_of_ble_eq_true rfl)⟩ rfl rfl (Nat.le_of_ble_eq_true rfl) (Nat.le_of_ble_eq_true rfl) (fun r9 J_174 hq9 => ?_)
          obtain ⟨z_174, rfl, hz_174, p_9⟩ := hq9
          obtain ⟨m9, g9, h9⟩ := GR.made p_9 (by omega)
          have q9 := GR.tr (GR.rf C hm) g9
          exact tz_iret (pc := 177) (z := z_174) dX2_appliedPart_177 rfl (Nat.le_of_ble_eq_true rfl) (Nat.le_of_ble_eq_true rfl) ⟨Nat.le_refl _, Nat.le_add_right _ _⟩ ⟨_, rfl, (by omega), ⟨m9, q9, h9, fun S β hβ hG E => ap_c hG E hm ht (by omega) (ap_end (fun S t h => apO_f h) hG E C hm ht (Or.inr ⟨by rw [show J 8 t = J 8 t from rfl]; omega, rfl, rfl⟩) (Or.inr ⟨by rw [show J 8 t = J 8 t from rfl]; omega, rfl, rfl⟩) (Or.inr ⟨by rw [show J 8 t = J 8 t from rfl]; omega, rfl, rfl⟩) (by rw [show J 7 t = J 7 t from rfl]; exact p_9))⟩⟩

set_option maxHeartbeats 4000000 in
set_option maxRecDepth 100000 in
theorem x_app140_2 {l : Launch} {G : tb_G} (hl : l.stackTraces = false) (n : Nat) (J : zJ) (t : Int) (hr_t : -2147483648 ≤ t ∧ t < 2147483648) (m : Int) (C : CT J m) (hm : J 6 12 = m) (ht : 0 ≤ t ∧ t < m) (hr : rOK J 140 0 m) : tz_Ok l G M_X2_appliedPart 7 0 0 [.ref 141, zi t, .ref 140, zi 0, zi 2] n J (zqi (fun z J' => ∃ m', GR J' J m m' ∧ (z = -3 ∨ (0 ≤ z ∧ z < m')) ∧ ∀ (S : zJ) (β : Int → Int), (∀ v, 0 ≤ v → v < 8 → β v = J 140 (0 + v)) → S 164 21 = 0 → A0 J S → EXO (apO β 5 S t) z J')) zN := by
  refine tz_Ok.of hl (by decide +kernel) rfl (tb_c1 rfl) (Nat.le_of_ble_eq_true rfl) ?_
  show tz_At l G M_X2_appliedPart (tb_rm 7 0 0) none (tb_ZM G 0 0 (zQ n 0 (zqi (fun z J' => ∃ m', GR J' J m m' ∧ (z = -3 ∨ (0 ≤ z ∧ z < m')) ∧ ∀ (S : zJ) (β : Int → Int), (∀ v, 0 ≤ v → v < 8 → β v = J 140 (0 + v)) → S 164 21 = 0 → A0 J S → EXO (apO β 5 S t) z J'))) (zX n 0 zN)) 0 0 n J 0 [some (.ref 141), some (zi t), some (.ref 140), some (zi 0), some (zi 2), none, none, none, none] []
  have hb := C.told
  have ha := C.ar ht.1 ht.2
  refine tz_iload (pc := 0) dX2_appliedPart_0 rfl ?_
  refine tz_bipush (pc := 2) dX2_appliedPart_2 (by decide) ?_
  refine tz_icmp_leT (pc := 4) (tgt := 10) (by decide) dX2_appliedPart_4 (by decide) (by decide) (by decide) ?_
  refine tz_aload_n (pc := 10) dX2_appliedPart_10 rfl rfl ?_
  refine tz_fR (pc := 11) dX2_appliedPart_11 fl_X2_28 r_141_0 ?_
  refine tz_iload_n (pc := 14) dX2_appliedPart_14 rfl rfl ?_
  refine tz_cV (pc := 15) (c_isVar hl n _ _ (by omega) (by omega)) vl_X2_36 dX2_appliedPart_15 o_6 rfl rfl (Nat.le_of_ble_eq_true rfl) ⟨(Nat.le_of_ble_eq_true rfl), (Nat.le_of_ble_eq_true rfl)⟩ rfl rfl (Nat.le_of_ble_eq_true rfl) (Nat.le_of_ble_eq_true rfl) (fun r9 J_15 hq9 => ?_)
  obtain ⟨z_15, rfl, hz_15, rfl, rfl⟩ := hq9
  by_cases hw_18 : J 7 t < 0
  · rw [show (if J 7 t < 0 then 1 else 0 : Int) = 1 from if_pos hw_18]
    refine tz_if_eqF (pc := 18) (tgt := 51) (by decide) dX2_appliedPart_18 (by decide) (by decide) ?_
    refine tz_aload_n (pc := 21) dX2_appliedPart_21 rfl rfl ?_
    refine tz_iload_n (pc := 22) dX2_appliedPart_22 rfl rfl ?_
    refine tz_aload_n (pc := 23) dX2_appliedPart_23 rfl rfl ?_
    refine tz_fR (pc := 24) dX2_appliedPart_24 fl_X2_28 r_141_0 ?_
    refine tz_fR (pc := 27) dX2_appliedPart_27 fl_X2_42 r_6_1 ?_
    refine tz_iload_n (pc := 30) dX2_appliedPart_30 rfl rfl ?_
    refine tz_aL (pc := 31) (z := t) (v := (J 7 t)) dX2_appliedPart_31 a_7 rfl (by omega) rfl (fun r_31 => ?_)
    refine tz_iconst (pc := 32) dX2_appliedPart_32 ?_
    refine tz_ixor (pc := 33) (v := -1 - J 7 t) dX2_appliedPart_33 (z_nn (by omega)) ?_
    refine tz_iadd (pc := 34) (v := 0 + (-1 - J 7 t)) dX2_appliedPart_34 rfl ?_
    have hv := hr (-1 - J 7 t) (by omega) (by omega)
    refine tz_aL (pc := 35) (z := (0 + (-1 - J 7 t))) (v := (J 140 (0 + (-1 - J 7 t)))) dX2_appliedPart_35 a_140 rfl (by omega) rfl (fun r_35 => ?_)
    refine tz_istore (pc := 36) (L2 := [_, _, _, _, _, _, _, _, _]) dX2_appliedPart_36 (by decide) rfl ?_
    refine tz_iload (pc := 38) dX2_appliedPart_38 rfl ?_
    refine tz_iconst (pc := 40) dX2_appliedPart_40 ?_
    refine tz_icmp_ne (pc := 41) (tgt := 48) dX2_appliedPart_41 (by decide) (by omega) (by decide) (fun h_41 => ?_) (fun h_41 => ?_)
    · refine tz_iload (pc := 48) dX2_appliedPart_48 rfl ?_
      exact tz_iret (pc := 50) (z := (J 140 (0 + (-1 - J 7 t)))) dX2_appliedPart_50 rfl (Nat.le_of_ble_eq_true rfl) (Nat.le_of_ble_eq_true rfl) ⟨Nat.le_refl _, Nat.le_add_right _ _⟩ ⟨_, rfl, (by omega), ⟨m, GR.rf C hm, Or.inr (by omega), fun S β hβ hG E => ap_v hG E hm ht (by omega) (by omega) (by have := hβ (-1 - J 7 t) (by omega) (by omega); rw [this]; omega)⟩⟩
    · refine tz_iload_n (pc := 44) dX2_appliedPart_44 rfl rfl ?_
      refine tz_goto (pc := 45) (tgt := 50) dX2_appliedPart_45 (by decide) ?_
      exact tz_iret (pc := 50) (z := t) dX2_appliedPart_50 rfl (Nat.le_of_ble_eq_true rfl) (Nat.le_of_ble_eq_true rfl) ⟨Nat.le_refl _, Nat.le_add_right _ _⟩ ⟨_, rfl, (by omega), ⟨m, GR.rf C hm, Or.inr (by omega), fun S β hβ hG E => ap_v hG E hm ht (by omega) (by omega) (by have := hβ (-1 - J 7 t) (by omega) (by omega); rw [this]; omega)⟩⟩
  · rw [show (if J 7 t < 0 then 1 else 0 : Int) = 0 from if_neg hw_18]
    refine tz_if_eqT (pc := 18) (tgt := 51) (by decide) dX2_appliedPart_18 (by decide) (by decide) ?_
    refine tz_aload_n (pc := 51) dX2_appliedPart_51 rfl rfl ?_
    refine tz_fR (pc := 52) dX2_appliedPart_52 fl_X2_28 r_141_0 ?_
    refine tz_fR (pc := 55) dX2_appliedPart_55 fl_X2_45 r_6_2 ?_
    refine tz_iload_n (pc := 58) dX2_appliedPart_58 rfl rfl ?_
    refine tz_aL (pc := 59) (z := t) (v := (J 8 t)) dX2_appliedPart_59 a_8 rfl (by omega) rfl (fun r_59 => ?_)
    refine tz_istore (pc := 60) (L2 := [_, _, _, _, _, _, _, _, _]) dX2_appliedPart_60 (by decide) rfl ?_
    refine tz_iload (pc := 62) dX2_appliedPart_62 rfl ?_
    refine tz_iconst (pc := 64) dX2_appliedPart_64 ?_
    refine tz_icmp_ge (pc := 65) (tgt := 72) dX2_appliedPart_65 (by decide) (by omega) (by decide) (fun h_65 => ?_) (fun h_65 => ?_)
    · refine tz_aload_n (pc := 72) dX2_appliedPart_72 rfl rfl ?_
      refine tz_aload_n (pc := 73) dX2_appliedPart_73 rfl rfl ?_
      refine tz_fR (pc := 74) dX2_appliedPart_74 fl_X2_28 r_141_0 ?_
      refine tz_iload_n (pc := 77) dX2_appliedPart_77 rfl rfl ?_
      refine tz_iconst (pc := 78) dX2_appliedPart_78 ?_
      refine tz_cV (pc := 79) (c_arg hl n _ _ _ (by omega) (by decide) (by omega)) vl_X2_48 dX2_appliedPart_79 o_6 rfl rfl (Nat.le_of_ble_eq_true rfl) ⟨(Nat.le_of_ble_eq_true rfl), (Nat.le_of_ble_eq_true rfl)⟩ rfl rfl (Nat.le_of_ble_eq_true rfl) (Nat.le_of_ble_eq_true rfl) (fun r9 J_79 hq9 => ?_)
      obtain ⟨z_79, rfl, hz_79, rfl, rfl⟩ := hq9
      refine tz_aload_n (pc := 82) dX2_appliedPart_82 rfl rfl ?_
      refine tz_iload_n (pc := 83) dX2_appliedPart_83 rfl rfl ?_
      refine tz_iload (pc := 84) dX2_appliedPart_84 rfl ?_
      refine tz_iconst (pc := 86) dX2_appliedPart_86 ?_
      refine tz_iadd (pc := 87) (v := 3) dX2_appliedPart_87 (by decide) ?_
      have b_88 := GR.arg (GR.rf C hm) C ht (i := 0) (by omega)
      have c_88 := ((GR.rf C hm)).1
      refine tz_cV (pc := 88) (x_app140_3 hl n _ _ (by omega) m ((GR.rf C hm)).2.1 ((GR.rf C hm)).2.2.1 (by omega) (GR.row (GR.rf C hm) rfl hr)) vl_X2_32 dX2_appliedPart_88 o_141 rfl rfl (Nat.le_of_ble_eq_true rfl) ⟨(Nat.le_of_ble_eq_true rfl), (Nat.le_of_ble_eq_true rfl)⟩ rfl rfl (Nat.le_of_ble_eq_true rfl) (Nat.le_of_ble_eq_true rfl) (fun r9 J_88 hq9 => ?_)
      obtain ⟨z_88, rfl, hz_88, m_88, g_88, hz_88, x_88⟩ := hq9
      have q_88 := GR.tr (GR.rf C hm) g_88
      have d_88 := q_88.1
      have e_88 := g_88.1
      have u_88 : J 140 = J 140 := ((GR.rf C hm)).2.2.2.2 140 rfl
      have k8_88 : J 8 t = J 8 t := (((GR.rf C hm)).2.2.2.1.1 t ht.1 ht.2).2.1
      refine tz_istore (pc := 91) (L2 := [_, _, _, _, _, _, _, _, _]) dX2_appliedPart_91 (by decide) rfl ?_
      refine tz_iload (pc := 93) dX2_appliedPart_93 rfl ?_
      refine tz_iconst (pc := 95) dX2_appliedPart_95 ?_
      refine tz_icmp_ge (pc := 96) (tgt := 103) dX2_appliedPart_96 (by decide) (by omega) (by decide) (fun h_96 => ?_) (fun h_96 => ?_)
      · refine tz_aload_n (pc := 103) dX2_appliedPart_103 rfl rfl ?_
        refine tz_aload_n (pc := 104) dX2_appliedPart_104 rfl rfl ?_
        refine tz_fR (pc := 105) dX2_appliedPart_105 fl_X2_28 r_141_0 ?_
        refine tz_iload_n (pc := 108) dX2_appliedPart_108 rfl rfl ?_
        refine tz_iconst (pc := 109) dX2_appliedPart_109 ?_
        refine tz_cV (pc := 110) (c_arg hl n _ _ _ (by omega) (by decide) (by omega)) vl_X2_48 dX2_appliedPart_110 o_6 rfl rfl (Nat.le_of_ble_eq_true rfl) ⟨(Nat.le_of_ble_eq_true rfl), (Nat.le_of_ble_eq_true rfl)⟩ rfl rfl (Nat.le_of_ble_eq_true rfl) (Nat.le_of_ble_eq_true rfl) (fun r9 J_110 hq9 => ?_)
        obtain ⟨z_110, rfl, hz_110, rfl, rfl⟩ := hq9
        refine tz_aload_n (pc := 113) dX2_appliedPart_113 rfl rfl ?_
        refine tz_iload_n (pc := 114) dX2_appliedPart_114 rfl rfl ?_
        refine tz_iload (pc := 115) dX2_appliedPart_115 rfl ?_
        refine tz_iconst (pc := 117) dX2_appliedPart_117 ?_
        refine tz_iadd (pc := 118) (v := 3) dX2_appliedPart_118 (by decide) ?_
        have b_119 := GR.arg q_88 C ht (i := 1) (by omega)
        have c_119 := (q_88).1
        refine tz_cV (pc := 119) (x_app140_3 hl n _ _ (by omega) m_88 (q_88).2.1 (q_88).2.2.1 (by omega) (GR.row q_88 rfl hr)) vl_X2_32 dX2_appliedPart_119 o_141 rfl rfl (Nat.le_of_ble_eq_true rfl) ⟨(Nat.le_of_ble_eq_true rfl), (Nat.le_of_ble_eq_true rfl)⟩ rfl rfl (Nat.le_of_ble_eq_true rfl) (Nat.le_of_ble_eq_true rfl) (fun r9 J_119 hq9 => ?_)
        obtain ⟨z_119, rfl, hz_119, m_119, g_119, hz_119, x_119⟩ := hq9
        have q_119 := GR.tr q_88 g_119
        have d_119 := q_119.1
        have e_119 := g_119.1
        have u_119 : J_88 140 = J 140 := (q_88).2.2.2.2 140 rfl
        have k8_119 : J_88 8 t = J 8 t := ((q_88).2.2.2.1.1 t ht.1 ht.2).2.1
        refine tz_istore (pc := 122) (L2 := [_, _, _, _, _, _, _, _, _]) dX2_appliedPart_122 (by decide) rfl ?_
        refine tz_iload (pc := 124) dX2_appliedPart_124 rfl ?_
        refine tz_iconst (pc := 126) dX2_appliedPart_126 ?_
        refine tz_icmp_ge (pc := 127) (tgt := 134) dX2_appliedPart_127 (by decide) (by omega) (by decide) (fun h_127 => ?_) (fun h_127 => ?_)
        · refine tz_aload_n (pc := 134) dX2_appliedPart_134 rfl rfl ?_
          refine tz_aload_n (pc := 135) dX2_appliedPart_135 rfl rfl ?_
          refine tz_fR (pc := 136) dX2_appliedPart_136 fl_X2_28 r_141_0 ?_
          refine tz_iload_n (pc := 139) dX2_appliedPart_139 rfl rfl ?_
          refine tz_iconst (pc := 140) dX2_appliedPart_140 ?_
          refine tz_cV (pc := 141) (c_arg hl n _ _ _ (by omega) (by decide) (by omega)) vl_X2_48 dX2_appliedPart_141 o_6 rfl rfl (Nat.le_of_ble_eq_true rfl) ⟨(Nat.le_of_ble_eq_true rfl), (Nat.le_of_ble_eq_true rfl)⟩ rfl rfl (Nat.le_of_ble_eq_true rfl) (Nat.le_of_ble_eq_true rfl) (fun r9 J_141 hq9 => ?_)
          obtain ⟨z_141, rfl, hz_141, rfl, rfl⟩ := hq9
          refine tz_aload_n (pc := 144) dX2_appliedPart_144 rfl rfl ?_
          refine tz_iload_n (pc := 145) dX2_appliedPart_145 rfl rfl ?_
          refine tz_iload (pc := 146) dX2_appliedPart_146 rfl ?_
          refine tz_iconst (pc := 148) dX2_appliedPart_148 ?_
          refine tz_iadd (pc := 149) (v := 3) dX2_appliedPart_149 (by decide) ?_
          have b_150 := GR.arg q_119 C ht (i := 2) (by omega)
          have c_150 := (q_119).1
          refine tz_cV (pc := 150) (x_app140_3 hl n _ _ (by omega) m_119 (q_119).2.1 (q_119).2.2.1 (by omega) (GR.row q_119 rfl hr)) vl_X2_32 dX2_appliedPart_150 o_141 rfl rfl (Nat.le_of_ble_eq_true rfl) ⟨(Nat.le_of_ble_eq_true rfl), (Nat.le_of_ble_eq_true rfl)⟩ rfl rfl (Nat.le_of_ble_eq_true rfl) (Nat.le_of_ble_eq_true rfl) (fun r9 J_150 hq9 => ?_)
          obtain ⟨z_150, rfl, hz_150, m_150, g_150, hz_150, x_150⟩ := hq9
          have q_150 := GR.tr q_119 g_150
          have d_150 := q_150.1
          have e_150 := g_150.1
          have u_150 : J_119 140 = J 140 := (q_119).2.2.2.2 140 rfl
          have k8_150 : J_119 8 t = J 8 t := ((q_119).2.2.2.1.1 t ht.1 ht.2).2.1
          refine tz_istore (pc := 153) (L2 := [_, _, _, _, _, _, _, _, _]) dX2_appliedPart_153 (by decide) rfl ?_
          refine tz_aload_n (pc := 155) dX2_appliedPart_155 rfl rfl ?_
          refine tz_fR (pc := 156) dX2_appliedPart_156 fl_X2_28 r_141_0 ?_
          refine tz_aload_n (pc := 159) dX2_appliedPart_159 rfl rfl ?_
          refine tz_fR (pc := 160) dX2_appliedPart_160 fl_X2_28 r_141_0 ?_
          refine tz_fR (pc := 163) dX2_appliedPart_163 fl_X2_42 r_6_1 ?_
          refine tz_iload_n (pc := 166) dX2_appliedPart_166 rfl rfl ?_
          refine tz_aL (pc := 167) (z := t) (v := (J_150 7 t)) dX2_appliedPart_167 a_7 rfl (by omega) rfl (fun r_167 => ?_)
          refine tz_iload (pc := 168) dX2_appliedPart_168 rfl ?_
          refine tz_iload (pc := 170) dX2_appliedPart_170 rfl ?_
          refine tz_iload (pc := 172) dX2_appliedPart_172 rfl ?_
          refine tz_cV (pc := 174) (c_made hl n _ _ _ _ _ (by omega) (by omega) (by omega) (by omega) m_150 (q_150).2.1 (q_150).2.2.1 (by have := (q_150).2.1.ar (t := t) (by omega) (by have := (q_150).1; omega); omega) (ltA_of (by omega) (by omega) (by omega))) vl_X2_52 dX2_appliedPart_174 o_6 rfl rfl (Nat.le_of_ble_eq_true rfl) ⟨(Nat.le_of_ble_eq_true rfl), (Nat.le_of_ble_eq_true rfl)⟩ rfl rfl (Nat.le_of_ble_eq_true rfl) (Nat.le_of_ble_eq_true rfl) (fun r9 J_174 hq9 => ?_)
          obtain ⟨z_174, rfl, hz_174, p_9⟩ := hq9
          obtain ⟨m9, g9, h9⟩ := GR.made p_9 (by omega)
          have q9 := GR.tr q_150 g9
          exact tz_iret (pc := 177) (z := z_174) dX2_appliedPart_177 rfl (Nat.le_of_ble_eq_true rfl) (Nat.le_of_ble_eq_true rfl) ⟨Nat.le_refl _, Nat.le_add_right _ _⟩ ⟨_, rfl, (by omega), ⟨m9, q9, h9, fun S β hβ hG E => ap_c hG E hm ht (by omega) (ap_end (fun S t h => apO_f h) hG E C hm ht (Or.inl ⟨by omega, g_88, hz_88, fun S9 h9 E9 => x_88 S9 β (fun v a c => by rw [u_88]; exact hβ v a c) h9 E9⟩) (Or.inl ⟨by omega, g_119, hz_119, fun S9 h9 E9 => x_119 S9 β (fun v a c => by rw [u_119]; exact hβ v a c) h9 E9⟩) (Or.inl ⟨by omega, g_150, hz_150, fun S9 h9 E9 => x_150 S9 β (fun v a c => by rw [u_150]; exact hβ v a c) h9 E9⟩) (by rw [show J 7 t = J_150 7 t from (((q_150).2.2.2.1.1 t ht.1 ht.2).1).symm]; exact p_9))⟩⟩
        · refine tz_iconst (pc := 130) dX2_appliedPart_130 ?_
          refine tz_goto (pc := 131) (tgt := 153) dX2_appliedPart_131 (by decide) ?_
          refine tz_istore (pc := 153) (L2 := [_, _, _, _, _, _, _, _, _]) dX2_appliedPart_153 (by decide) rfl ?_
          refine tz_aload_n (pc := 155) dX2_appliedPart_155 rfl rfl ?_
          refine tz_fR (pc := 156) dX2_appliedPart_156 fl_X2_28 r_141_0 ?_
          refine tz_aload_n (pc := 159) dX2_appliedPart_159 rfl rfl ?_
          refine tz_fR (pc := 160) dX2_appliedPart_160 fl_X2_28 r_141_0 ?_
          refine tz_fR (pc := 163) dX2_appliedPart_163 fl_X2_42 r_6_1 ?_
          refine tz_iload_n (pc := 166) dX2_appliedPart_166 rfl rfl ?_
          refine tz_aL (pc := 167) (z := t) (v := (J_119 7 t)) dX2_appliedPart_167 a_7 rfl (by omega) rfl (fun r_167 => ?_)
          refine tz_iload (pc := 168) dX2_appliedPart_168 rfl ?_
          refine tz_iload (pc := 170) dX2_appliedPart_170 rfl ?_
          refine tz_iload (pc := 172) dX2_appliedPart_172 rfl ?_
          refine tz_cV (pc := 174) (c_made hl n _ _ _ _ _ (by omega) (by omega) (by omega) (by omega) m_119 (q_119).2.1 (q_119).2.2.1 (by have := (q_119).2.1.ar (t := t) (by omega) (by have := (q_119).1; omega); omega) (ltA_of (by omega) (by omega) (by omega))) vl_X2_52 dX2_appliedPart_174 o_6 rfl rfl (Nat.le_of_ble_eq_true rfl) ⟨(Nat.le_of_ble_eq_true rfl), (Nat.le_of_ble_eq_true rfl)⟩ rfl rfl (Nat.le_of_ble_eq_true rfl) (Nat.le_of_ble_eq_true rfl) (fun r9 J_174 hq9 => ?_)
          obtain ⟨z_174, rfl, hz_174, p_9⟩ := hq9
          obtain ⟨m9, g9, h9⟩ := GR.made p_9 (by omega)
          have q9 := GR.tr q_119 g9
          exact tz_iret (pc := 177) (z := z_174) dX2_appliedPart_177 rfl (Nat.le_of_ble_eq_true rfl) (Nat.le_of_ble_eq_true rfl) ⟨Nat.le_refl _, Nat.le_add_right _ _⟩ ⟨_, rfl, (by omega), ⟨m9, q9, h9, fun S β hβ hG E => ap_c hG E hm ht (by omega) (ap_end (fun S t h => apO_f h) hG E C hm ht (Or.inl ⟨by omega, g_88, hz_88, fun S9 h9 E9 => x_88 S9 β (fun v a c => by rw [u_88]; exact hβ v a c) h9 E9⟩) (Or.inl ⟨by omega, g_119, hz_119, fun S9 h9 E9 => x_119 S9 β (fun v a c => by rw [u_119]; exact hβ v a c) h9 E9⟩) (Or.inr ⟨by rw [show J_119 8 t = J 8 t from ((q_119).2.2.2.1.1 t ht.1 ht.2).2.1]; omega, rfl, rfl⟩) (by rw [show J 7 t = J_119 7 t from (((q_119).2.2.2.1.1 t ht.1 ht.2).1).symm]; exact p_9))⟩⟩
      · refine tz_iconst (pc := 99) dX2_appliedPart_99 ?_
        refine tz_goto (pc := 100) (tgt := 122) dX2_appliedPart_100 (by decide) ?_
        refine tz_istore (pc := 122) (L2 := [_, _, _, _, _, _, _, _, _]) dX2_appliedPart_122 (by decide) rfl ?_
        refine tz_iload (pc := 124) dX2_appliedPart_124 rfl ?_
        refine tz_iconst (pc := 126) dX2_appliedPart_126 ?_
        refine tz_icmp_ge (pc := 127) (tgt := 134) dX2_appliedPart_127 (by decide) (by omega) (by decide) (fun h_127 => ?_) (fun h_127 => ?_)
        · refine tz_aload_n (pc := 134) dX2_appliedPart_134 rfl rfl ?_
          refine tz_aload_n (pc := 135) dX2_appliedPart_135 rfl rfl ?_
          refine tz_fR (pc := 136) dX2_appliedPart_136 fl_X2_28 r_141_0 ?_
          refine tz_iload_n (pc := 139) dX2_appliedPart_139 rfl rfl ?_
          refine tz_iconst (pc := 140) dX2_appliedPart_140 ?_
          refine tz_cV (pc := 141) (c_arg hl n _ _ _ (by omega) (by decide) (by omega)) vl_X2_48 dX2_appliedPart_141 o_6 rfl rfl (Nat.le_of_ble_eq_true rfl) ⟨(Nat.le_of_ble_eq_true rfl), (Nat.le_of_ble_eq_true rfl)⟩ rfl rfl (Nat.le_of_ble_eq_true rfl) (Nat.le_of_ble_eq_true rfl) (fun r9 J_141 hq9 => ?_)
          obtain ⟨z_141, rfl, hz_141, rfl, rfl⟩ := hq9
          refine tz_aload_n (pc := 144) dX2_appliedPart_144 rfl rfl ?_
          refine tz_iload_n (pc := 145) dX2_appliedPart_145 rfl rfl ?_
          refine tz_iload (pc := 146) dX2_appliedPart_146 rfl ?_
          refine tz_iconst (pc := 148) dX2_appliedPart_148 ?_
          refine tz_iadd (pc := 149) (v := 3) dX2_appliedPart_149 (by decide) ?_
          have b_150 := GR.arg q_88 C ht (i := 2) (by omega)
          have c_150 := (q_88).1
          refine tz_cV (pc := 150) (x_app140_3 hl n _ _ (by omega) m_88 (q_88).2.1 (q_88).2.2.1 (by omega) (GR.row q_88 rfl hr)) vl_X2_32 dX2_appliedPart_150 o_141 rfl rfl (Nat.le_of_ble_eq_true rfl) ⟨(Nat.le_of_ble_eq_true rfl), (Nat.le_of_ble_eq_true rfl)⟩ rfl rfl (Nat.le_of_ble_eq_true rfl) (Nat.le_of_ble_eq_true rfl) (fun r9 J_150 hq9 => ?_)
          obtain ⟨z_150, rfl, hz_150, m_150, g_150, hz_150, x_150⟩ := hq9
          have q_150 := GR.tr q_88 g_150
          have d_150 := q_150.1
          have e_150 := g_150.1
          have u_150 : J_88 140 = J 140 := (q_88).2.2.2.2 140 rfl
          have k8_150 : J_88 8 t = J 8 t := ((q_88).2.2.2.1.1 t ht.1 ht.2).2.1
          refine tz_istore (pc := 153) (L2 := [_, _, _, _, _, _, _, _, _]) dX2_appliedPart_153 (by decide) rfl ?_
          refine tz_aload_n (pc := 155) dX2_appliedPart_155 rfl rfl ?_
          refine tz_fR (pc := 156) dX2_appliedPart_156 fl_X2_28 r_141_0 ?_
          refine tz_aload_n (pc := 159) dX2_appliedPart_159 rfl rfl ?_
          refine tz_fR (pc := 160) dX2_appliedPart_160 fl_X2_28 r_141_0 ?_
          refine tz_fR (pc := 163) dX2_appliedPart_163 fl_X2_42 r_6_1 ?_
          refine tz_iload_n (pc := 166) dX2_appliedPart_166 rfl rfl ?_
          refine tz_aL (pc := 167) (z := t) (v := (J_150 7 t)) dX2_appliedPart_167 a_7 rfl (by omega) rfl (fun r_167 => ?_)
          refine tz_iload (pc := 168) dX2_appliedPart_168 rfl ?_
          refine tz_iload (pc := 170) dX2_appliedPart_170 rfl ?_
          refine tz_iload (pc := 172) dX2_appliedPart_172 rfl ?_
          refine tz_cV (pc := 174) (c_made hl n _ _ _ _ _ (by omega) (by omega) (by omega) (by omega) m_150 (q_150).2.1 (q_150).2.2.1 (by have := (q_150).2.1.ar (t := t) (by omega) (by have := (q_150).1; omega); omega) (ltA_of (by omega) (by omega) (by omega))) vl_X2_52 dX2_appliedPart_174 o_6 rfl rfl (Nat.le_of_ble_eq_true rfl) ⟨(Nat.le_of_ble_eq_true rfl), (Nat.le_of_ble_eq_true rfl)⟩ rfl rfl (Nat.le_of_ble_eq_true rfl) (Nat.le_of_ble_eq_true rfl) (fun r9 J_174 hq9 => ?_)
          obtain ⟨z_174, rfl, hz_174, p_9⟩ := hq9
          obtain ⟨m9, g9, h9⟩ := GR.made p_9 (by omega)
          have q9 := GR.tr q_150 g9
          exact tz_iret (pc := 177) (z := z_174) dX2_appliedPart_177 rfl (Nat.le_of_ble_eq_true rfl) (Nat.le_of_ble_eq_true rfl) ⟨Nat.le_refl _, Nat.le_add_right _ _⟩ ⟨_, rfl, (by omega), ⟨m9, q9, h9, fun S β hβ hG E => ap_c hG E hm ht (by omega) (ap_end (fun S t h => apO_f h) hG E C hm ht (Or.inl ⟨by omega, g_88, hz_88, fun S9 h9 E9 => x_88 S9 β (fun v a c => by rw [u_88]; exact hβ v a c) h9 E9⟩) (Or.inr ⟨by rw [show J_88 8 t = J 8 t from ((q_88).2.2.2.1.1 t ht.1 ht.2).2.1]; omega, rfl, rfl⟩) (Or.inl ⟨by omega, g_150, hz_150, fun S9 h9 E9 => x_150 S9 β (fun v a c => by rw [u_150]; exact hβ v a c) h9 E9⟩) (by rw [show J 7 t = J_150 7 t from (((q_150).2.2.2.1.1 t ht.1 ht.2).1).symm]; exact p_9))⟩⟩
        · refine tz_iconst (pc := 130) dX2_appliedPart_130 ?_
          refine tz_goto (pc := 131) (tgt := 153) dX2_appliedPart_131 (by decide) ?_
          refine tz_istore (pc := 153) (L2 := [_, _, _, _, _, _, _, _, _]) dX2_appliedPart_153 (by decide) rfl ?_
          refine tz_aload_n (pc := 155) dX2_appliedPart_155 rfl rfl ?_
          refine tz_fR (pc := 156) dX2_appliedPart_156 fl_X2_28 r_141_0 ?_
          refine tz_aload_n (pc := 159) dX2_appliedPart_159 rfl rfl ?_
          refine tz_fR (pc := 160) dX2_appliedPart_160 fl_X2_28 r_141_0 ?_
          refine tz_fR (pc := 163) dX2_appliedPart_163 fl_X2_42 r_6_1 ?_
          refine tz_iload_n (pc := 166) dX2_appliedPart_166 rfl rfl ?_
          refine tz_aL (pc := 167) (z := t) (v := (J_88 7 t)) dX2_appliedPart_167 a_7 rfl (by omega) rfl (fun r_167 => ?_)
          refine tz_iload (pc := 168) dX2_appliedPart_168 rfl ?_
          refine tz_iload (pc := 170) dX2_appliedPart_170 rfl ?_
          refine tz_iload (pc := 172) dX2_appliedPart_172 rfl ?_
          refine tz_cV (pc := 174) (c_made hl n _ _ _ _ _ (by omega) (by omega) (by omega) (by omega) m_88 (q_88).2.1 (q_88).2.2.1 (by have := (q_88).2.1.ar (t := t) (by omega) (by have := (q_88).1; omega); omega) (ltA_of (by omega) (by omega) (by omega))) vl_X2_52 dX2_appliedPart_174 o_6 rfl rfl (Nat.le_of_ble_eq_true rfl) ⟨(Nat.le_of_ble_eq_true rfl), (Nat.le_of_ble_eq_true rfl)⟩ rfl rfl (Nat.le_of_ble_eq_true rfl) (Nat.le_of_ble_eq_true rfl) (fun r9 J_174 hq9 => ?_)
          obtain ⟨z_174, rfl, hz_174, p_9⟩ := hq9
          obtain ⟨m9, g9, h9⟩ := GR.made p_9 (by omega)
          have q9 := GR.tr q_88 g9
          exact tz_iret (pc := 177) (z := z_174) dX2_appliedPart_177 rfl (Nat.le_of_ble_eq_true rfl) (Nat.le_of_ble_eq_true rfl) ⟨Nat.le_refl _, Nat.le_add_right _ _⟩ ⟨_, rfl, (by omega), ⟨m9, q9, h9, fun S β hβ hG E => ap_c hG E hm ht (by omega) (ap_end (fun S t h => apO_f h) hG E C hm ht (Or.inl ⟨by omega, g_88, hz_88, fun S9 h9 E9 => x_88 S9 β (fun v a c => by rw [u_88]; exact hβ v a c) h9 E9⟩) (Or.inr ⟨by rw [show J_88 8 t = J 8 t from ((q_88).2.2.2.1.1 t ht.1 ht.2).2.1]; omega, rfl, rfl⟩) (Or.inr ⟨by rw [show J_88 8 t = J 8 t from ((q_88).2.2.2.1.1 t ht.1 ht.2).2.1]; omega, rfl, rfl⟩) (by rw [show J 7 t = J_88 7 t from (((q_88).2.2.2.1.1 t ht.1 ht.2).1).symm]; exact p_9))⟩⟩
    · refine tz_iconst (pc := 68) dX2_appliedPart_68 ?_
      refine tz_goto (pc := 69) (tgt := 91) dX2_appliedPart_69 (by decide) ?_
      refine tz_istore (pc := 91) (L2 := [_, _, _, _, _, _, _, _, _]) dX2_appliedPart_91 (by decide) rfl ?_
      refine tz_iload (pc := 93) dX2_appliedPart_93 rfl ?_
      refine tz_iconst (pc := 95) dX2_appliedPart_95 ?_
      refine tz_icmp_ge (pc := 96) (tgt := 103) dX2_appliedPart_96 (by decide) (by omega) (by decide) (fun h_96 => ?_) (fun h_96 => ?_)
      · refine tz_aload_n (pc := 103) dX2_appliedPart_103 rfl rfl ?_
        refine tz_aload_n (pc := 104) dX2_appliedPart_104 rfl rfl ?_
        refine tz_fR (pc := 105) dX2_appliedPart_105 fl_X2_28 r_141_0 ?_
        refine tz_iload_n (pc := 108) dX2_appliedPart_108 rfl rfl ?_
        refine tz_iconst (pc := 109) dX2_appliedPart_109 ?_
        refine tz_cV (pc := 110) (c_arg hl n _ _ _ (by omega) (by decide) (by omega)) vl_X2_48 dX2_appliedPart_110 o_6 rfl rfl (Nat.le_of_ble_eq_true rfl) ⟨(Nat.le_of_ble_eq_true rfl), (Nat.le_of_ble_eq_true rfl)⟩ rfl rfl (Nat.le_of_ble_eq_true rfl) (Nat.le_of_ble_eq_true rfl) (fun r9 J_110 hq9 => ?_)
        obtain ⟨z_110, rfl, hz_110, rfl, rfl⟩ := hq9
        refine tz_aload_n (pc := 113) dX2_appliedPart_113 rfl rfl ?_
        refine tz_iload_n (pc := 114) dX2_appliedPart_114 rfl rfl ?_
        refine tz_iload (pc := 115) dX2_appliedPart_115 rfl ?_
        refine tz_iconst (pc := 117) dX2_appliedPart_117 ?_
        refine tz_iadd (pc := 118) (v := 3) dX2_appliedPart_118 (by decide) ?_
        have b_119 := GR.arg (GR.rf C hm) C ht (i := 1) (by omega)
        have c_119 := ((GR.rf C hm)).1
        refine tz_cV (pc := 119) (x_app140_3 hl n _ _ (by omega) m ((GR.rf C hm)).2.1 ((GR.rf C hm)).2.2.1 (by omega) (GR.row (GR.rf C hm) rfl hr)) vl_X2_32 dX2_appliedPart_119 o_141 rfl rfl (Nat.le_of_ble_eq_true rfl) ⟨(Nat.le_of_ble_eq_true rfl), (Nat.le_of_ble_eq_true rfl)⟩ rfl rfl (Nat.le_of_ble_eq_true rfl) (Nat.le_of_ble_eq_true rfl) (fun r9 J_119 hq9 => ?_)
        obtain ⟨z_119, rfl, hz_119, m_119, g_119, hz_119, x_119⟩ := hq9
        have q_119 := GR.tr (GR.rf C hm) g_119
        have d_119 := q_119.1
        have e_119 := g_119.1
        have u_119 : J 140 = J 140 := ((GR.rf C hm)).2.2.2.2 140 rfl
        have k8_119 : J 8 t = J 8 t := (((GR.rf C hm)).2.2.2.1.1 t ht.1 ht.2).2.1
        refine tz_istore (pc := 122) (L2 := [_, _, _, _, _, _, _, _, _]) dX2_appliedPart_122 (by decide) rfl ?_
        refine tz_iload (pc := 124) dX2_appliedPart_124 rfl ?_
        refine tz_iconst (pc := 126) dX2_appliedPart_126 ?_
        refine tz_icmp_ge (pc := 127) (tgt := 134) dX2_appliedPart_127 (by decide) (by omega) (by decide) (fun h_127 => ?_) (fun h_127 => ?_)
        · refine tz_aload_n (pc := 134) dX2_appliedPart_134 rfl rfl ?_
          refine tz_aload_n (pc := 135) dX2_appliedPart_135 rfl rfl ?_
          refine tz_fR (pc := 136) dX2_appliedPart_136 fl_X2_28 r_141_0 ?_
          refine tz_iload_n (pc := 139) dX2_appliedPart_139 rfl rfl ?_
          refine tz_iconst (pc := 140) dX2_appliedPart_140 ?_
          refine tz_cV (pc := 141) (c_arg hl n _ _ _ (by omega) (by decide) (by omega)) vl_X2_48 dX2_appliedPart_141 o_6 rfl rfl (Nat.le_of_ble_eq_true rfl) ⟨(Nat.le_of_ble_eq_true rfl), (Nat.le_of_ble_eq_true rfl)⟩ rfl rfl (Nat.le_of_ble_eq_true rfl) (Nat.le_of_ble_eq_true rfl) (fun r9 J_141 hq9 => ?_)
          obtain ⟨z_141, rfl, hz_141, rfl, rfl⟩ := hq9
          refine tz_aload_n (pc := 144) dX2_appliedPart_144 rfl rfl ?_
          refine tz_iload_n (pc := 145) dX2_appliedPart_145 rfl rfl ?_
          refine tz_iload (pc := 146) dX2_appliedPart_146 rfl ?_
          refine tz_iconst (pc := 148) dX2_appliedPart_148 ?_
          refine tz_iadd (pc := 149) (v := 3) dX2_appliedPart_149 (by decide) ?_
          have b_150 := GR.arg q_119 C ht (i := 2) (by omega)
          have c_150 := (q_119).1
          refine tz_cV (pc := 150) (x_app140_3 hl n _ _ (by omega) m_119 (q_119).2.1 (q_119).2.2.1 (by omega) (GR.row q_119 rfl hr)) vl_X2_32 dX2_appliedPart_150 o_141 rfl rfl (Nat.le_of_ble_eq_true rfl) ⟨(Nat.le_of_ble_eq_true rfl), (Nat.le_of_ble_eq_true rfl)⟩ rfl rfl (Nat.le_of_ble_eq_true rfl) (Nat.le_of_ble_eq_true rfl) (fun r9 J_150 hq9 => ?_)
          obtain ⟨z_150, rfl, hz_150, m_150, g_150, hz_150, x_150⟩ := hq9
          have q_150 := GR.tr q_119 g_150
          have d_150 := q_150.1
          have e_150 := g_150.1
          have u_150 : J_119 140 = J 140 := (q_119).2.2.2.2 140 rfl
          have k8_150 : J_119 8 t = J 8 t := ((q_119).2.2.2.1.1 t ht.1 ht.2).2.1
          refine tz_istore (pc := 153) (L2 := [_, _, _, _, _, _, _, _, _]) dX2_appliedPart_153 (by decide) rfl ?_
          refine tz_aload_n (pc := 155) dX2_appliedPart_155 rfl rfl ?_
          refine tz_fR (pc := 156) dX2_appliedPart_156 fl_X2_28 r_141_0 ?_
          refine tz_aload_n (pc := 159) dX2_appliedPart_159 rfl rfl ?_
          refine tz_fR (pc := 160) dX2_appliedPart_160 fl_X2_28 r_141_0 ?_
          refine tz_fR (pc := 163) dX2_appliedPart_163 fl_X2_42 r_6_1 ?_
          refine tz_iload_n (pc := 166) dX2_appliedPart_166 rfl rfl ?_
          refine tz_aL (pc := 167) (z := t) (v := (J_150 7 t)) dX2_appliedPart_167 a_7 rfl (by omega) rfl (fun r_167 => ?_)
          refine tz_iload (pc := 168) dX2_appliedPart_168 rfl ?_
          refine tz_iload (pc := 170) dX2_appliedPart_170 rfl ?_
          refine tz_iload (pc := 172) dX2_appliedPart_172 rfl ?_
          refine tz_cV (pc := 174) (c_made hl n _ _ _ _ _ (by omega) (by omega) (by omega) (by omega) m_150 (q_150).2.1 (q_150).2.2.1 (by have := (q_150).2.1.ar (t := t) (by omega) (by have := (q_150).1; omega); omega) (ltA_of (by omega) (by omega) (by omega))) vl_X2_52 dX2_appliedPart_174 o_6 rfl rfl (Nat.le_of_ble_eq_true rfl) ⟨(Nat.le_of_ble_eq_true rfl), (Nat.le_of_ble_eq_true rfl)⟩ rfl rfl (Nat.le_of_ble_eq_true rfl) (Nat.le_of_ble_eq_true rfl) (fun r9 J_174 hq9 => ?_)
          obtain ⟨z_174, rfl, hz_174, p_9⟩ := hq9
          obtain ⟨m9, g9, h9⟩ := GR.made p_9 (by omega)
          have q9 := GR.tr q_150 g9
          exact tz_iret (pc := 177) (z := z_174) dX2_appliedPart_177 rfl (Nat.le_of_ble_eq_true rfl) (Nat.le_of_ble_eq_true rfl) ⟨Nat.le_refl _, Nat.le_add_right _ _⟩ ⟨_, rfl, (by omega), ⟨m9, q9, h9, fun S β hβ hG E => ap_c hG E hm ht (by omega) (ap_end (fun S t h => apO_f h) hG E C hm ht (Or.inr ⟨by rw [show J 8 t = J 8 t from rfl]; omega, rfl, rfl⟩) (Or.inl ⟨by omega, g_119, hz_119, fun S9 h9 E9 => x_119 S9 β (fun v a c => by rw [u_119]; exact hβ v a c) h9 E9⟩) (Or.inl ⟨by omega, g_150, hz_150, fun S9 h9 E9 => x_150 S9 β (fun v a c => by rw [u_150]; exact hβ v a c) h9 E9⟩) (by rw [show J 7 t = J_150 7 t from (((q_150).2.2.2.1.1 t ht.1 ht.2).1).symm]; exact p_9))⟩⟩
        · refine tz_iconst (pc := 130) dX2_appliedPart_130 ?_
          refine tz_goto (pc := 131) (tgt := 153) dX2_appliedPart_131 (by decide) ?_
          refine tz_istore (pc := 153) (L2 := [_, _, _, _, _, _, _, _, _]) dX2_appliedPart_153 (by decide) rfl ?_
          refine tz_aload_n (pc := 155) dX2_appliedPart_155 rfl rfl ?_
          refine tz_fR (pc := 156) dX2_appliedPart_156 fl_X2_28 r_141_0 ?_
          refine tz_aload_n (pc := 159) dX2_appliedPart_159 rfl rfl ?_
          refine tz_fR (pc := 160) dX2_appliedPart_160 fl_X2_28 r_141_0 ?_
          refine tz_fR (pc := 163) dX2_appliedPart_163 fl_X2_42 r_6_1 ?_
          refine tz_iload_n (pc := 166) dX2_appliedPart_166 rfl rfl ?_
          refine tz_aL (pc := 167) (z := t) (v := (J_119 7 t)) dX2_appliedPart_167 a_7 rfl (by omega) rfl (fun r_167 => ?_)
          refine tz_iload (pc := 168) dX2_appliedPart_168 rfl ?_
          refine tz_iload (pc := 170) dX2_appliedPart_170 rfl ?_
          refine tz_iload (pc := 172) dX2_appliedPart_172 rfl ?_
          refine tz_cV (pc := 174) (c_made hl n _ _ _ _ _ (by omega) (by omega) (by omega) (by omega) m_119 (q_119).2.1 (q_119).2.2.1 (by have := (q_119).2.1.ar (t := t) (by omega) (by have := (q_119).1; omega); omega) (ltA_of (by omega) (by omega) (by omega))) vl_X2_52 dX2_appliedPart_174 o_6 rfl rfl (Nat.le_of_ble_eq_true rfl) ⟨(Nat.le_of_ble_eq_true rfl), (Nat.le_of_ble_eq_true rfl)⟩ rfl rfl (Nat.le_of_ble_eq_true rfl) (Nat.le_of_ble_eq_true rfl) (fun r9 J_174 hq9 => ?_)
          obtain ⟨z_174, rfl, hz_174, p_9⟩ := hq9
          obtain ⟨m9, g9, h9⟩ := GR.made p_9 (by omega)
          have q9 := GR.tr q_119 g9
          exact tz_iret (pc := 177) (z := z_174) dX2_appliedPart_177 rfl (Nat.le_of_ble_eq_true rfl) (Nat.le_of_ble_eq_true rfl) ⟨Nat.le_refl _, Nat.le_add_right _ _⟩ ⟨_, rfl, (by omega), ⟨m9, q9, h9, fun S β hβ hG E => ap_c hG E hm ht (by omega) (ap_end (fun S t h => apO_f h) hG E C hm ht (Or.inr ⟨by rw [show J 8 t = J 8 t from rfl]; omega, rfl, rfl⟩) (Or.inl ⟨by omega, g_119, hz_119, fun S9 h9 E9 => x_119 S9 β (fun v a c => by rw [u_119]; exact hβ v a c) h9 E9⟩) (Or.inr ⟨by rw [show J_119 8 t = J 8 t from ((q_119).2.2.2.1.1 t ht.1 ht.2).2.1]; omega, rfl, rfl⟩) (by rw [show J 7 t = J_119 7 t from (((q_119).2.2.2.1.1 t ht.1 ht.2).1).symm]; exact p_9))⟩⟩
      · refine tz_iconst (pc := 99) dX2_appliedPart_99 ?_
        refine tz_goto (pc := 100) (tgt := 122) dX2_appliedPart_100 (by decide) ?_
        refine tz_istore (pc := 122) (L2 := [_, _, _, _, _, _, _, _, _]) dX2_appliedPart_122 (by decide) rfl ?_
        refine tz_iload (pc := 124) dX2_appliedPart_124 rfl ?_
        refine tz_iconst (pc := 126) dX2_appliedPart_126 ?_
        refine tz_icmp_ge (pc := 127) (tgt := 134) dX2_appliedPart_127 (by decide) (by omega) (by decide) (fun h_127 => ?_) (fun h_127 => ?_)
        · refine tz_aload_n (pc := 134) dX2_appliedPart_134 rfl rfl ?_
          refine tz_aload_n (pc := 135) dX2_appliedPart_135 rfl rfl ?_
          refine tz_fR (pc := 136) dX2_appliedPart_136 fl_X2_28 r_141_0 ?_
          refine tz_iload_n (pc := 139) dX2_appliedPart_139 rfl rfl ?_
          refine tz_iconst (pc := 140) dX2_appliedPart_140 ?_
          refine tz_cV (pc := 141) (c_arg hl n _ _ _ (by omega) (by decide) (by omega)) vl_X2_48 dX2_appliedPart_141 o_6 rfl rfl (Nat.le_of_ble_eq_true rfl) ⟨(Nat.le_of_ble_eq_true rfl), (Nat.le_of_ble_eq_true rfl)⟩ rfl rfl (Nat.le_of_ble_eq_true rfl) (Nat.le_of_ble_eq_true rfl) (fun r9 J_141 hq9 => ?_)
          obtain ⟨z_141, rfl, hz_141, rfl, rfl⟩ := hq9
          refine tz_aload_n (pc := 144) dX2_appliedPart_144 rfl rfl ?_
          refine tz_iload_n (pc := 145) dX2_appliedPart_145 rfl rfl ?_
          refine tz_iload (pc := 146) dX2_appliedPart_146 rfl ?_
          refine tz_iconst (pc := 148) dX2_appliedPart_148 ?_
          refine tz_iadd (pc := 149) (v := 3) dX2_appliedPart_149 (by decide) ?_
          have b_150 := GR.arg (GR.rf C hm) C ht (i := 2) (by omega)
          have c_150 := ((GR.rf C hm)).1
          refine tz_cV (pc := 150) (x_app140_3 hl n _ _ (by omega) m ((GR.rf C hm)).2.1 ((GR.rf C hm)).2.2.1 (by omega) (GR.row (GR.rf C hm) rfl hr)) vl_X2_32 dX2_appliedPart_150 o_141 rfl rfl (Nat.le_of_ble_eq_true rfl) ⟨(Nat.le_of_ble_eq_true rfl), (Nat.le_of_ble_eq_true rfl)⟩ rfl rfl (Nat.le_of_ble_eq_true rfl) (Nat.le_of_ble_eq_true rfl) (fun r9 J_150 hq9 => ?_)
          obtain ⟨z_150, rfl, hz_150, m_150, g_150, hz_150, x_150⟩ := hq9
          have q_150 := GR.tr (GR.rf C hm) g_150
          have d_150 := q_150.1
          have e_150 := g_150.1
          have u_150 : J 140 = J 140 := ((GR.rf C hm)).2.2.2.2 140 rfl
          have k8_150 : J 8 t = J 8 t := (((GR.rf C hm)).2.2.2.1.1 t ht.1 ht.2).2.1
          refine tz_istore (pc := 153) (L2 := [_, _, _, _, _, _, _, _, _]) dX2_appliedPart_153 (by decide) rfl ?_
          refine tz_aload_n (pc := 155) dX2_appliedPart_155 rfl rfl ?_
          refine tz_fR (pc := 156) dX2_appliedPart_156 fl_X2_28 r_141_0 ?_
          refine tz_aload_n (pc := 159) dX2_appliedPart_159 rfl rfl ?_
          refine tz_fR (pc := 160) dX2_appliedPart_160 fl_X2_28 r_141_0 ?_
          refine tz_fR (pc := 163) dX2_appliedPart_163 fl_X2_42 r_6_1 ?_
          refine tz_iload_n (pc := 166) dX2_appliedPart_166 rfl rfl ?_
          refine tz_aL (pc := 167) (z := t) (v := (J_150 7 t)) dX2_appliedPart_167 a_7 rfl (by omega) rfl (fun r_167 => ?_)
          refine tz_iload (pc := 168) dX2_appliedPart_168 rfl ?_
          refine tz_iload (pc := 170) dX2_appliedPart_170 rfl ?_
          refine tz_iload (pc := 172) dX2_appliedPart_172 rfl ?_
          refine tz_cV (pc := 174) (c_made hl n _ _ _ _ _ (by omega) (by omega) (by omega) (by omega) m_150 (q_150).2.1 (q_150).2.2.1 (by have := (q_150).2.1.ar (t := t) (by omega) (by have := (q_150).1; omega); omega) (ltA_of (by omega) (by omega) (by omega))) vl_X2_52 dX2_appliedPart_174 o_6 rfl rfl (Nat.le_of_ble_eq_true rfl) ⟨(Nat.le_of_ble_eq_true rfl), (Nat.le_of_ble_eq_true rfl)⟩ rfl rfl (Nat.le_of_ble_eq_true rfl) (Nat.le_of_ble_eq_true rfl) (fun r9 J_174 hq9 => ?_)
          obtain ⟨z_174, rfl, hz_174, p_9⟩ := hq9
          obtain ⟨m9, g9, h9⟩ := GR.made p_9 (by omega)
          have q9 := GR.tr q_150 g9
          exact tz_iret (pc := 177) (z := z_174) dX2_appliedPart_177 rfl (Nat.le_of_ble_eq_true rfl) (Nat.le_of_ble_eq_true rfl) ⟨Nat.le_refl _, Nat.le_add_right _ _⟩ ⟨_, rfl, (by omega), ⟨m9, q9, h9, fun S β hβ hG E => ap_c hG E hm ht (by omega) (ap_end (fun S t h => apO_f h) hG E C hm ht (Or.inr ⟨by rw [show J 8 t = J 8 t from rfl]; omega, rfl, rfl⟩) (Or.inr ⟨by rw [show J 8 t = J 8 t from rfl]; omega, rfl, rfl⟩) (Or.inl ⟨by omega, g_150, hz_150, fun S9 h9 E9 => x_150 S9 β (fun v a c => by rw [u_150]; exact hβ v a c) h9 E9⟩) (by rw [show J 7 t = J_150 7 t from (((q_150).2.2.2.1.1 t ht.1 ht.2).1).symm]; exact p_9))⟩⟩
        · refine tz_iconst (pc := 130) dX2_appliedPart_130 ?_
          refine tz_goto (pc := 131) (tgt := 153) dX2_appliedPart_131 (by decide) ?_
          refine tz_istore (pc := 153) (L2 := [_, _, _, _, _, _, _, _, _]) dX2_appliedPart_153 (by decide) rfl ?_
          refine tz_aload_n (pc := 155) dX2_appliedPart_155 rfl rfl ?_
          refine tz_fR (pc := 156) dX2_appliedPart_156 fl_X2_28 r_141_0 ?_
          refine tz_aload_n (pc := 159) dX2_appliedPart_159 rfl rfl ?_
          refine tz_fR (pc := 160) dX2_appliedPart_160 fl_X2_28 r_141_0 ?_
          refine tz_fR (pc := 163) dX2_appliedPart_163 fl_X2_42 r_6_1 ?_
          refine tz_iload_n (pc := 166) dX2_appliedPart_166 rfl rfl ?_
          refine tz_aL (pc := 167) (z := t) (v := (J 7 t)) dX2_appliedPart_167 a_7 rfl (by omega) rfl (fun r_167 => ?_)
          refine tz_iload (pc := 168) dX2_appliedPart_168 rfl ?_
          refine tz_iload (pc := 170) dX2_appliedPart_170 rfl ?_
          refine tz_iload (pc := 172) dX2_appliedPart_172 rfl ?_
          refine tz_cV (pc := 174) (c_made hl n _ _ _ _ _ (by omega) (by omega) (by omega) (by omega) m ((GR.rf C hm)).2.1 ((GR.rf C hm)).2.2.1 (by have := ((GR.rf C hm)).2.1.ar (t := t) (by omega) (by have := ((GR.rf C hm)).1; omega); omega) (ltA_of (by omega) (by omega) (by omega))) vl_X2_52 dX2_appliedPart_174 o_6 rfl rfl (Nat.le_of_ble_eq_true rfl) ⟨(Nat.le_of_ble_eq_true rfl), (Nat.le_of_ble_eq_true rfl)⟩ rfl rfl (Nat.le_of_ble_eq_true rfl) (Nat.le_of_ble_eq_true rfl) (fun r9 J_174 hq9 => ?_)
          obtain ⟨z_174, rfl, hz_174, p_9⟩ := hq9
          obtain ⟨m9, g9, h9⟩ := GR.made p_9 (by omega)
          have q9 := GR.tr (GR.rf C hm) g9
          exact tz_iret (pc := 177) (z := z_174) dX2_appliedPart_177 rfl (Nat.le_of_ble_eq_true rfl) (Nat.le_of_ble_eq_true rfl) ⟨Nat.le_refl _, Nat.le_add_right _ _⟩ ⟨_, rfl, (by omega), ⟨m9, q9, h9, fun S β hβ hG E => ap_c hG E hm ht (by omega) (ap_end (fun S t h => apO_f h) hG E C hm ht (Or.inr ⟨by rw [show J 8 t = J 8 t from rfl]; omega, rfl, rfl⟩) (Or.inr ⟨by rw [show J 8 t = J 8 t from rfl]; omega, rfl, rfl⟩) (Or.inr ⟨by rw [show J 8 t = J 8 t from rfl]; omega, rfl, rfl⟩) (by rw [show J 7 t = J 7 t from rfl]; exact p_9))⟩⟩

set_option maxHeartbeats 4000000 in
set_option maxRecDepth 100000 in
theorem x_app140_1 {l : Launch} {G : tb_G} (hl : l.stackTraces = false) (n : Nat) (J : zJ) (t : Int) (hr_t : -2147483648 ≤ t ∧ t < 2147483648) (m : Int) (C : CT J m) (hm : J 6 12 = m) (ht : 0 ≤ t ∧ t < m) (hr : rOK J 140 0 m) : tz_Ok l G M_X2_appliedPart 8 0 0 [.ref 141, zi t, .ref 140, zi 0, zi 1] n J (zqi (fun z J' => ∃ m', GR J' J m m' ∧ (z = -3 ∨ (0 ≤ z ∧ z < m')) ∧ ∀ (S : zJ) (β : Int → Int), (∀ v, 0 ≤ v → v < 8 → β v = J 140 (0 + v)) → S 164 21 = 0 → A0 J S → EXO (apO β 6 S t) z J')) zN := by
  refine tz_Ok.of hl (by decide +kernel) rfl (tb_c1 rfl) (Nat.le_of_ble_eq_true rfl) ?_
  show tz_At l G M_X2_appliedPart (tb_rm 8 0 0) none (tb_ZM G 0 0 (zQ n 0 (zqi (fun z J' => ∃ m', GR J' J m m' ∧ (z = -3 ∨ (0 ≤ z ∧ z < m')) ∧ ∀ (S : zJ) (β : Int → Int), (∀ v, 0 ≤ v → v < 8 → β v = J 140 (0 + v)) → S 164 21 = 0 → A0 J S → EXO (apO β 6 S t) z J'))) (zX n 0 zN)) 0 0 n J 0 [some (.ref 141), some (zi t), some (.ref 140), some (zi 0), some (zi 1), none, none, none, none] []
  have hb := C.told
  have ha := C.ar ht.1 ht.2
  refine tz_iload (pc := 0) dX2_appliedPart_0 rfl ?_
  refine tz_bipush (pc := 2) dX2_appliedPart_2 (by decide) ?_
  refine tz_icmp_leT (pc := 4) (tgt := 10) (by decide) dX2_appliedPart_4 (by decide) (by decide) (by decide) ?_
  refine tz_aload_n (pc := 10) dX2_appliedPart_10 rfl rfl ?_
  refine tz_fR (pc := 11) dX2_appliedPart_11 fl_X2_28 r_141_0 ?_
  refine tz_iload_n (pc := 14) dX2_appliedPart_14 rfl rfl ?_
  refine tz_cV (pc := 15) (c_isVar hl n _ _ (by omega) (by omega)) vl_X2_36 dX2_appliedPart_15 o_6 rfl rfl (Nat.le_of_ble_eq_true rfl) ⟨(Nat.le_of_ble_eq_true rfl), (Nat.le_of_ble_eq_true rfl)⟩ rfl rfl (Nat.le_of_ble_eq_true rfl) (Nat.le_of_ble_eq_true rfl) (fun r9 J_15 hq9 => ?_)
  obtain ⟨z_15, rfl, hz_15, rfl, rfl⟩ := hq9
  by_cases hw_18 : J 7 t < 0
  · rw [show (if J 7 t < 0 then 1 else 0 : Int) = 1 from if_pos hw_18]
    refine tz_if_eqF (pc := 18) (tgt := 51) (by decide) dX2_appliedPart_18 (by decide) (by decide) ?_
    refine tz_aload_n (pc := 21) dX2_appliedPart_21 rfl rfl ?_
    refine tz_iload_n (pc := 22) dX2_appliedPart_22 rfl rfl ?_
    refine tz_aload_n (pc := 23) dX2_appliedPart_23 rfl rfl ?_
    refine tz_fR (pc := 24) dX2_appliedPart_24 fl_X2_28 r_141_0 ?_
    refine tz_fR (pc := 27) dX2_appliedPart_27 fl_X2_42 r_6_1 ?_
    refine tz_iload_n (pc := 30) dX2_appliedPart_30 rfl rfl ?_
    refine tz_aL (pc := 31) (z := t) (v := (J 7 t)) dX2_appliedPart_31 a_7 rfl (by omega) rfl (fun r_31 => ?_)
    refine tz_iconst (pc := 32) dX2_appliedPart_32 ?_
    refine tz_ixor (pc := 33) (v := -1 - J 7 t) dX2_appliedPart_33 (z_nn (by omega)) ?_
    refine tz_iadd (pc := 34) (v := 0 + (-1 - J 7 t)) dX2_appliedPart_34 rfl ?_
    have hv := hr (-1 - J 7 t) (by omega) (by omega)
    refine tz_aL (pc := 35) (z := (0 + (-1 - J 7 t))) (v := (J 140 (0 + (-1 - J 7 t)))) dX2_appliedPart_35 a_140 rfl (by omega) rfl (fun r_35 => ?_)
    refine tz_istore (pc := 36) (L2 := [_, _, _, _, _, _, _, _, _]) dX2_appliedPart_36 (by decide) rfl ?_
    refine tz_iload (pc := 38) dX2_appliedPart_38 rfl ?_
    refine tz_iconst (pc := 40) dX2_appliedPart_40 ?_
    refine tz_icmp_ne (pc := 41) (tgt := 48) dX2_appliedPart_41 (by decide) (by omega) (by decide) (fun h_41 => ?_) (fun h_41 => ?_)
    · refine tz_iload (pc := 48) dX2_appliedPart_48 rfl ?_
      exact tz_iret (pc := 50) (z := (J 140 (0 + (-1 - J 7 t)))) dX2_appliedPart_50 rfl (Nat.le_of_ble_eq_true rfl) (Nat.le_of_ble_eq_true rfl) ⟨Nat.le_refl _, Nat.le_add_right _ _⟩ ⟨_, rfl, (by omega), ⟨m, GR.rf C hm, Or.inr (by omega), fun S β hβ hG E => ap_v hG E hm ht (by omega) (by omega) (by have := hβ (-1 - J 7 t) (by omega) (by omega); rw [this]; omega)⟩⟩
    · refine tz_iload_n (pc := 44) dX2_appliedPart_44 rfl rfl ?_
      refine tz_goto (pc := 45) (tgt := 50) dX2_appliedPart_45 (by decide) ?_
      exact tz_iret (pc := 50) (z := t) dX2_appliedPart_50 rfl (Nat.le_of_ble_eq_true rfl) (Nat.le_of_ble_eq_true rfl) ⟨Nat.le_refl _, Nat.le_add_right _ _⟩ ⟨_, rfl, (by omega), ⟨m, GR.rf C hm, Or.inr (by omega), fun S β hβ hG E => ap_v hG E hm ht (by omega) (by omega) (by have := hβ (-1 - J 7 t) (by omega) (by omega); rw [this]; omega)⟩⟩
  · rw [show (if J 7 t < 0 then 1 else 0 : Int) = 0 from if_neg hw_18]
    refine tz_if_eqT (pc := 18) (tgt := 51) (by decide) dX2_appliedPart_18 (by decide) (by decide) ?_
    refine tz_aload_n (pc := 51) dX2_appliedPart_51 rfl rfl ?_
    refine tz_fR (pc := 52) dX2_appliedPart_52 fl_X2_28 r_141_0 ?_
    refine tz_fR (pc := 55) dX2_appliedPart_55 fl_X2_45 r_6_2 ?_
    refine tz_iload_n (pc := 58) dX2_appliedPart_58 rfl rfl ?_
    refine tz_aL (pc := 59) (z := t) (v := (J 8 t)) dX2_appliedPart_59 a_8 rfl (by omega) rfl (fun r_59 => ?_)
    refine tz_istore (pc := 60) (L2 := [_, _, _, _, _, _, _, _, _]) dX2_appliedPart_60 (by decide) rfl ?_
    refine tz_iload (pc := 62) dX2_appliedPart_62 rfl ?_
    refine tz_iconst (pc := 64) dX2_appliedPart_64 ?_
    refine tz_icmp_ge (pc := 65) (tgt := 72) dX2_appliedPart_65 (by decide) (by omega) (by decide) (fun h_65 => ?_) (fun h_65 => ?_)
    · refine tz_aload_n (pc := 72) dX2_appliedPart_72 rfl rfl ?_
      refine tz_aload_n (pc := 73) dX2_appliedPart_73 rfl rfl ?_
      refine tz_fR (pc := 74) dX2_appliedPart_74 fl_X2_28 r_141_0 ?_
      refine tz_iload_n (pc := 77) dX2_appliedPart_77 rfl rfl ?_
      refine tz_iconst (pc := 78) dX2_appliedPart_78 ?_
      refine tz_cV (pc := 79) (c_arg hl n _ _ _ (by omega) (by decide) (by omega)) vl_X2_48 dX2_appliedPart_79 o_6 rfl rfl (Nat.le_of_ble_eq_true rfl) ⟨(Nat.le_of_ble_eq_true rfl), (Nat.le_of_ble_eq_true rfl)⟩ rfl rfl (Nat.le_of_ble_eq_true rfl) (Nat.le_of_ble_eq_true rfl) (fun r9 J_79 hq9 => ?_)
      obtain ⟨z_79, rfl, hz_79, rfl, rfl⟩ := hq9
      refine tz_aload_n (pc := 82) dX2_appliedPart_82 rfl rfl ?_
      refine tz_iload_n (pc := 83) dX2_appliedPart_83 rfl rfl ?_
      refine tz_iload (pc := 84) dX2_appliedPart_84 rfl ?_
      refine tz_iconst (pc := 86) dX2_appliedPart_86 ?_
      refine tz_iadd (pc := 87) (v := 2) dX2_appliedPart_87 (by decide) ?_
      have b_88 := GR.arg (GR.rf C hm) C ht (i := 0) (by omega)
      have c_88 := ((GR.rf C hm)).1
      refine tz_cV (pc := 88) (x_app140_2 hl n _ _ (by omega) m ((GR.rf C hm)).2.1 ((GR.rf C hm)).2.2.1 (by omega) (GR.row (GR.rf C hm) rfl hr)) vl_X2_32 dX2_appliedPart_88 o_141 rfl rfl (Nat.le_of_ble_eq_true rfl) ⟨(Nat.le_of_ble_eq_true rfl), (Nat.le_of_ble_eq_true rfl)⟩ rfl rfl (Nat.le_of_ble_eq_true rfl) (Nat.le_of_ble_eq_true rfl) (fun r9 J_88 hq9 => ?_)
      obtain ⟨z_88, rfl, hz_88, m_88, g_88, hz_88, x_88⟩ := hq9
      have q_88 := GR.tr (GR.rf C hm) g_88
      have d_88 := q_88.1
      have e_88 := g_88.1
      have u_88 : J 140 = J 140 := ((GR.rf C hm)).2.2.2.2 140 rfl
      have k8_88 : J 8 t = J 8 t := (((GR.rf C hm)).2.2.2.1.1 t ht.1 ht.2).2.1
      refine tz_istore (pc := 91) (L2 := [_, _, _, _, _, _, _, _, _]) dX2_appliedPart_91 (by decide) rfl ?_
      refine tz_iload (pc := 93) dX2_appliedPart_93 rfl ?_
      refine tz_iconst (pc := 95) dX2_appliedPart_95 ?_
      refine tz_icmp_ge (pc := 96) (tgt := 103) dX2_appliedPart_96 (by decide) (by omega) (by decide) (fun h_96 => ?_) (fun h_96 => ?_)
      · refine tz_aload_n (pc := 103) dX2_appliedPart_103 rfl rfl ?_
        refine tz_aload_n (pc := 104) dX2_appliedPart_104 rfl rfl ?_
        refine tz_fR (pc := 105) dX2_appliedPart_105 fl_X2_28 r_141_0 ?_
        refine tz_iload_n (pc := 108) dX2_appliedPart_108 rfl rfl ?_
        refine tz_iconst (pc := 109) dX2_appliedPart_109 ?_
        refine tz_cV (pc := 110) (c_arg hl n _ _ _ (by omega) (by decide) (by omega)) vl_X2_48 dX2_appliedPart_110 o_6 rfl rfl (Nat.le_of_ble_eq_true rfl) ⟨(Nat.le_of_ble_eq_true rfl), (Nat.le_of_ble_eq_true rfl)⟩ rfl rfl (Nat.le_of_ble_eq_true rfl) (Nat.le_of_ble_eq_true rfl) (fun r9 J_110 hq9 => ?_)
        obtain ⟨z_110, rfl, hz_110, rfl, rfl⟩ := hq9
        refine tz_aload_n (pc := 113) dX2_appliedPart_113 rfl rfl ?_
        refine tz_iload_n (pc := 114) dX2_appliedPart_114 rfl rfl ?_
        refine tz_iload (pc := 115) dX2_appliedPart_115 rfl ?_
        refine tz_iconst (pc := 117) dX2_appliedPart_117 ?_
        refine tz_iadd (pc := 118) (v := 2) dX2_appliedPart_118 (by decide) ?_
        have b_119 := GR.arg q_88 C ht (i := 1) (by omega)
        have c_119 := (q_88).1
        refine tz_cV (pc := 119) (x_app140_2 hl n _ _ (by omega) m_88 (q_88).2.1 (q_88).2.2.1 (by omega) (GR.row q_88 rfl hr)) vl_X2_32 dX2_appliedPart_119 o_141 rfl rfl (Nat.le_of_ble_eq_true rfl) ⟨(Nat.le_of_ble_eq_true rfl), (Nat.le_of_ble_eq_true rfl)⟩ rfl rfl (Nat.le_of_ble_eq_true rfl) (Nat.le_of_ble_eq_true rfl) (fun r9 J_119 hq9 => ?_)
        obtain ⟨z_119, rfl, hz_119, m_119, g_119, hz_119, x_119⟩ := hq9
        have q_119 := GR.tr q_88 g_119
        have d_119 := q_119.1
        have e_119 := g_119.1
        have u_119 : J_88 140 = J 140 := (q_88).2.2.2.2 140 rfl
        have k8_119 : J_88 8 t = J 8 t := ((q_88).2.2.2.1.1 t ht.1 ht.2).2.1
        refine tz_istore (pc := 122) (L2 := [_, _, _, _, _, _, _, _, _]) dX2_appliedPart_122 (by decide) rfl ?_
        refine tz_iload (pc := 124) dX2_appliedPart_124 rfl ?_
        refine tz_iconst (pc := 126) dX2_appliedPart_126 ?_
        refine tz_icmp_ge (pc := 127) (tgt := 134) dX2_appliedPart_127 (by decide) (by omega) (by decide) (fun h_127 => ?_) (fun h_127 => ?_)
        · refine tz_aload_n (pc := 134) dX2_appliedPart_134 rfl rfl ?_
          refine tz_aload_n (pc := 135) dX2_appliedPart_135 rfl rfl ?_
          refine tz_fR (pc := 136) dX2_appliedPart_136 fl_X2_28 r_141_0 ?_
          refine tz_iload_n (pc := 139) dX2_appliedPart_139 rfl rfl ?_
          refine tz_iconst (pc := 140) dX2_appliedPart_140 ?_
          refine tz_cV (pc := 141) (c_arg hl n _ _ _ (by omega) (by decide) (by omega)) vl_X2_48 dX2_appliedPart_141 o_6 rfl rfl (Nat.le_of_ble_eq_true rfl) ⟨(Nat.le_of_ble_eq_true rfl), (Nat.le_of_ble_eq_true rfl)⟩ rfl rfl (Nat.le_of_ble_eq_true rfl) (Nat.le_of_ble_eq_true rfl) (fun r9 J_141 hq9 => ?_)
          obtain ⟨z_141, rfl, hz_141, rfl, rfl⟩ := hq9
          refine tz_aload_n (pc := 144) dX2_appliedPart_144 rfl rfl ?_
          refine tz_iload_n (pc := 145) dX2_appliedPart_145 rfl rfl ?_
          refine tz_iload (pc := 146) dX2_appliedPart_146 rfl ?_
          refine tz_iconst (pc := 148) dX2_appliedPart_148 ?_
          refine tz_iadd (pc := 149) (v := 2) dX2_appliedPart_149 (by decide) ?_
          have b_150 := GR.arg q_119 C ht (i := 2) (by omega)
          have c_150 := (q_119).1
          refine tz_cV (pc := 150) (x_app140_2 hl n _ _ (by omega) m_119 (q_119).2.1 (q_119).2.2.1 (by omega) (GR.row q_119 rfl hr)) vl_X2_32 dX2_appliedPart_150 o_141 rfl rfl (Nat.le_of_ble_eq_true rfl) ⟨(Nat.le_of_ble_eq_true rfl), (Nat.le_of_ble_eq_true rfl)⟩ rfl rfl (Nat.le_of_ble_eq_true rfl) (Nat.le_of_ble_eq_true rfl) (fun r9 J_150 hq9 => ?_)
          obtain ⟨z_150, rfl, hz_150, m_150, g_150, hz_150, x_150⟩ := hq9
          have q_150 := GR.tr q_119 g_150
          have d_150 := q_150.1
          have e_150 := g_150.1
          have u_150 : J_119 140 = J 140 := (q_119).2.2.2.2 140 rfl
          have k8_150 : J_119 8 t = J 8 t := ((q_119).2.2.2.1.1 t ht.1 ht.2).2.1
          refine tz_istore (pc := 153) (L2 := [_, _, _, _, _, _, _, _, _]) dX2_appliedPart_153 (by decide) rfl ?_
          refine tz_aload_n (pc := 155) dX2_appliedPart_155 rfl rfl ?_
          refine tz_fR (pc := 156) dX2_appliedPart_156 fl_X2_28 r_141_0 ?_
          refine tz_aload_n (pc := 159) dX2_appliedPart_159 rfl rfl ?_
          refine tz_fR (pc := 160) dX2_appliedPart_160 fl_X2_28 r_141_0 ?_
          refine tz_fR (pc := 163) dX2_appliedPart_163 fl_X2_42 r_6_1 ?_
          refine tz_iload_n (pc := 166) dX2_appliedPart_166 rfl rfl ?_
          refine tz_aL (pc := 167) (z := t) (v := (J_150 7 t)) dX2_appliedPart_167 a_7 rfl (by omega) rfl (fun r_167 => ?_)
          refine tz_iload (pc := 168) dX2_appliedPart_168 rfl ?_
          refine tz_iload (pc := 170) dX2_appliedPart_170 rfl ?_
          refine tz_iload (pc := 172) dX2_appliedPart_172 rfl ?_
          refine tz_cV (pc := 174) (c_made hl n _ _ _ _ _ (by omega) (by omega) (by omega) (by omega) m_150 (q_150).2.1 (q_150).2.2.1 (by have := (q_150).2.1.ar (t := t) (by omega) (by have := (q_150).1; omega); omega) (ltA_of (by omega) (by omega) (by omega))) vl_X2_52 dX2_appliedPart_174 o_6 rfl rfl (Nat.le_of_ble_eq_true rfl) ⟨(Nat.le_of_ble_eq_true rfl), (Nat.le_of_ble_eq_true rfl)⟩ rfl rfl (Nat.le_of_ble_eq_true rfl) (Nat.le_of_ble_eq_true rfl) (fun r9 J_174 hq9 => ?_)
          obtain ⟨z_174, rfl, hz_174, p_9⟩ := hq9
          obtain ⟨m9, g9, h9⟩ := GR.made p_9 (by omega)
          have q9 := GR.tr q_150 g9
          exact tz_iret (pc := 177) (z := z_174) dX2_appliedPart_177 rfl (Nat.le_of_ble_eq_true rfl) (Nat.le_of_ble_eq_true rfl) ⟨Nat.le_refl _, Nat.le_add_right _ _⟩ ⟨_, rfl, (by omega), ⟨m9, q9, h9, fun S β hβ hG E => ap_c hG E hm ht (by omega) (ap_end (fun S t h => apO_f h) hG E C hm ht (Or.inl ⟨by omega, g_88, hz_88, fun S9 h9 E9 => x_88 S9 β (fun v a c => by rw [u_88]; exact hβ v a c) h9 E9⟩) (Or.inl ⟨by omega, g_119, hz_119, fun S9 h9 E9 => x_119 S9 β (fun v a c => by rw [u_119]; exact hβ v a c) h9 E9⟩) (Or.inl ⟨by omega, g_150, hz_150, fun S9 h9 E9 => x_150 S9 β (fun v a c => by rw [u_150]; exact hβ v a c) h9 E9⟩) (by rw [show J 7 t = J_150 7 t from (((q_150).2.2.2.1.1 t ht.1 ht.2).1).symm]; exact p_9))⟩⟩
        · refine tz_iconst (pc := 130) dX2_appliedPart_130 ?_
          refine tz_goto (pc := 131) (tgt := 153) dX2_appliedPart_131 (by decide) ?_
          refine tz_istore (pc := 153) (L2 := [_, _, _, _, _, _, _, _, _]) dX2_appliedPart_153 (by decide) rfl ?_
          refine tz_aload_n (pc := 155) dX2_appliedPart_155 rfl rfl ?_
          refine tz_fR (pc := 156) dX2_appliedPart_156 fl_X2_28 r_141_0 ?_
          refine tz_aload_n (pc := 159) dX2_appliedPart_159 rfl rfl ?_
          refine tz_fR (pc := 160) dX2_appliedPart_160 fl_X2_28 r_141_0 ?_
          refine tz_fR (pc := 163) dX2_appliedPart_163 fl_X2_42 r_6_1 ?_
          refine tz_iload_n (pc := 166) dX2_appliedPart_166 rfl rfl ?_
          refine tz_aL (pc := 167) (z := t) (v := (J_119 7 t)) dX2_appliedPart_167 a_7 rfl (by omega) rfl (fun r_167 => ?_)
          refine tz_iload (pc := 168) dX2_appliedPart_168 rfl ?_
          refine tz_iload (pc := 170) dX2_appliedPart_170 rfl ?_
          refine tz_iload (pc := 172) dX2_appliedPart_172 rfl ?_
          refine tz_cV (pc := 174) (c_made hl n _ _ _ _ _ (by omega) (by omega) (by omega) (by omega) m_119 (q_119).2.1 (q_119).2.2.1 (by have := (q_119).2.1.ar (t := t) (by omega) (by have := (q_119).1; omega); omega) (ltA_of (by omega) (by omega) (by omega))) vl_X2_52 dX2_appliedPart_174 o_6 rfl rfl (Nat.le_of_ble_eq_true rfl) ⟨(Nat.le_of_ble_eq_true rfl), (Nat.le_of_ble_eq_true rfl)⟩ rfl rfl (Nat.le_of_ble_eq_true rfl) (Nat.le_of_ble_eq_true rfl) (fun r9 J_174 hq9 => ?_)
          obtain ⟨z_174, rfl, hz_174, p_9⟩ := hq9
          obtain ⟨m9, g9, h9⟩ := GR.made p_9 (by omega)
          have q9 := GR.tr q_119 g9
          exact tz_iret (pc := 177) (z := z_174) dX2_appliedPart_177 rfl (Nat.le_of_ble_eq_true rfl) (Nat.le_of_ble_eq_true rfl) ⟨Nat.le_refl _, Nat.le_add_right _ _⟩ ⟨_, rfl, (by omega), ⟨m9, q9, h9, fun S β hβ hG E => ap_c hG E hm ht (by omega) (ap_end (fun S t h => apO_f h) hG E C hm ht (Or.inl ⟨by omega, g_88, hz_88, fun S9 h9 E9 => x_88 S9 β (fun v a c => by rw [u_88]; exact hβ v a c) h9 E9⟩) (Or.inl ⟨by omega, g_119, hz_119, fun S9 h9 E9 => x_119 S9 β (fun v a c => by rw [u_119]; exact hβ v a c) h9 E9⟩) (Or.inr ⟨by rw [show J_119 8 t = J 8 t from ((q_119).2.2.2.1.1 t ht.1 ht.2).2.1]; omega, rfl, rfl⟩) (by rw [show J 7 t = J_119 7 t from (((q_119).2.2.2.1.1 t ht.1 ht.2).1).symm]; exact p_9))⟩⟩
      · refine tz_iconst (pc := 99) dX2_appliedPart_99 ?_
        refine tz_goto (pc := 100) (tgt := 122) dX2_appliedPart_100 (by decide) ?_
        refine tz_istore (pc := 122) (L2 := [_, _, _, _, _, _, _, _, _]) dX2_appliedPart_122 (by decide) rfl ?_
        refine tz_iload (pc := 124) dX2_appliedPart_124 rfl ?_
        refine tz_iconst (pc := 126) dX2_appliedPart_126 ?_
        refine tz_icmp_ge (pc := 127) (tgt := 134) dX2_appliedPart_127 (by decide) (by omega) (by decide) (fun h_127 => ?_) (fun h_127 => ?_)
        · refine tz_aload_n (pc := 134) dX2_appliedPart_134 rfl rfl ?_
          refine tz_aload_n (pc := 135) dX2_appliedPart_135 rfl rfl ?_
          refine tz_fR (pc := 136) dX2_appliedPart_136 fl_X2_28 r_141_0 ?_
          refine tz_iload_n (pc := 139) dX2_appliedPart_139 rfl rfl ?_
          refine tz_iconst (pc := 140) dX2_appliedPart_140 ?_
          refine tz_cV (pc := 141) (c_arg hl n _ _ _ (by omega) (by decide) (by omega)) vl_X2_48 dX2_appliedPart_141 o_6 rfl rfl (Nat.le_of_ble_eq_true rfl) ⟨(Nat.le_of_ble_eq_true rfl), (Nat.le_of_ble_eq_true rfl)⟩ rfl rfl (Nat.le_of_ble_eq_true rfl) (Nat.le_of_ble_eq_true rfl) (fun r9 J_141 hq9 => ?_)
          obtain ⟨z_141, rfl, hz_141, rfl, rfl⟩ := hq9
          refine tz_aload_n (pc := 144) dX2_appliedPart_144 rfl rfl ?_
          refine tz_iload_n (pc := 145) dX2_appliedPart_145 rfl rfl ?_
          refine tz_iload (pc := 146) dX2_appliedPart_146 rfl ?_
          refine tz_iconst (pc := 148) dX2_appliedPart_148 ?_
          refine tz_iadd (pc := 149) (v := 2) dX2_appliedPart_149 (by decide) ?_
          have b_150 := GR.arg q_88 C ht (i := 2) (by omega)
          have c_150 := (q_88).1
          refine tz_cV (pc := 150) (x_app140_2 hl n _ _ (by omega) m_88 (q_88).2.1 (q_88).2.2.1 (by omega) (GR.row q_88 rfl hr)) vl_X2_32 dX2_appliedPart_150 o_141 rfl rfl (Nat.le_of_ble_eq_true rfl) ⟨(Nat.le_of_ble_eq_true rfl), (Nat.le_of_ble_eq_true rfl)⟩ rfl rfl (Nat.le_of_ble_eq_true rfl) (Nat.le_of_ble_eq_true rfl) (fun r9 J_150 hq9 => ?_)
          obtain ⟨z_150, rfl, hz_150, m_150, g_150, hz_150, x_150⟩ := hq9
          have q_150 := GR.tr q_88 g_150
          have d_150 := q_150.1
          have e_150 := g_150.1
          have u_150 : J_88 140 = J 140 := (q_88).2.2.2.2 140 rfl
          have k8_150 : J_88 8 t = J 8 t := ((q_88).2.2.2.1.1 t ht.1 ht.2).2.1
          refine tz_istore (pc := 153) (L2 := [_, _, _, _, _, _, _, _, _]) dX2_appliedPart_153 (by decide) rfl ?_
          refine tz_aload_n (pc := 155) dX2_appliedPart_155 rfl rfl ?_
          refine tz_fR (pc := 156) dX2_appliedPart_156 fl_X2_28 r_141_0 ?_
          refine tz_aload_n (pc := 159) dX2_appliedPart_159 rfl rfl ?_
          refine tz_fR (pc := 160) dX2_appliedPart_160 fl_X2_28 r_141_0 ?_
          refine tz_fR (pc := 163) dX2_appliedPart_163 fl_X2_42 r_6_1 ?_
          refine tz_iload_n (pc := 166) dX2_appliedPart_166 rfl rfl ?_
          refine tz_aL (pc := 167) (z := t) (v := (J_150 7 t)) dX2_appliedPart_167 a_7 rfl (by omega) rfl (fun r_167 => ?_)
          refine tz_iload (pc := 168) dX2_appliedPart_168 rfl ?_
          refine tz_iload (pc := 170) dX2_appliedPart_170 rfl ?_
          refine tz_iload (pc := 172) dX2_appliedPart_172 rfl ?_
          refine tz_cV (pc := 174) (c_made hl n _ _ _ _ _ (by omega) (by omega) (by omega) (by omega) m_150 (q_150).2.1 (q_150).2.2.1 (by have := (q_150).2.1.ar (t := t) (by omega) (by have := (q_150).1; omega); omega) (ltA_of (by omega) (by omega) (by omega))) vl_X2_52 dX2_appliedPart_174 o_6 rfl rfl (Nat.le_of_ble_eq_true rfl) ⟨(Nat.le_of_ble_eq_true rfl), (Nat.le_of_ble_eq_true rfl)⟩ rfl rfl (Nat.le_of_ble_eq_true rfl) (Nat.le_of_ble_eq_true rfl) (fun r9 J_174 hq9 => ?_)
          obtain ⟨z_174, rfl, hz_174, p_9⟩ := hq9
          obtain ⟨m9, g9, h9⟩ := GR.made p_9 (by omega)
          have q9 := GR.tr q_150 g9
          exact tz_iret (pc := 177) (z := z_174) dX2_appliedPart_177 rfl (Nat.le_of_ble_eq_true rfl) (Nat.le_of_ble_eq_true rfl) ⟨Nat.le_refl _, Nat.le_add_right _ _⟩ ⟨_, rfl, (by omega), ⟨m9, q9, h9, fun S β hβ hG E => ap_c hG E hm ht (by omega) (ap_end (fun S t h => apO_f h) hG E C hm ht (Or.inl ⟨by omega, g_88, hz_88, fun S9 h9 E9 => x_88 S9 β (fun v a c => by rw [u_88]; exact hβ v a c) h9 E9⟩) (Or.inr ⟨by rw [show J_88 8 t = J 8 t from ((q_88).2.2.2.1.1 t ht.1 ht.2).2.1]; omega, rfl, rfl⟩) (Or.inl ⟨by omega, g_150, hz_150, fun S9 h9 E9 => x_150 S9 β (fun v a c => by rw [u_150]; exact hβ v a c) h9 E9⟩) (by rw [show J 7 t = J_150 7 t from (((q_150).2.2.2.1.1 t ht.1 ht.2).1).symm]; exact p_9))⟩⟩
        · refine tz_iconst (pc := 130) dX2_appliedPart_130 ?_
          refine tz_goto (pc := 131) (tgt := 153) dX2_appliedPart_131 (by decide) ?_
          refine tz_istore (pc := 153) (L2 := [_, _, _, _, _, _, _, _, _]) dX2_appliedPart_153 (by decide) rfl ?_
          refine tz_aload_n (pc := 155) dX2_appliedPart_155 rfl rfl ?_
          refine tz_fR (pc := 156) dX2_appliedPart_156 fl_X2_28 r_141_0 ?_
          refine tz_aload_n (pc := 159) dX2_appliedPart_159 rfl rfl ?_
          refine tz_fR (pc := 160) dX2_appliedPart_160 fl_X2_28 r_141_0 ?_
          refine tz_fR (pc := 163) dX2_appliedPart_163 fl_X2_42 r_6_1 ?_
          refine tz_iload_n (pc := 166) dX2_appliedPart_166 rfl rfl ?_
          refine tz_aL (pc := 167) (z := t) (v := (J_88 7 t)) dX2_appliedPart_167 a_7 rfl (by omega) rfl (fun r_167 => ?_)
          refine tz_iload (pc := 168) dX2_appliedPart_168 rfl ?_
          refine tz_iload (pc := 170) dX2_appliedPart_170 rfl ?_
          refine tz_iload (pc := 172) dX2_appliedPart_172 rfl ?_
          refine tz_cV (pc := 174) (c_made hl n _ _ _ _ _ (by omega) (by omega) (by omega) (by omega) m_88 (q_88).2.1 (q_88).2.2.1 (by have := (q_88).2.1.ar (t := t) (by omega) (by have := (q_88).1; omega); omega) (ltA_of (by omega) (by omega) (by omega))) vl_X2_52 dX2_appliedPart_174 o_6 rfl rfl (Nat.le_of_ble_eq_true rfl) ⟨(Nat.le_of_ble_eq_true rfl), (Nat.le_of_ble_eq_true rfl)⟩ rfl rfl (Nat.le_of_ble_eq_true rfl) (Nat.le_of_ble_eq_true rfl) (fun r9 J_174 hq9 => ?_)
          obtain ⟨z_174, rfl, hz_174, p_9⟩ := hq9
          obtain ⟨m9, g9, h9⟩ := GR.made p_9 (by omega)
          have q9 := GR.tr q_88 g9
          exact tz_iret (pc := 177) (z := z_174) dX2_appliedPart_177 rfl (Nat.le_of_ble_eq_true rfl) (Nat.le_of_ble_eq_true rfl) ⟨Nat.le_refl _, Nat.le_add_right _ _⟩ ⟨_, rfl, (by omega), ⟨m9, q9, h9, fun S β hβ hG E => ap_c hG E hm ht (by omega) (ap_end (fun S t h => apO_f h) hG E C hm ht (Or.inl ⟨by omega, g_88, hz_88, fun S9 h9 E9 => x_88 S9 β (fun v a c => by rw [u_88]; exact hβ v a c) h9 E9⟩) (Or.inr ⟨by rw [show J_88 8 t = J 8 t from ((q_88).2.2.2.1.1 t ht.1 ht.2).2.1]; omega, rfl, rfl⟩) (Or.inr ⟨by rw [show J_88 8 t = J 8 t from ((q_88).2.2.2.1.1 t ht.1 ht.2).2.1]; omega, rfl, rfl⟩) (by rw [show J 7 t = J_88 7 t from (((q_88).2.2.2.1.1 t ht.1 ht.2).1).symm]; exact p_9))⟩⟩
    · refine tz_iconst (pc := 68) dX2_appliedPart_68 ?_
      refine tz_goto (pc := 69) (tgt := 91) dX2_appliedPart_69 (by decide) ?_
      refine tz_istore (pc := 91) (L2 := [_, _, _, _, _, _, _, _, _]) dX2_appliedPart_91 (by decide) rfl ?_
      refine tz_iload (pc := 93) dX2_appliedPart_93 rfl ?_
      refine tz_iconst (pc := 95) dX2_appliedPart_95 ?_
      refine tz_icmp_ge (pc := 96) (tgt := 103) dX2_appliedPart_96 (by decide) (by omega) (by decide) (fun h_96 => ?_) (fun h_96 => ?_)
      · refine tz_aload_n (pc := 103) dX2_appliedPart_103 rfl rfl ?_
        refine tz_aload_n (pc := 104) dX2_appliedPart_104 rfl rfl ?_
        refine tz_fR (pc := 105) dX2_appliedPart_105 fl_X2_28 r_141_0 ?_
        refine tz_iload_n (pc := 108) dX2_appliedPart_108 rfl rfl ?_
        refine tz_iconst (pc := 109) dX2_appliedPart_109 ?_
        refine tz_cV (pc := 110) (c_arg hl n _ _ _ (by omega) (by decide) (by omega)) vl_X2_48 dX2_appliedPart_110 o_6 rfl rfl (Nat.le_of_ble_eq_true rfl) ⟨(Nat.le_of_ble_eq_true rfl), (Nat.le_of_ble_eq_true rfl)⟩ rfl rfl (Nat.le_of_ble_eq_true rfl) (Nat.le_of_ble_eq_true rfl) (fun r9 J_110 hq9 => ?_)
        obtain ⟨z_110, rfl, hz_110, rfl, rfl⟩ := hq9
        refine tz_aload_n (pc := 113) dX2_appliedPart_113 rfl rfl ?_
        refine tz_iload_n (pc := 114) dX2_appliedPart_114 rfl rfl ?_
        refine tz_iload (pc := 115) dX2_appliedPart_115 rfl ?_
        refine tz_iconst (pc := 117) dX2_appliedPart_117 ?_
        refine tz_iadd (pc := 118) (v := 2) dX2_appliedPart_118 (by decide) ?_
        have b_119 := GR.arg (GR.rf C hm) C ht (i := 1) (by omega)
        have c_119 := ((GR.rf C hm)).1
        refine tz_cV (pc := 119) (x_app140_2 hl n _ _ (by omega) m ((GR.rf C hm)).2.1 ((GR.rf C hm)).2.2.1 (by omega) (GR.row (GR.rf C hm) rfl hr)) vl_X2_32 dX2_appliedPart_119 o_141 rfl rfl (Nat.le_of_ble_eq_true rfl) ⟨(Nat.le_of_ble_eq_true rfl), (Nat.le_of_ble_eq_true rfl)⟩ rfl rfl (Nat.le_of_ble_eq_true rfl) (Nat.le_of_ble_eq_true rfl) (fun r9 J_119 hq9 => ?_)
        obtain ⟨z_119, rfl, hz_119, m_119, g_119, hz_119, x_119⟩ := hq9
        have q_119 := GR.tr (GR.rf C hm) g_119
        have d_119 := q_119.1
        have e_119 := g_119.1
        have u_119 : J 140 = J 140 := ((GR.rf C hm)).2.2.2.2 140 rfl
        have k8_119 : J 8 t = J 8 t := (((GR.rf C hm)).2.2.2.1.1 t ht.1 ht.2).2.1
        refine tz_istore (pc := 122) (L2 := [_, _, _, _, _, _, _, _, _]) dX2_appliedPart_122 (by decide) rfl ?_
        refine tz_iload (pc := 124) dX2_appliedPart_124 rfl ?_
        refine tz_iconst (pc := 126) dX2_appliedPart_126 ?_
        refine tz_icmp_ge (pc := 127) (tgt := 134) dX2_appliedPart_127 (by decide) (by omega) (by decide) (fun h_127 => ?_) (fun h_127 => ?_)
        · refine tz_aload_n (pc := 134) dX2_appliedPart_134 rfl rfl ?_
          refine tz_aload_n (pc := 135) dX2_appliedPart_135 rfl rfl ?_
          refine tz_fR (pc := 136) dX2_appliedPart_136 fl_X2_28 r_141_0 ?_
          refine tz_iload_n (pc := 139) dX2_appliedPart_139 rfl rfl ?_
          refine tz_iconst (pc := 140) dX2_appliedPart_140 ?_
          refine tz_cV (pc := 141) (c_arg hl n _ _ _ (by omega) (by decide) (by omega)) vl_X2_48 dX2_appliedPart_141 o_6 rfl rfl (Nat.le_of_ble_eq_true rfl) ⟨(Nat.le_of_ble_eq_true rfl), (Nat.le_of_ble_eq_true rfl)⟩ rfl rfl (Nat.le_of_ble_eq_true rfl) (Nat.le_of_ble_eq_true rfl) (fun r9 J_141 hq9 => ?_)
          obtain ⟨z_141, rfl, hz_141, rfl, rfl⟩ := hq9
          refine tz_aload_n (pc := 144) dX2_appliedPart_144 rfl rfl ?_
          refine tz_iload_n (pc := 145) dX2_appliedPart_145 rfl rfl ?_
          refine tz_iload (pc := 146) dX2_appliedPart_146 rfl ?_
          refine tz_iconst (pc := 148) dX2_appliedPart_148 ?_
          refine tz_iadd (pc := 149) (v := 2) dX2_appliedPart_149 (by decide) ?_
          have b_150 := GR.arg q_119 C ht (i := 2) (by omega)
          have c_150 := (q_119).1
          refine tz_cV (pc := 150) (x_app140_2 hl n _ _ (by omega) m_119 (q_119).2.1 (q_119).2.2.1 (by omega) (GR.row q_119 rfl hr)) vl_X2_32 dX2_appliedPart_150 o_141 rfl rfl (Nat.le_of_ble_eq_true rfl) ⟨(Nat.le_of_ble_eq_true rfl), (Nat.le_of_ble_eq_true rfl)⟩ rfl rfl (Nat.le_of_ble_eq_true rfl) (Nat.le_of_ble_eq_true rfl) (fun r9 J_150 hq9 => ?_)
          obtain ⟨z_150, rfl, hz_150, m_150, g_150, hz_150, x_150⟩ := hq9
          have q_150 := GR.tr q_119 g_150
          have d_150 := q_150.1
          have e_150 := g_150.1
          have u_150 : J_119 140 = J 140 := (q_119).2.2.2.2 140 rfl
          have k8_150 : J_119 8 t = J 8 t := ((q_119).2.2.2.1.1 t ht.1 ht.2).2.1
          refine tz_istore (pc := 153) (L2 := [_, _, _, _, _, _, _, _, _]) dX2_appliedPart_153 (by decide) rfl ?_
          refine tz_aload_n (pc := 155) dX2_appliedPart_155 rfl rfl ?_
          refine tz_fR (pc := 156) dX2_appliedPart_156 fl_X2_28 r_141_0 ?_
          refine tz_aload_n (pc := 159) dX2_appliedPart_159 rfl rfl ?_
          refine tz_fR (pc := 160) dX2_appliedPart_160 fl_X2_28 r_141_0 ?_
          refine tz_fR (pc := 163) dX2_appliedPart_163 fl_X2_42 r_6_1 ?_
          refine tz_iload_n (pc := 166) dX2_appliedPart_166 rfl rfl ?_
          refine tz_aL (pc := 167) (z := t) (v := (J_150 7 t)) dX2_appliedPart_167 a_7 rfl (by omega) rfl (fun r_167 => ?_)
          refine tz_iload (pc := 168) dX2_appliedPart_168 rfl ?_
          refine tz_iload (pc := 170) dX2_appliedPart_170 rfl ?_
          refine tz_iload (pc := 172) dX2_appliedPart_172 rfl ?_
          refine tz_cV (pc := 174) (c_made hl n _ _ _ _ _ (by omega) (by omega) (by omega) (by omega) m_150 (q_150).2.1 (q_150).2.2.1 (by have := (q_150).2.1.ar (t := t) (by omega) (by have := (q_150).1; omega); omega) (ltA_of (by omega) (by omega) (by omega))) vl_X2_52 dX2_appliedPart_174 o_6 rfl rfl (Nat.le_of_ble_eq_true rfl) ⟨(Nat.le_of_ble_eq_true rfl), (Nat.le_of_ble_eq_true rfl)⟩ rfl rfl (Nat.le_of_ble_eq_true rfl) (Nat.le_of_ble_eq_true rfl) (fun r9 J_174 hq9 => ?_)
          obtain ⟨z_174, rfl, hz_174, p_9⟩ := hq9
          obtain ⟨m9, g9, h9⟩ := GR.made p_9 (by omega)
          have q9 := GR.tr q_150 g9
          exact tz_iret (pc := 177) (z := z_174) dX2_appliedPart_177 rfl (Nat.le_of_ble_eq_true rfl) (Nat.le_of_ble_eq_true rfl) ⟨Nat.le_refl _, Nat.le_add_right _ _⟩ ⟨_, rfl, (by omega), ⟨m9, q9, h9, fun S β hβ hG E => ap_c hG E hm ht (by omega) (ap_end (fun S t h => apO_f h) hG E C hm ht (Or.inr ⟨by rw [show J 8 t = J 8 t from rfl]; omega, rfl, rfl⟩) (Or.inl ⟨by omega, g_119, hz_119, fun S9 h9 E9 => x_119 S9 β (fun v a c => by rw [u_119]; exact hβ v a c) h9 E9⟩) (Or.inl ⟨by omega, g_150, hz_150, fun S9 h9 E9 => x_150 S9 β (fun v a c => by rw [u_150]; exact hβ v a c) h9 E9⟩) (by rw [show J 7 t = J_150 7 t from (((q_150).2.2.2.1.1 t ht.1 ht.2).1).symm]; exact p_9))⟩⟩
        · refine tz_iconst (pc := 130) dX2_appliedPart_130 ?_
          refine tz_goto (pc := 131) (tgt := 153) dX2_appliedPart_131 (by decide) ?_
          refine tz_istore (pc := 153) (L2 := [_, _, _, _, _, _, _, _, _]) dX2_appliedPart_153 (by decide) rfl ?_
          refine tz_aload_n (pc := 155) dX2_appliedPart_155 rfl rfl ?_
          refine tz_fR (pc := 156) dX2_appliedPart_156 fl_X2_28 r_141_0 ?_
          refine tz_aload_n (pc := 159) dX2_appliedPart_159 rfl rfl ?_
          refine tz_fR (pc := 160) dX2_appliedPart_160 fl_X2_28 r_141_0 ?_
          refine tz_fR (pc := 163) dX2_appliedPart_163 fl_X2_42 r_6_1 ?_
          refine tz_iload_n (pc := 166) dX2_appliedPart_166 rfl rfl ?_
          refine tz_aL (pc := 167) (z := t) (v := (J_119 7 t)) dX2_appliedPart_167 a_7 rfl (by omega) rfl (fun r_167 => ?_)
          refine tz_iload (pc := 168) dX2_appliedPart_168 rfl ?_
          refine tz_iload (pc := 170) dX2_appliedPart_170 rfl ?_
          refine tz_iload (pc := 172) dX2_appliedPart_172 rfl ?_
          refine tz_cV (pc := 174) (c_made hl n _ _ _ _ _ (by omega) (by omega) (by omega) (by omega) m_119 (q_119).2.1 (q_119).2.2.1 (by have := (q_119).2.1.ar (t := t) (by omega) (by have := (q_119).1; omega); omega) (ltA_of (by omega) (by omega) (by omega))) vl_X2_52 dX2_appliedPart_174 o_6 rfl rfl (Nat.le_of_ble_eq_true rfl) ⟨(Nat.le_of_ble_eq_true rfl), (Nat.le_of_ble_eq_true rfl)⟩ rfl rfl (Nat.le_of_ble_eq_true rfl) (Nat.le_of_ble_eq_true rfl) (fun r9 J_174 hq9 => ?_)
          obtain ⟨z_174, rfl, hz_174, p_9⟩ := hq9
          obtain ⟨m9, g9, h9⟩ := GR.made p_9 (by omega)
          have q9 := GR.tr q_119 g9
          exact tz_iret (pc := 177) (z := z_174) dX2_appliedPart_177 rfl (Nat.le_of_ble_eq_true rfl) (Nat.le_of_ble_eq_true rfl) ⟨Nat.le_refl _, Nat.le_add_right _ _⟩ ⟨_, rfl, (by omega), ⟨m9, q9, h9, fun S β hβ hG E => ap_c hG E hm ht (by omega) (ap_end (fun S t h => apO_f h) hG E C hm ht (Or.inr ⟨by rw [show J 8 t = J 8 t from rfl]; omega, rfl, rfl⟩) (Or.inl ⟨by omega, g_119, hz_119, fun S9 h9 E9 => x_119 S9 β (fun v a c => by rw [u_119]; exact hβ v a c) h9 E9⟩) (Or.inr ⟨by rw [show J_119 8 t = J 8 t from ((q_119).2.2.2.1.1 t ht.1 ht.2).2.1]; omega, rfl, rfl⟩) (by rw [show J 7 t = J_119 7 t from (((q_119).2.2.2.1.1 t ht.1 ht.2).1).symm]; exact p_9))⟩⟩
      · refine tz_iconst (pc := 99) dX2_appliedPart_99 ?_
        refine tz_goto (pc := 100) (tgt := 122) dX2_appliedPart_100 (by decide) ?_
        refine tz_istore (pc := 122) (L2 := [_, _, _, _, _, _, _, _, _]) dX2_appliedPart_122 (by decide) rfl ?_
        refine tz_iload (pc := 124) dX2_appliedPart_124 rfl ?_
        refine tz_iconst (pc := 126) dX2_appliedPart_126 ?_
        refine tz_icmp_ge (pc := 127) (tgt := 134) dX2_appliedPart_127 (by decide) (by omega) (by decide) (fun h_127 => ?_) (fun h_127 => ?_)
        · refine tz_aload_n (pc := 134) dX2_appliedPart_134 rfl rfl ?_
          refine tz_aload_n (pc := 135) dX2_appliedPart_135 rfl rfl ?_
          refine tz_fR (pc := 136) dX2_appliedPart_136 fl_X2_28 r_141_0 ?_
          refine tz_iload_n (pc := 139) dX2_appliedPart_139 rfl rfl ?_
          refine tz_iconst (pc := 140) dX2_appliedPart_140 ?_
          refine tz_cV (pc := 141) (c_arg hl n _ _ _ (by omega) (by decide) (by omega)) vl_X2_48 dX2_appliedPart_141 o_6 rfl rfl (Nat.le_of_ble_eq_true rfl) ⟨(Nat.le_of_ble_eq_true rfl), (Nat.le_of_ble_eq_true rfl)⟩ rfl rfl (Nat.le_of_ble_eq_true rfl) (Nat.le_of_ble_eq_true rfl) (fun r9 J_141 hq9 => ?_)
          obtain ⟨z_141, rfl, hz_141, rfl, rfl⟩ := hq9
          refine tz_aload_n (pc := 144) dX2_appliedPart_144 rfl rfl ?_
          refine tz_iload_n (pc := 145) dX2_appliedPart_145 rfl rfl ?_
          refine tz_iload (pc := 146) dX2_appliedPart_146 rfl ?_
          refine tz_iconst (pc := 148) dX2_appliedPart_148 ?_
          refine tz_iadd (pc := 149) (v := 2) dX2_appliedPart_149 (by decide) ?_
          have b_150 := GR.arg (GR.rf C hm) C ht (i := 2) (by omega)
          have c_150 := ((GR.rf C hm)).1
          refine tz_cV (pc := 150) (x_app140_2 hl n _ _ (by omega) m ((GR.rf C hm)).2.1 ((GR.rf C hm)).2.2.1 (by omega) (GR.row (GR.rf C hm) rfl hr)) vl_X2_32 dX2_appliedPart_150 o_141 rfl rfl (Nat.le_of_ble_eq_true rfl) ⟨(Nat.le_of_ble_eq_true rfl), (Nat.le_of_ble_eq_true rfl)⟩ rfl rfl (Nat.le_of_ble_eq_true rfl) (Nat.le_of_ble_eq_true rfl) (fun r9 J_150 hq9 => ?_)
          obtain ⟨z_150, rfl, hz_150, m_150, g_150, hz_150, x_150⟩ := hq9
          have q_150 := GR.tr (GR.rf C hm) g_150
          have d_150 := q_150.1
          have e_150 := g_150.1
          have u_150 : J 140 = J 140 := ((GR.rf C hm)).2.2.2.2 140 rfl
          have k8_150 : J 8 t = J 8 t := (((GR.rf C hm)).2.2.2.1.1 t ht.1 ht.2).2.1
          refine tz_istore (pc := 153) (L2 := [_, _, _, _, _, _, _, _, _]) dX2_appliedPart_153 (by decide) rfl ?_
          refine tz_aload_n (pc := 155) dX2_appliedPart_155 rfl rfl ?_
          refine tz_fR (pc := 156) dX2_appliedPart_156 fl_X2_28 r_141_0 ?_
          refine tz_aload_n (pc := 159) dX2_appliedPart_159 rfl rfl ?_
          refine tz_fR (pc := 160) dX2_appliedPart_160 fl_X2_28 r_141_0 ?_
          refine tz_fR (pc := 163) dX2_appliedPart_163 fl_X2_42 r_6_1 ?_
          refine tz_iload_n (pc := 166) dX2_appliedPart_166 rfl rfl ?_
          refine tz_aL (pc := 167) (z := t) (v := (J_150 7 t)) dX2_appliedPart_167 a_7 rfl (by omega) rfl (fun r_167 => ?_)
          refine tz_iload (pc := 168) dX2_appliedPart_168 rfl ?_
          refine tz_iload (pc := 170) dX2_appliedPart_170 rfl ?_
          refine tz_iload (pc := 172) dX2_appliedPart_172 rfl ?_
          refine tz_cV (pc := 174) (c_made hl n _ _ _ _ _ (by omega) (by omega) (by omega) (by omega) m_150 (q_150).2.1 (q_150).2.2.1 (by have := (q_150).2.1.ar (t := t) (by omega) (by have := (q_150).1; omega); omega) (ltA_of (by omega) (by omega) (by omega))) vl_X2_52 dX2_appliedPart_174 o_6 rfl rfl (Nat.le_of_ble_eq_true rfl) ⟨(Nat.le_of_ble_eq_true rfl), (Nat.le_of_ble_eq_true rfl)⟩ rfl rfl (Nat.le_of_ble_eq_true rfl) (Nat.le_of_ble_eq_true rfl) (fun r9 J_174 hq9 => ?_)
          obtain ⟨z_174, rfl, hz_174, p_9⟩ := hq9
          obtain ⟨m9, g9, h9⟩ := GR.made p_9 (by omega)
          have q9 := GR.tr q_150 g9
          exact tz_iret (pc := 177) (z := z_174) dX2_appliedPart_177 rfl (Nat.le_of_ble_eq_true rfl) (Nat.le_of_ble_eq_true rfl) ⟨Nat.le_refl _, Nat.le_add_right _ _⟩ ⟨_, rfl, (by omega), ⟨m9, q9, h9, fun S β hβ hG E => ap_c hG E hm ht (by omega) (ap_end (fun S t h => apO_f h) hG E C hm ht (Or.inr ⟨by rw [show J 8 t = J 8 t from rfl]; omega, rfl, rfl⟩) (Or.inr ⟨by rw [show J 8 t = J 8 t from rfl]; omega, rfl, rfl⟩) (Or.inl ⟨by omega, g_150, hz_150, fun S9 h9 E9 => x_150 S9 β (fun v a c => by rw [u_150]; exact hβ v a c) h9 E9⟩) (by rw [show J 7 t = J_150 7 t from (((q_150).2.2.2.1.1 t ht.1 ht.2).1).symm]; exact p_9))⟩⟩
        · refine tz_iconst (pc := 130) dX2_appliedPart_130 ?_
          refine tz_goto (pc := 131) (tgt := 153) dX2_appliedPart_131 (by decide) ?_
          refine tz_istore (pc := 153) (L2 := [_, _, _, _, _, _, _, _, _]) dX2_appliedPart_153 (by decide) rfl ?_
          refine tz_aload_n (pc := 155) dX2_appliedPart_155 rfl rfl ?_
          refine tz_fR (pc := 156) dX2_appliedPart_156 fl_X2_28 r_141_0 ?_
          refine tz_aload_n (pc := 159) dX2_appliedPart_159 rfl rfl ?_
          refine tz_fR (pc := 160) dX2_appliedPart_160 fl_X2_28 r_141_0 ?_
          refine tz_fR (pc := 163) dX2_appliedPart_163 fl_X2_42 r_6_1 ?_
          refine tz_iload_n (pc := 166) dX2_appliedPart_166 rfl rfl ?_
          refine tz_aL (pc := 167) (z := t) (v := (J 7 t)) dX2_appliedPart_167 a_7 rfl (by omega) rfl (fun r_167 => ?_)
          refine tz_iload (pc := 168) dX2_appliedPart_168 rfl ?_
          refine tz_iload (pc := 170) dX2_appliedPart_170 rfl ?_
          refine tz_iload (pc := 172) dX2_appliedPart_172 rfl ?_
          refine tz_cV (pc := 174) (c_made hl n _ _ _ _ _ (by omega) (by omega) (by omega) (by omega) m ((GR.rf C hm)).2.1 ((GR.rf C hm)).2.2.1 (by have := ((GR.rf C hm)).2.1.ar (t := t) (by omega) (by have := ((GR.rf C hm)).1; omega); omega) (ltA_of (by omega) (by omega) (by omega))) vl_X2_52 dX2_appliedPart_174 o_6 rfl rfl (Nat.le_of_ble_eq_true rfl) ⟨(Nat.le_of_ble_eq_true rfl), (Nat.le_of_ble_eq_true rfl)⟩ rfl rfl (Nat.le_of_ble_eq_true rfl) (Nat.le_of_ble_eq_true rfl) (fun r9 J_174 hq9 => ?_)
          obtain ⟨z_174, rfl, hz_174, p_9⟩ := hq9
          obtain ⟨m9, g9, h9⟩ := GR.made p_9 (by omega)
          have q9 := GR.tr (GR.rf C hm) g9
          exact tz_iret (pc := 177) (z := z_174) dX2_appliedPart_177 rfl (Nat.le_of_ble_eq_true rfl) (Nat.le_of_ble_eq_true rfl) ⟨Nat.le_refl _, Nat.le_add_right _ _⟩ ⟨_, rfl, (by omega), ⟨m9, q9, h9, fun S β hβ hG E => ap_c hG E hm ht (by omega) (ap_end (fun S t h => apO_f h) hG E C hm ht (Or.inr ⟨by rw [show J 8 t = J 8 t from rfl]; omega, rfl, rfl⟩) (Or.inr ⟨by rw [show J 8 t = J 8 t from rfl]; omega, rfl, rfl⟩) (Or.inr ⟨by rw [show J 8 t = J 8 t from rfl]; omega, rfl, rfl⟩) (by rw [show J 7 t = J 7 t from rfl]; exact p_9))⟩⟩

end
