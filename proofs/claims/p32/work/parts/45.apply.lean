section
/-- J' is J with its table grown from m to m' terms -/
def GR (J' J : zJ) (m m' : Int) : Prop := m ≤ m' ∧ CT J' m' ∧ J' 6 12 = m' ∧ zSU J' J m ∧ zOf (zbut [6, 7, 8, 9, 10, 11, 12, 13, 14, 15, 16, 17]) J' J
theorem GR.rf {J : zJ} {m : Int} (C : CT J m) (hm : J 6 12 = m) : GR J J m m := ⟨by omega, C, hm, zSU.rf, zOf.rf⟩
theorem GR.tr {J3 J2 J1 : zJ} {m1 m2 m3 : Int} (g : GR J2 J1 m1 m2) (h : GR J3 J2 m2 m3) : GR J3 J1 m1 m3 := ⟨by have := g.1; have := h.1; omega, h.2.1, h.2.2.1, (h.2.2.2.1.cut g.1).tr g.2.2.2.1, h.2.2.2.2.tr g.2.2.2.2⟩
theorem GR.arg {J' J : zJ} {m m' t i : Int} (g : GR J' J m m') (C : CT J m) (ht : 0 ≤ t ∧ t < m) (hi : 0 ≤ i ∧ i < J 8 t) : 0 ≤ J' 9 (t * 3 + i) ∧ J' 9 (t * 3 + i) < m := by
  have ha := C.ar ht.1 ht.2
  have h1 := C.arg ht.1 ht.2 hi.1 hi.2
  rw [g.2.2.2.1.2 (t * 3 + i) (by omega) (by omega)]
  omega
def rOK (J : zJ) (r : Nat) (f m : Int) : Prop := ∀ v, 0 ≤ v → v < 8 → -1 ≤ J r (f + v) ∧ J r (f + v) < m
theorem GR.row {J' J : zJ} {m m' f : Int} {r : Nat} (g : GR J' J m m') (hr : zbut [6, 7, 8, 9, 10, 11, 12, 13, 14, 15, 16, 17] r = true) (h : rOK J r f m) : rOK J' r f m' := fun v a b => by
  rw [g.2.2.2.2 r hr]
  have := h v a b
  have := g.1
  omega
theorem GR.made {J' J : zJ} {m h a b c z : Int} (p : madeP J m h a b c z J') (hm0 : 0 ≤ m) : ∃ m', GR J' J m m' ∧ (z = -3 ∨ (0 ≤ z ∧ z < m')) := by
  obtain ⟨f, s, q⟩ := p
  rcases q with ⟨⟨q1, -⟩, q2, q3⟩ | ⟨⟨q1, -, -⟩, q2, q3⟩ | ⟨⟨q1, -, -, -, -⟩, q2, q3, -⟩
  · exact ⟨m, ⟨by omega, q3, q2, s, f⟩, Or.inl q1⟩
  · exact ⟨m, ⟨by omega, q3, q2, s, f⟩, Or.inr q1⟩
  · exact ⟨m + 1, ⟨by omega, q3, q2, s, f⟩, Or.inr (by omega)⟩
theorem ltA_of {A a b c m : Int} (ha : a < m) (hb : b < m) (hc : c < m) : ltA A a b c m := ⟨fun _ => ha, fun _ => hb, fun _ => hc⟩
set_option maxHeartbeats 4000000 in
set_option maxRecDepth 100000 in
theorem c_app140_7 {l : Launch} {G : tb_G} (hl : l.stackTraces = false) (n : Nat) (J : zJ) (t : Int) (hr_t : -2147483648 ≤ t ∧ t < 2147483648) (m : Int) (C : CT J m) (hm : J 6 12 = m) (ht : 0 ≤ t ∧ t < m) (hr : rOK J 140 0 m) : tz_Ok l G M_X2_appliedPart 0 0 0 [.ref 141, zi t, .ref 140, zi 0, zi 7] n J (zqi (fun z J' => ∃ m', GR J' J m m' ∧ (z = -3 ∨ (0 ≤ z ∧ z < m')))) zN := by
  refine tz_Ok.of hl (by decide +kernel) rfl (tb_c1 rfl) (Nat.le_of_ble_eq_true rfl) ?_
  show tz_At l G M_X2_appliedPart (tb_rm 0 0 0) none (tb_ZM G 0 0 (zQ n 0 (zqi (fun z J' => ∃ m', GR J' J m m' ∧ (z = -3 ∨ (0 ≤ z ∧ z < m'))))) (zX n 0 zN)) 0 0 n J 0 [some (.ref 141), some (zi t), some (.ref 140), some (zi 0), some (zi 7), none, none, none, none] []
  refine tz_iload (pc := 0) dX2_appliedPart_0 rfl ?_
  refine tz_bipush (pc := 2) dX2_appliedPart_2 (by decide) ?_
  refine tz_icmp_leF (pc := 4) (tgt := 10) (by decide) dX2_appliedPart_4 (by decide) (by decide) (by decide) ?_
  refine tz_bipush (pc := 7) dX2_appliedPart_7 (by decide) ?_
  exact tz_iret (pc := 9) (z := (-3)) dX2_appliedPart_9 rfl (Nat.le_of_ble_eq_true rfl) (Nat.le_of_ble_eq_true rfl) ⟨Nat.le_refl _, Nat.le_add_right _ _⟩ ⟨_, rfl, (by decide), ⟨m, GR.rf C hm, Or.inl rfl⟩⟩

set_option maxHeartbeats 4000000 in
set_option maxRecDepth 100000 in
theorem c_app140_6 {l : Launch} {G : tb_G} (hl : l.stackTraces = false) (n : Nat) (J : zJ) (t : Int) (hr_t : -2147483648 ≤ t ∧ t < 2147483648) (m : Int) (C : CT J m) (hm : J 6 12 = m) (ht : 0 ≤ t ∧ t < m) (hr : rOK J 140 0 m) : tz_Ok l G M_X2_appliedPart 3 0 0 [.ref 141, zi t, .ref 140, zi 0, zi 6] n J (zqi (fun z J' => ∃ m', GR J' J m m' ∧ (z = -3 ∨ (0 ≤ z ∧ z < m')))) zN := by
  refine tz_Ok.of hl (by decide +kernel) rfl (tb_c1 rfl) (Nat.le_of_ble_eq_true rfl) ?_
  show tz_At l G M_X2_appliedPart (tb_rm 3 0 0) none (tb_ZM G 0 0 (zQ n 0 (zqi (fun z J' => ∃ m', GR J' J m m' ∧ (z = -3 ∨ (0 ≤ z ∧ z < m'))))) (zX n 0 zN)) 0 0 n J 0 [some (.ref 141), some (zi t), some (.ref 140), some (zi 0), some (zi 6), none, none, none, none] []
  have hb := C.told
  have ha := C.ar ht.1 ht.2
  refine tz_iload (pc := 0) dX2_appliedPart_0 rfl ?_
  refine tz_bipush (pc := 2) dX2_appliedPart_2 (by decide) ?_
  refine tz_icmp_leT (pc := 4) (tgt := 10) (by decide) dX2_appliedPart_4 (by decide) (by decide) (by decide) ?_
  refine tz_aload_n (pc := 10) dX2_appliedPart_10 rfl rfl ?_
  refine tz_fR (pc := 11) dX2_appliedPart_11 fl_X2_28 r_141_0 ?_
  refine tz_iload_n (pc := 14) dX2_appliedPart_14 rfl rfl ?_
  refine tz_cV (pc := 15) (c_isVar hl n _ _ (by omega) (by omega)) vl_X2_36 dX2_appliedPart_15 o_6 rfl rfl (Nat.le_of_ble_eq_true rfl) ⟨(Nat.le_of_ble_eq_true rfl), (Nat.le_of_ble_eq_true rfl)⟩ rfl rfl (Nat.le_of_ble_eq_true rfl) (Nat.le_of_ble_eq_true rfl) (fun r9 J_15 hq9 => ?_)
  obtain ⟨z_15, rfl, hz_15, rfl, rfl⟩ := hq9
  by_cases hw_18 : J 7 t < 0
  · rw [show (if J 7 t < 0 then 1 else 0 : Int) = 1 from if_pos hw_18]
    refine tz_if_eqF (pc := 18) (tgt := 51) (by decide) dX2_appliedPart_18 (by decide) (by decide) ?_
    refine tz_aload_n (pc := 21) dX2_appliedPart_21 rfl rfl ?_
    refine tz_iload_n (pc := 22) dX2_appliedPart_22 rfl rfl ?_
    refine tz_aload_n (pc := 23) dX2_appliedPart_23 rfl rfl ?_
    refine tz_fR (pc := 24) dX2_appliedPart_24 fl_X2_28 r_141_0 ?_
    refine tz_fR (pc := 27) dX2_appliedPart_27 fl_X2_42 r_6_1 ?_
    refine tz_iload_n (pc := 30) dX2_appliedPart_30 rfl rfl ?_
    refine tz_aL (pc := 31) (z := t) (v := (J 7 t)) dX2_appliedPart_31 a_7 rfl (by omega) rfl (fun r_31 => ?_)
    refine tz_iconst (pc := 32) dX2_appliedPart_32 ?_
    refine tz_ixor (pc := 33) (v := zxor (J 7 t) (-1)) dX2_appliedPart_33 rfl ?_
    refine tz_iadd (pc := 34) (v := 0 + (zxor (J 7 t) (-1))) dX2_appliedPart_34 rfl ?_
    have hv := hr (zxor (J 7 t) (-1)) (by rw [z_nn (by omega)]; omega) (by rw [z_nn (by omega)]; omega)
    refine tz_aL (pc := 35) (z := (0 + (zxor (J 7 t) (-1)))) (v := (J 140 (0 + (zxor (J 7 t) (-1))))) dX2_appliedPart_35 a_140 rfl (by rw [z_nn (by omega)]; omega) rfl (fun r_35 => ?_)
    refine tz_istore (pc := 36) (L2 := [_, _, _, _, _, _, _, _, _]) dX2_appliedPart_36 (by decide) rfl ?_
    refine tz_iload (pc := 38) dX2_appliedPart_38 rfl ?_
    refine tz_iconst (pc := 40) dX2_appliedPart_40 ?_
    refine tz_icmp_ne (pc := 41) (tgt := 48) dX2_appliedPart_41 (by decide) (by omega) (by decide) (fun h_41 => ?_) (fun h_41 => ?_)
    · refine tz_iload (pc := 48) dX2_appliedPart_48 rfl ?_
      exact tz_iret (pc := 50) (z := (J 140 (0 + (zxor (J 7 t) (-1))))) dX2_appliedPart_50 rfl (Nat.le_of_ble_eq_true rfl) (Nat.le_of_ble_eq_true rfl) ⟨Nat.le_refl _, Nat.le_add_right _ _⟩ ⟨_, rfl, (by omega), (by first | exact ⟨m9, q9, h9⟩ | exact ⟨m, GR.rf C hm, Or.inr (by omega)⟩)⟩
    · refine tz_iload_n (pc := 44) dX2_appliedPart_44 rfl rfl ?_
      refine tz_goto (pc := 45) (tgt := 50) dX2_appliedPart_45 (by decide) ?_
      exact tz_iret (pc := 50) (z := t) dX2_appliedPart_50 rfl (Nat.le_of_ble_eq_true rfl) (Nat.le_of_ble_eq_true rfl) ⟨Nat.le_refl _, Nat.le_add_right _ _⟩ ⟨_, rfl, (by omega), (by first | exact ⟨m9, q9, h9⟩ | exact ⟨m, GR.rf C hm, Or.inr (by omega)⟩)⟩
  · rw [show (if J 7 t < 0 then 1 else 0 : Int) = 0 from if_neg hw_18]
    refine tz_if_eqT (pc := 18) (tgt := 51) (by decide) dX2_appliedPart_18 (by decide) (by decide) ?_
    refine tz_aload_n (pc := 51) dX2_appliedPart_51 rfl rfl ?_
    refine tz_fR (pc := 52) dX2_appliedPart_52 fl_X2_28 r_141_0 ?_
    refine tz_fR (pc := 55) dX2_appliedPart_55 fl_X2_45 r_6_2 ?_
    refine tz_iload_n (pc := 58) dX2_appliedPart_58 rfl rfl ?_
    refine tz_aL (pc := 59) (z := t) (v := (J 8 t)) dX2_appliedPart_59 a_8 rfl (by omega) rfl (fun r_59 => ?_)
    refine tz_istore (pc := 60) (L2 := [_, _, _, _, _, _, _, _, _]) dX2_appliedPart_60 (by decide) rfl ?_
    refine tz_iload (pc := 62) dX2_appliedPart_62 rfl ?_
    refine tz_iconst (pc := 64) dX2_appliedPart_64 ?_
    refine tz_icmp_ge (pc := 65) (tgt := 72) dX2_appliedPart_65 (by decide) (by omega) (by decide) (fun h_65 => ?_) (fun h_65 => ?_)
    · refine tz_aload_n (pc := 72) dX2_appliedPart_72 rfl rfl ?_
      refine tz_aload_n (pc := 73) dX2_appliedPart_73 rfl rfl ?_
      refine tz_fR (pc := 74) dX2_appliedPart_74 fl_X2_28 r_141_0 ?_
      refine tz_iload_n (pc := 77) dX2_appliedPart_77 rfl rfl ?_
      refine tz_iconst (pc := 78) dX2_appliedPart_78 ?_
      refine tz_cV (pc := 79) (c_arg hl n _ _ _ (by omega) (by decide) (by omega)) vl_X2_48 dX2_appliedPart_79 o_6 rfl rfl (Nat.le_of_ble_eq_true rfl) ⟨(Nat.le_of_ble_eq_true rfl), (Nat.le_of_ble_eq_true rfl)⟩ rfl rfl (Nat.le_of_ble_eq_true rfl) (Nat.le_of_ble_eq_true rfl) (fun r9 J_79 hq9 => ?_)
      obtain ⟨z_79, rfl, hz_79, rfl, rfl⟩ := hq9
      refine tz_aload_n (pc := 82) dX2_appliedPart_82 rfl rfl ?_
      refine tz_iload_n (pc := 83) dX2_appliedPart_83 rfl rfl ?_
      refine tz_iload (pc := 84) dX2_appliedPart_84 rfl ?_
      refine tz_iconst (pc := 86) dX2_appliedPart_86 ?_
      refine tz_iadd (pc := 87) (v := 7) dX2_appliedPart_87 (by decide) ?_
      have b_88 := GR.arg (GR.rf C hm) C ht (i := 0) (by omega)
      have c_88 := ((GR.rf C hm)).1
      refine tz_cV (pc := 88) (c_app140_7 hl n _ _ (by omega) m ((GR.rf C hm)).2.1 ((GR.rf C hm)).2.2.1 (by omega) (GR.row (GR.rf C hm) rfl hr)) vl_X2_32 dX2_appliedPart_88 o_141 rfl rfl (Nat.le_of_ble_eq_true rfl) ⟨(Nat.le_of_ble_eq_true rfl), (Nat.le_of_ble_eq_true rfl)⟩ rfl rfl (Nat.le_of_ble_eq_true rfl) (Nat.le_of_ble_eq_true rfl) (fun r9 J_88 hq9 => ?_)
      obtain ⟨z_88, rfl, hz_88, m_88, g_88, hz_88⟩ := hq9
      have q_88 := GR.tr (GR.rf C hm) g_88
      have d_88 := q_88.1
      have e_88 := g_88.1
      refine tz_istore (pc := 91) (L2 := [_, _, _, _, _, _, _, _, _]) dX2_appliedPart_91 (by decide) rfl ?_
      refine tz_iload (pc := 93) dX2_appliedPart_93 rfl ?_
      refine tz_iconst (pc := 95) dX2_appliedPart_95 ?_
      refine tz_icmp_ge (pc := 96) (tgt := 103) dX2_appliedPart_96 (by decide) (by omega) (by decide) (fun h_96 => ?_) (fun h_96 => ?_)
      · refine tz_aload_n (pc := 103) dX2_appliedPart_103 rfl rfl ?_
        refine tz_aload_n (pc := 104) dX2_appliedPart_104 rfl rfl ?_
        refine tz_fR (pc := 105) dX2_appliedPart_105 fl_X2_28 r_141_0 ?_
        refine tz_iload_n (pc := 108) dX2_appliedPart_108 rfl rfl ?_
        refine tz_iconst (pc := 109) dX2_appliedPart_109 ?_
        refine tz_cV (pc := 110) (c_arg hl n _ _ _ (by omega) (by decide) (by omega)) vl_X2_48 dX2_appliedPart_110 o_6 rfl rfl (Nat.le_of_ble_eq_true rfl) ⟨(Nat.le_of_ble_eq_true rfl), (Nat.le_of_ble_eq_true rfl)⟩ rfl rfl (Nat.le_of_ble_eq_true rfl) (Nat.le_of_ble_eq_true rfl) (fun r9 J_110 hq9 => ?_)
        obtain ⟨z_110, rfl, hz_110, rfl, rfl⟩ := hq9
        refine tz_aload_n (pc := 113) dX2_appliedPart_113 rfl rfl ?_
        refine tz_iload_n (pc := 114) dX2_appliedPart_114 rfl rfl ?_
        refine tz_iload (pc := 115) dX2_appliedPart_115 rfl ?_
        refine tz_iconst (pc := 117) dX2_appliedPart_117 ?_
        refine tz_iadd (pc := 118) (v := 7) dX2_appliedPart_118 (by decide) ?_
        have b_119 := GR.arg q_88 C ht (i := 1) (by omega)
        have c_119 := (q_88).1
        refine tz_cV (pc := 119) (c_app140_7 hl n _ _ (by omega) m_88 (q_88).2.1 (q_88).2.2.1 (by omega) (GR.row q_88 rfl hr)) vl_X2_32 dX2_appliedPart_119 o_141 rfl rfl (Nat.le_of_ble_eq_true rfl) ⟨(Nat.le_of_ble_eq_true rfl), (Nat.le_of_ble_eq_true rfl)⟩ rfl rfl (Nat.le_of_ble_eq_true rfl) (Nat.le_of_ble_eq_true rfl) (fun r9 J_119 hq9 => ?_)
        obtain ⟨z_119, rfl, hz_119, m_119, g_119, hz_119⟩ := hq9
        have q_119 := GR.tr q_88 g_119
        have d_119 := q_119.1
        have e_119 := g_119.1
        refine tz_istore (pc := 122) (L2 := [_, _, _, _, _, _, _, _, _]) dX2_appliedPart_122 (by decide) rfl ?_
        refine tz_iload (pc := 124) dX2_appliedPart_124 rfl ?_
        refine tz_iconst (pc := 126) dX2_appliedPart_126 ?_
        refine tz_icmp_ge (pc := 127) (tgt := 134) dX2_appliedPart_127 (by decide) (by omega) (by decide) (fun h_127 => ?_) (fun h_127 => ?_)
        · refine tz_aload_n (pc := 134) dX2_appliedPart_134 rfl rfl ?_
          refine tz_aload_n (pc := 135) dX2_appliedPart_135 rfl rfl ?_
          refine tz_fR (pc := 136) dX2_appliedPart_136 fl_X2_28 r_141_0 ?_
          refine tz_iload_n (pc := 139) dX2_appliedPart_139 rfl rfl ?_
          refine tz_iconst (pc := 140) dX2_appliedPart_140 ?_
          refine tz_cV (pc := 141) (c_arg hl n _ _ _ (by omega) (by decide) (by omega)) vl_X2_48 dX2_appliedPart_141 o_6 rfl rfl (Nat.le_of_ble_eq_true rfl) ⟨(Nat.le_of_ble_eq_true rfl), (Nat.le_of_ble_eq_true rfl)⟩ rfl rfl (Nat.le_of_ble_eq_true rfl) (Nat.le_of_ble_eq_true rfl) (fun r9 J_141 hq9 => ?_)
          obtain ⟨z_141, rfl, hz_141, rfl, rfl⟩ := hq9
          refine tz_aload_n (pc := 144) dX2_appliedPart_144 rfl rfl ?_
          refine tz_iload_n (pc := 145) dX2_appliedPart_145 rfl rfl ?_
          refine tz_iload (pc := 146) dX2_appliedPart_146 rfl ?_
          refine tz_iconst (pc := 148) dX2_appliedPart_148 ?_
          refine tz_iadd (pc := 149) (v := 7) dX2_appliedPart_149 (by decide) ?_
          have b_150 := GR.arg q_119 C ht (i := 2) (by omega)
          have c_150 := (q_119).1
          refine tz_cV (pc := 150) (c_app140_7 hl n _ _ (by omega) m_119 (q_119).2.1 (q_119).2.2.1 (by omega) (GR.row q_119 rfl hr)) vl_X2_32 dX2_appliedPart_150 o_141 rfl rfl (Nat.le_of_ble_eq_true rfl) ⟨(Nat.le_of_ble_eq_true rfl), (Nat.le_of_ble_eq_true rfl)⟩ rfl rfl (Nat.le_of_ble_eq_true rfl) (Nat.le_of_ble_eq_true rfl) (fun r9 J_150 hq9 => ?_)
          obtain ⟨z_150, rfl, hz_150, m_150, g_150, hz_150⟩ := hq9
          have q_150 := GR.tr q_119 g_150
          have d_150 := q_150.1
          have e_150 := g_150.1
          refine tz_istore (pc := 153) (L2 := [_, _, _, _, _, _, _, _, _]) dX2_appliedPart_153 (by decide) rfl ?_
          refine tz_aload_n (pc := 155) dX2_appliedPart_155 rfl rfl ?_
          refine tz_fR (pc := 156) dX2_appliedPart_156 fl_X2_28 r_141_0 ?_
          refine tz_aload_n (pc := 159) dX2_appliedPart_159 rfl rfl ?_
          refine tz_fR (pc := 160) dX2_appliedPart_160 fl_X2_28 r_141_0 ?_
          refine tz_fR (pc := 163) dX2_appliedPart_163 fl_X2_42 r_6_1 ?_
          refine tz_iload_n (pc := 166) dX2_appliedPart_166 rfl rfl ?_
          refine tz_aL (pc := 167) (z := t) (v := (J_150 7 t)) dX2_appliedPart_167 a_7 rfl (by omega) rfl (fun r_167 => ?_)
          refine tz_iload (pc := 168) dX2_appliedPart_168 rfl ?_
          refine tz_iload (pc := 170) dX2_appliedPart_170 rfl ?_
          refine tz_iload (pc := 172) dX2_appliedPart_172 rfl ?_
          refine tz_cV (pc := 174) (c_made hl n _ _ _ _ _ (by omega) (by omega) (by omega) (by omega) m_150 (q_150).2.1 (q_150).2.2.1 (by have := (q_150).2.1.ar (t := t) (by omega) (by have := (q_150).1; omega); omega) (ltA_of (by omega) (by omega) (by omega))) vl_X2_52 dX2_appliedPart_174 o_6 rfl rfl (Nat.le_of_ble_eq_true rfl) ⟨(Nat.le_of_ble_eq_true rfl), (Nat.le_of_ble_eq_true rfl)⟩ rfl rfl (Nat.le_of_ble_eq_true rfl) (Nat.le_of_ble_eq_true rfl) (fun r9 J_174 hq9 => ?_)
          obtain ⟨z_174, rfl, hz_174, p_9⟩ := hq9
          obtain ⟨m9, g9, h9⟩ := GR.made p_9 (by omega)
          have q9 := GR.tr q_150 g9
          exact tz_iret (pc := 177) (z := z_174) dX2_appliedPart_177 rfl (Nat.le_of_ble_eq_true rfl) (Nat.le_of_ble_eq_true rfl) ⟨Nat.le_refl _, Nat.le_add_right _ _⟩ ⟨_, rfl, (by omega), (by first | exact ⟨m9, q9, h9⟩ | exact ⟨m, GR.rf C hm, Or.inr (by omega)⟩)⟩
        · refine tz_iconst (pc := 130) dX2_appliedPart_130 ?_
          refine tz_goto (pc := 131) (tgt := 153) dX2_appliedPart_131 (by decide) ?_
          refine tz_istore (pc := 153) (L2 := [_, _, _, _, _, _, _, _, _]) dX2_appliedPart_153 (by decide) rfl ?_
          refine tz_aload_n (pc := 155) dX2_appliedPart_155 rfl rfl ?_
          refine tz_fR (pc := 156) dX2_appliedPart_156 fl_X2_28 r_141_0 ?_
          refine tz_aload_n (pc := 159) dX2_appliedPart_159 rfl rfl ?_
          refine tz_fR (pc := 160) dX2_appliedPart_160 fl_X2_28 r_141_0 ?_
          refine tz_fR (pc := 163) dX2_appliedPart_163 fl_X2_42 r_6_1 ?_
          refine tz_iload_n (pc := 166) dX2_appliedPart_166 rfl rfl ?_
          refine tz_aL (pc := 167) (z := t) (v := (J_119 7 t)) dX2_appliedPart_167 a_7 rfl (by omega) rfl (fun r_167 => ?_)
          refine tz_iload (pc := 168) dX2_appliedPart_168 rfl ?_
          refine tz_iload (pc := 170) dX2_appliedPart_170 rfl ?_
          refine tz_iload (pc := 172) dX2_appliedPart_172 rfl ?_
          refine tz_cV (pc := 174) (c_made hl n _ _ _ _ _ (by omega) (by omega) (by omega) (by omega) m_119 (q_119).2.1 (q_119).2.2.1 (by have := (q_119).2.1.ar (t := t) (by omega) (by have := (q_119).1; omega); omega) (ltA_of (by omega) (by omega) (by omega))) vl_X2_52 dX2_appliedPart_174 o_6 rfl rfl (Nat.le_of_ble_eq_true rfl) ⟨(Nat.le_of_ble_eq_true rfl), (Nat.le_of_ble_eq_true rfl)⟩ rfl rfl (Nat.le_of_ble_eq_true rfl) (Nat.le_of_ble_eq_true rfl) (fun r9 J_174 hq9 => ?_)
          obtain ⟨z_174, rfl, hz_174, p_9⟩ := hq9
          obtain ⟨m9, g9, h9⟩ := GR.made p_9 (by omega)
          have q9 := GR.tr q_119 g9
          exact tz_iret (pc := 177) (z := z_174) dX2_appliedPart_177 rfl (Nat.le_of_ble_eq_true rfl) (Nat.le_of_ble_eq_true rfl) ⟨Nat.le_refl _, Nat.le_add_right _ _⟩ ⟨_, rfl, (by omega), (by first | exact ⟨m9, q9, h9⟩ | exact ⟨m, GR.rf C hm, Or.inr (by omega)⟩)⟩
      · refine tz_iconst (pc := 99) dX2_appliedPart_99 ?_
        refine tz_goto (pc := 100) (tgt := 122) dX2_appliedPart_100 (by decide) ?_
        refine tz_istore (pc := 122) (L2 := [_, _, _, _, _, _, _, _, _]) dX2_appliedPart_122 (by decide) rfl ?_
        refine tz_iload (pc := 124) dX2_appliedPart_124 rfl ?_
        refine tz_iconst (pc := 126) dX2_appliedPart_126 ?_
        refine tz_icmp_ge (pc := 127) (tgt := 134) dX2_appliedPart_127 (by decide) (by omega) (by decide) (fun h_127 => ?_) (fun h_127 => ?_)
        · refine tz_aload_n (pc := 134) dX2_appliedPart_134 rfl rfl ?_
          refine tz_aload_n (pc := 135) dX2_appliedPart_135 rfl rfl ?_
          refine tz_fR (pc := 136) dX2_appliedPart_136 fl_X2_28 r_141_0 ?_
          refine tz_iload_n (pc := 139) dX2_appliedPart_139 rfl rfl ?_
          refine tz_iconst (pc := 140) dX2_appliedPart_140 ?_
          refine tz_cV (pc := 141) (c_arg hl n _ _ _ (by omega) (by decide) (by omega)) vl_X2_48 dX2_appliedPart_141 o_6 rfl rfl (Nat.le_of_ble_eq_true rfl) ⟨(Nat.le_of_ble_eq_true rfl), (Nat.le_of_ble_eq_true rfl)⟩ rfl rfl (Nat.le_of_ble_eq_true rfl) (Nat.le_of_ble_eq_true rfl) (fun r9 J_141 hq9 => ?_)
          obtain ⟨z_141, rfl, hz_141, rfl, rfl⟩ := hq9
          refine tz_aload_n (pc := 144) dX2_appliedPart_144 rfl rfl ?_
          refine tz_iload_n (pc := 145) dX2_appliedPart_145 rfl rfl ?_
          refine tz_iload (pc := 146) dX2_appliedPart_146 rfl ?_
          refine tz_iconst (pc := 148) dX2_appliedPart_148 ?_
          refine tz_iadd (pc := 149) (v := 7) dX2_appliedPart_149 (by decide) ?_
          have b_150 := GR.arg q_88 C ht (i := 2) (by omega)
          have c_150 := (q_88).1
          refine tz_cV (pc := 150) (c_app140_7 hl n _ _ (by omega) m_88 (q_88).2.1 (q_88).2.2.1 (by omega) (GR.row q_88 rfl hr)) vl_X2_32 dX2_appliedPart_150 o_141 rfl rfl (Nat.le_of_ble_eq_true rfl) ⟨(Nat.le_of_ble_eq_true rfl), (Nat.le_of_ble_eq_true rfl)⟩ rfl rfl (Nat.le_of_ble_eq_true rfl) (Nat.le_of_ble_eq_true rfl) (fun r9 J_150 hq9 => ?_)
          obtain ⟨z_150, rfl, hz_150, m_150, g_150, hz_150⟩ := hq9
          have q_150 := GR.tr q_88 g_150
          have d_150 := q_150.1
          have e_150 := g_150.1
          refine tz_istore (pc := 153) (L2 := [_, _, _, _, _, _, _, _, _]) dX2_appliedPart_153 (by decide) rfl ?_
          refine tz_aload_n (pc := 155) dX2_appliedPart_155 rfl rfl ?_
          refine tz_fR (pc := 156) dX2_appliedPart_156 fl_X2_28 r_141_0 ?_
          refine tz_aload_n (pc := 159) dX2_appliedPart_159 rfl rfl ?_
          refine tz_fR (pc := 160) dX2_appliedPart_160 fl_X2_28 r_141_0 ?_
          refine tz_fR (pc := 163) dX2_appliedPart_163 fl_X2_42 r_6_1 ?_
          refine tz_iload_n (pc := 166) dX2_appliedPart_166 rfl rfl ?_
          refine tz_aL (pc := 167) (z := t) (v := (J_150 7 t)) dX2_appliedPart_167 a_7 rfl (by omega) rfl (fun r_167 => ?_)
          refine tz_iload (pc := 168) dX2_appliedPart_168 rfl ?_
          refine tz_iload (pc := 170) dX2_appliedPart_170 rfl ?_
          refine tz_iload (pc := 172) dX2_appliedPart_172 rfl ?_
          refine tz_cV (pc := 174) (c_made hl n _ _ _ _ _ (by omega) (by omega) (by omega) (by omega) m_150 (q_150).2.1 (q_150).2.2.1 (by have := (q_150).2.1.ar (t := t) (by omega) (by have := (q_150).1; omega); omega) (ltA_of (by omega) (by omega) (by omega))) vl_X2_52 dX2_appliedPart_174 o_6 rfl rfl (Nat.le_of_ble_eq_true rfl) ⟨(Nat.le_of_ble_eq_true rfl), (Nat.le_of_ble_eq_true rfl)⟩ rfl rfl (Nat.le_of_ble_eq_true rfl) (Nat.le_of_ble_eq_true rfl) (fun r9 J_174 hq9 => ?_)
          obtain ⟨z_174, rfl, hz_174, p_9⟩ := hq9
          obtain ⟨m9, g9, h9⟩ := GR.made p_9 (by omega)
          have q9 := GR.tr q_150 g9
          exact tz_iret (pc := 177) (z := z_174) dX2_appliedPart_177 rfl (Nat.le_of_ble_eq_true rfl) (Nat.le_of_ble_eq_true rfl) ⟨Nat.le_refl _, Nat.le_add_right _ _⟩ ⟨_, rfl, (by omega), (by first | exact ⟨m9, q9, h9⟩ | exact ⟨m, GR.rf C hm, Or.inr (by omega)⟩)⟩
        · refine tz_iconst (pc := 130) dX2_appliedPart_130 ?_
          refine tz_goto (pc := 131) (tgt := 153) dX2_appliedPart_131 (by decide) ?_
          refine tz_istore (pc := 153) (L2 := [_, _, _, _, _, _, _, _, _]) dX2_appliedPart_153 (by decide) rfl ?_
          refine tz_aload_n (pc := 155) dX2_appliedPart_155 rfl rfl ?_
          refine tz_fR (pc := 156) dX2_appliedPart_156 fl_X2_28 r_141_0 ?_
          refine tz_aload_n (pc := 159) dX2_appliedPart_159 rfl rfl ?_
          refine tz_fR (pc := 160) dX2_appliedPart_160 fl_X2_28 r_141_0 ?_
          refine tz_fR (pc := 163) dX2_appliedPart_163 fl_X2_42 r_6_1 ?_
          refine tz_iload_n (pc := 166) dX2_appliedPart_166 rfl rfl ?_
          refine tz_aL (pc := 167) (z := t) (v := (J_88 7 t)) dX2_appliedPart_167 a_7 rfl (by omega) rfl (fun r_167 => ?_)
          refine tz_iload (pc := 168) dX2_appliedPart_168 rfl ?_
          refine tz_iload (pc := 170) dX2_appliedPart_170 rfl ?_
          refine tz_iload (pc := 172) dX2_appliedPart_172 rfl ?_
          refine tz_cV (pc := 174) (c_made hl n _ _ _ _ _ (by omega) (by omega) (by omega) (by omega) m_88 (q_88).2.1 (q_88).2.2.1 (by have := (q_88).2.1.ar (t := t) (by omega) (by have := (q_88).1; omega); omega) (ltA_of (by omega) (by omega) (by omega))) vl_X2_52 dX2_appliedPart_174 o_6 rfl rfl (Nat.le_of_ble_eq_true rfl) ⟨(Nat.le_of_ble_eq_true rfl), (Nat.le_of_ble_eq_true rfl)⟩ rfl rfl (Nat.le_of_ble_eq_true rfl) (Nat.le_of_ble_eq_true rfl) (fun r9 J_174 hq9 => ?_)
          obtain ⟨z_174, rfl, hz_174, p_9⟩ := hq9
          obtain ⟨m9, g9, h9⟩ := GR.made p_9 (by omega)
          have q9 := GR.tr q_88 g9
          exact tz_iret (pc := 177) (z := z_174) dX2_appliedPart_177 rfl (Nat.le_of_ble_eq_true rfl) (Nat.le_of_ble_eq_true rfl) ⟨Nat.le_refl _, Nat.le_add_right _ _⟩ ⟨_, rfl, (by omega), (by first | exact ⟨m9, q9, h9⟩ | exact ⟨m, GR.rf C hm, Or.inr (by omega)⟩)⟩
    · refine tz_iconst (pc := 68) dX2_appliedPart_68 ?_
      refine tz_goto (pc := 69) (tgt := 91) dX2_appliedPart_69 (by decide) ?_
      refine tz_istore (pc := 91) (L2 := [_, _, _, _, _, _, _, _, _]) dX2_appliedPart_91 (by decide) rfl ?_
      refine tz_iload (pc := 93) dX2_appliedPart_93 rfl ?_
      refine tz_iconst (pc := 95) dX2_appliedPart_95 ?_
      refine tz_icmp_ge (pc := 96) (tgt := 103) dX2_appliedPart_96 (by decide) (by omega) (by decide) (fun h_96 => ?_) (fun h_96 => ?_)
      · refine tz_aload_n (pc := 103) dX2_appliedPart_103 rfl rfl ?_
        refine tz_aload_n (pc := 104) dX2_appliedPart_104 rfl rfl ?_
        refine tz_fR (pc := 105) dX2_appliedPart_105 fl_X2_28 r_141_0 ?_
        refine tz_iload_n (pc := 108) dX2_appliedPart_108 rfl rfl ?_
        refine tz_iconst (pc := 109) dX2_appliedPart_109 ?_
        refine tz_cV (pc := 110) (c_arg hl n _ _ _ (by omega) (by decide) (by omega)) vl_X2_48 dX2_appliedPart_110 o_6 rfl rfl (Nat.le_of_ble_eq_true rfl) ⟨(Nat.le_of_ble_eq_true rfl), (Nat.le_of_ble_eq_true rfl)⟩ rfl rfl (Nat.le_of_ble_eq_true rfl) (Nat.le_of_ble_eq_true rfl) (fun r9 J_110 hq9 => ?_)
        obtain ⟨z_110, rfl, hz_110, rfl, rfl⟩ := hq9
        refine tz_aload_n (pc := 113) dX2_appliedPart_113 rfl rfl ?_
        refine tz_iload_n (pc := 114) dX2_appliedPart_114 rfl rfl ?_
        refine tz_iload (pc := 115) dX2_appliedPart_115 rfl ?_
        refine tz_iconst (pc := 117) dX2_appliedPart_117 ?_
        refine tz_iadd (pc := 118) (v := 7) dX2_appliedPart_118 (by decide) ?_
        have b_119 := GR.arg (GR.rf C hm) C ht (i := 1) (by omega)
        have c_119 := ((GR.rf C hm)).1
        refine tz_cV (pc := 119) (c_app140_7 hl n _ _ (by omega) m ((GR.rf C hm)).2.1 ((GR.rf C hm)).2.2.1 (by omega) (GR.row (GR.rf C hm) rfl hr)) vl_X2_32 dX2_appliedPart_119 o_141 rfl rfl (Nat.le_of_ble_eq_true rfl) ⟨(Nat.le_of_ble_eq_true rfl), (Nat.le_of_ble_eq_true rfl)⟩ rfl rfl (Nat.le_of_ble_eq_true rfl) (Nat.le_of_ble_eq_true rfl) (fun r9 J_119 hq9 => ?_)
        obtain ⟨z_119, rfl, hz_119, m_119, g_119, hz_119⟩ := hq9
        have q_119 := GR.tr (GR.rf C hm) g_119
        have d_119 := q_119.1
        have e_119 := g_119.1
        refine tz_istore (pc := 122) (L2 := [_, _, _, _, _, _, _, _, _]) dX2_appliedPart_122 (by decide) rfl ?_
        refine tz_iload (pc := 124) dX2_appliedPart_124 rfl ?_
        refine tz_iconst (pc := 126) dX2_appliedPart_126 ?_
        refine tz_icmp_ge (pc := 127) (tgt := 134) dX2_appliedPart_127 (by decide) (by omega) (by decide) (fun h_127 => ?_) (fun h_127 => ?_)
        · refine tz_aload_n (pc := 134) dX2_appliedPart_134 rfl rfl ?_
          refine tz_aload_n (pc := 135) dX2_appliedPart_135 rfl rfl ?_
          refine tz_fR (pc := 136) dX2_appliedPart_136 fl_X2_28 r_141_0 ?_
          refine tz_iload_n (pc := 139) dX2_appliedPart_139 rfl rfl ?_
          refine tz_iconst (pc := 140) dX2_appliedPart_140 ?_
          refine tz_cV (pc := 141) (c_arg hl n _ _ _ (by omega) (by decide) (by omega)) vl_X2_48 dX2_appliedPart_141 o_6 rfl rfl (Nat.le_of_ble_eq_true rfl) ⟨(Nat.le_of_ble_eq_true rfl), (Nat.le_of_ble_eq_true rfl)⟩ rfl rfl (Nat.le_of_ble_eq_true rfl) (Nat.le_of_ble_eq_true rfl) (fun r9 J_141 hq9 => ?_)
          obtain ⟨z_141, rfl, hz_141, rfl, rfl⟩ := hq9
          refine tz_aload_n (pc := 144) dX2_appliedPart_144 rfl rfl ?_
          refine tz_iload_n (pc := 145) dX2_appliedPart_145 rfl rfl ?_
          refine tz_iload (pc := 146) dX2_appliedPart_146 rfl ?_
          refine tz_iconst (pc := 148) dX2_appliedPart_148 ?_
          refine tz_iadd (pc := 149) (v := 7) dX2_appliedPart_149 (by decide) ?_
          have b_150 := GR.arg q_119 C ht (i := 2) (by omega)
          have c_150 := (q_119).1
          refine tz_cV (pc := 150) (c_app140_7 hl n _ _ (by omega) m_119 (q_119).2.1 (q_119).2.2.1 (by omega) (GR.row q_119 rfl hr)) vl_X2_32 dX2_appliedPart_150 o_141 rfl rfl (Nat.le_of_ble_eq_true rfl) ⟨(Nat.le_of_ble_eq_true rfl), (Nat.le_of_ble_eq_true rfl)⟩ rfl rfl (Nat.le_of_ble_eq_true rfl) (Nat.le_of_ble_eq_true rfl) (fun r9 J_150 hq9 => ?_)
          obtain ⟨z_150, rfl, hz_150, m_150, g_150, hz_150⟩ := hq9
          have q_150 := GR.tr q_119 g_150
          have d_150 := q_150.1
          have e_150 := g_150.1
          refine tz_istore (pc := 153) (L2 := [_, _, _, _, _, _, _, _, _]) dX2_appliedPart_153 (by decide) rfl ?_
          refine tz_aload_n (pc := 155) dX2_appliedPart_155 rfl rfl ?_
          refine tz_fR (pc := 156) dX2_appliedPart_156 fl_X2_28 r_141_0 ?_
          refine tz_aload_n (pc := 159) dX2_appliedPart_159 rfl rfl ?_
          refine tz_fR (pc := 160) dX2_appliedPart_160 fl_X2_28 r_141_0 ?_
          refine tz_fR (pc := 163) dX2_appliedPart_163 fl_X2_42 r_6_1 ?_
          refine tz_iload_n (pc := 166) dX2_appliedPart_166 rfl rfl ?_
          refine tz_aL (pc := 167) (z := t) (v := (J_150 7 t)) dX2_appliedPart_167 a_7 rfl (by omega) rfl (fun r_167 => ?_)
          refine tz_iload (pc := 168) dX2_appliedPart_168 rfl ?_
          refine tz_iload (pc := 170) dX2_appliedPart_170 rfl ?_
          refine tz_iload (pc := 172) dX2_appliedPart_172 rfl ?_
          refine tz_cV (pc := 174) (c_made hl n _ _ _ _ _ (by omega) (by omega) (by omega) (by omega) m_150 (q_150).2.1 (q_150).2.2.1 (by have := (q_150).2.1.ar (t := t) (by omega) (by have := (q_150).1; omega); omega) (ltA_of (by omega) (by omega) (by omega))) vl_X2_52 dX2_appliedPart_174 o_6 rfl rfl (Nat.le_of_ble_eq_true rfl) ⟨(Nat.le_of_ble_eq_true rfl), (Nat.le_of_ble_eq_true rfl)⟩ rfl rfl (Nat.le_of_ble_eq_true rfl) (Nat.le_of_ble_eq_true rfl) (fun r9 J_174 hq9 => ?_)
          obtain ⟨z_174, rfl, hz_174, p_9⟩ := hq9
          obtain ⟨m9, g9, h9⟩ := GR.made p_9 (by omega)
          have q9 := GR.tr q_150 g9
          exact tz_iret (pc := 177) (z := z_174) dX2_appliedPart_177 rfl (Nat.le_of_ble_eq_true rfl) (Nat.le_of_ble_eq_true rfl) ⟨Nat.le_refl _, Nat.le_add_right _ _⟩ ⟨_, rfl, (by omega), (by first | exact ⟨m9, q9, h9⟩ | exact ⟨m, GR.rf C hm, Or.inr (by omega)⟩)⟩
        · refine tz_iconst (pc := 130) dX2_appliedPart_130 ?_
          refine tz_goto (pc := 131) (tgt := 153) dX2_appliedPart_131 (by decide) ?_
          refine tz_istore (pc := 153) (L2 := [_, _, _, _, _, _, _, _, _]) dX2_appliedPart_153 (by decide) rfl ?_
          refine tz_aload_n (pc := 155) dX2_appliedPart_155 rfl rfl ?_
          refine tz_fR (pc := 156) dX2_appliedPart_156 fl_X2_28 r_141_0 ?_
          refine tz_aload_n (pc := 159) dX2_appliedPart_159 rfl rfl ?_
          refine tz_fR (pc := 160) dX2_appliedPart_160 fl_X2_28 r_141_0 ?_
          refine tz_fR (pc := 163) dX2_appliedPart_163 fl_X2_42 r_6_1 ?_
          refine tz_iload_n (pc := 166) dX2_appliedPart_166 rfl rfl ?_
          refine tz_aL (pc := 167) (z := t) (v := (J_119 7 t)) dX2_appliedPart_167 a_7 rfl (by omega) rfl (fun r_167 => ?_)
          refine tz_iload (pc := 168) dX2_appliedPart_168 rfl ?_
          refine tz_iload (pc := 170) dX2_appliedPart_170 rfl ?_
          refine tz_iload (pc := 172) dX2_appliedPart_172 rfl ?_
          refine tz_cV (pc := 174) (c_made hl n _ _ _ _ _ (by omega) (by omega) (by omega) (by omega) m_119 (q_119).2.1 (q_119).2.2.1 (by have := (q_119).2.1.ar (t := t) (by omega) (by have := (q_119).1; omega); omega) (ltA_of (by omega) (by omega) (by omega))) vl_X2_52 dX2_appliedPart_174 o_6 rfl rfl (Nat.le_of_ble_eq_true rfl) ⟨(Nat.le_of_ble_eq_true rfl), (Nat.le_of_ble_eq_true rfl)⟩ rfl rfl (Nat.le_of_ble_eq_true rfl) (Nat.le_of_ble_eq_true rfl) (fun r9 J_174 hq9 => ?_)
          obtain ⟨z_174, rfl, hz_174, p_9⟩ := hq9
          obtain ⟨m9, g9, h9⟩ := GR.made p_9 (by omega)
          have q9 := GR.tr q_119 g9
          exact tz_iret (pc := 177) (z := z_174) dX2_appliedPart_177 rfl (Nat.le_of_ble_eq_true rfl) (Nat.le_of_ble_eq_true rfl) ⟨Nat.le_refl _, Nat.le_add_right _ _⟩ ⟨_, rfl, (by omega), (by first | exact ⟨m9, q9, h9⟩ | exact ⟨m, GR.rf C hm, Or.inr (by omega)⟩)⟩
      · refine tz_iconst (pc := 99) dX2_appliedPart_99 ?_
        refine tz_goto (pc := 100) (tgt := 122) dX2_appliedPart_100 (by decide) ?_
        refine tz_istore (pc := 122) (L2 := [_, _, _, _, _, _, _, _, _]) dX2_appliedPart_122 (by decide) rfl ?_
        refine tz_iload (pc := 124) dX2_appliedPart_124 rfl ?_
        refine tz_iconst (pc := 126) dX2_appliedPart_126 ?_
        refine tz_icmp_ge (pc := 127) (tgt := 134) dX2_appliedPart_127 (by decide) (by omega) (by decide) (fun h_127 => ?_) (fun h_127 => ?_)
        · refine tz_aload_n (pc := 134) dX2_appliedPart_134 rfl rfl ?_
          refine tz_aload_n (pc := 135) dX2_appliedPart_135 rfl rfl ?_
          refine tz_fR (pc := 136) dX2_appliedPart_136 fl_X2_28 r_141_0 ?_
          refine tz_iload_n (pc := 139) dX2_appliedPart_139 rfl rfl ?_
          refine tz_iconst (pc := 140) dX2_appliedPart_140 ?_
          refine tz_cV (pc := 141) (c_arg hl n _ _ _ (by omega) (by decide) (by omega)) vl_X2_48 dX2_appliedPart_141 o_6 rfl rfl (Nat.le_of_ble_eq_true rfl) ⟨(Nat.le_of_ble_eq_true rfl), (Nat.le_of_ble_eq_true rfl)⟩ rfl rfl (Nat.le_of_ble_eq_true rfl) (Nat.le_of_ble_eq_true rfl) (fun r9 J_141 hq9 => ?_)
          obtain ⟨z_141, rfl, hz_141, rfl, rfl⟩ := hq9
          refine tz_aload_n (pc := 144) dX2_appliedPart_144 rfl rfl ?_
          refine tz_iload_n (pc := 145) dX2_appliedPart_145 rfl rfl ?_
          refine tz_iload (pc := 146) dX2_appliedPart_146 rfl ?_
          refine tz_iconst (pc := 148) dX2_appliedPart_148 ?_
          refine tz_iadd (pc := 149) (v := 7) dX2_appliedPart_149 (by decide) ?_
          have b_150 := GR.arg (GR.rf C hm) C ht (i := 2) (by omega)
          have c_150 := ((GR.rf C hm)).1
          refine tz_cV (pc := 150) (c_app140_7 hl n _ _ (by omega) m ((GR.rf C hm)).2.1 ((GR.rf C hm)).2.2.1 (by omega) (GR.row (GR.rf C hm) rfl hr)) vl_X2_32 dX2_appliedPart_150 o_141 rfl rfl (Nat.le_of_ble_eq_true rfl) ⟨(Nat.le_of_ble_eq_true rfl), (Nat.le_of_ble_eq_true rfl)⟩ rfl rfl (Nat.le_of_ble_eq_true rfl) (Nat.le_of_ble_eq_true rfl) (fun r9 J_150 hq9 => ?_)
          obtain ⟨z_150, rfl, hz_150, m_150, g_150, hz_150⟩ := hq9
          have q_150 := GR.tr (GR.rf C hm) g_150
          have d_150 := q_150.1
          have e_150 := g_150.1
          refine tz_istore (pc := 153) (L2 := [_, _, _, _, _, _, _, _, _]) dX2_appliedPart_153 (by decide) rfl ?_
          refine tz_aload_n (pc := 155) dX2_appliedPart_155 rfl rfl ?_
          refine tz_fR (pc := 156) dX2_appliedPart_156 fl_X2_28 r_141_0 ?_
          refine tz_aload_n (pc := 159) dX2_appliedPart_159 rfl rfl ?_
          refine tz_fR (pc := 160) dX2_appliedPart_160 fl_X2_28 r_141_0 ?_
          refine tz_fR (pc := 163) dX2_appliedPart_163 fl_X2_42 r_6_1 ?_
          refine tz_iload_n (pc := 166) dX2_appliedPart_166 rfl rfl ?_
          refine tz_aL (pc := 167) (z := t) (v := (J_150 7 t)) dX2_appliedPart_167 a_7 rfl (by omega) rfl (fun r_167 => ?_)
          refine tz_iload (pc := 168) dX2_appliedPart_168 rfl ?_
          refine tz_iload (pc := 170) dX2_appliedPart_170 rfl ?_
          refine tz_iload (pc := 172) dX2_appliedPart_172 rfl ?_
          refine tz_cV (pc := 174) (c_made hl n _ _ _ _ _ (by omega) (by omega) (by omega) (by omega) m_150 (q_150).2.1 (q_150).2.2.1 (by have := (q_150).2.1.ar (t := t) (by omega) (by have := (q_150).1; omega); omega) (ltA_of (by omega) (by omega) (by omega))) vl_X2_52 dX2_appliedPart_174 o_6 rfl rfl (Nat.le_of_ble_eq_true rfl) ⟨(Nat.le_of_ble_eq_true rfl), (Nat.le_of_ble_eq_true rfl)⟩ rfl rfl (Nat.le_of_ble_eq_true rfl) (Nat.le_of_ble_eq_true rfl) (fun r9 J_174 hq9 => ?_)
          obtain ⟨z_174, rfl, hz_174, p_9⟩ := hq9
          obtain ⟨m9, g9, h9⟩ := GR.made p_9 (by omega)
          have q9 := GR.tr q_150 g9
          exact tz_iret (pc := 177) (z := z_174) dX2_appliedPart_177 rfl (Nat.le_of_ble_eq_true rfl) (Nat.le_of_ble_eq_true rfl) ⟨Nat.le_refl _, Nat.le_add_right _ _⟩ ⟨_, rfl, (by omega), (by first | exact ⟨m9, q9, h9⟩ | exact ⟨m, GR.rf C hm, Or.inr (by omega)⟩)⟩
        · refine tz_iconst (pc := 130) dX2_appliedPart_130 ?_
          refine tz_goto (pc := 131) (tgt := 153) dX2_appliedPart_131 (by decide) ?_
          refine tz_istore (pc := 153) (L2 := [_, _, _, _, _, _, _, _, _]) dX2_appliedPart_153 (by decide) rfl ?_
          refine tz_aload_n (pc := 155) dX2_appliedPart_155 rfl rfl ?_
          refine tz_fR (pc := 156) dX2_appliedPart_156 fl_X2_28 r_141_0 ?_
          refine tz_aload_n (pc := 159) dX2_appliedPart_159 rfl rfl ?_
          refine tz_fR (pc := 160) dX2_appliedPart_160 fl_X2_28 r_141_0 ?_
          refine tz_fR (pc := 163) dX2_appliedPart_163 fl_X2_42 r_6_1 ?_
          refine tz_iload_n (pc := 166) dX2_appliedPart_166 rfl rfl ?_
          refine tz_aL (pc := 167) (z := t) (v := (J 7 t)) dX2_appliedPart_167 a_7 rfl (by omega) rfl (fun r_167 => ?_)
          refine tz_iload (pc := 168) dX2_appliedPart_168 rfl ?_
          refine tz_iload (pc := 170) dX2_appliedPart_170 rfl ?_
          refine tz_iload (pc := 172) dX2_appliedPart_172 rfl ?_
          refine tz_cV (pc := 174) (c_made hl n _ _ _ _ _ (by omega) (by omega) (by omega) (by omega) m ((GR.rf C hm)).2.1 ((GR.rf C hm)).2.2.1 (by have := ((GR.rf C hm)).2.1.ar (t := t) (by omega) (by have := ((GR.rf C hm)).1; omega); omega) (ltA_of (by omega) (by omega) (by omega))) vl_X2_52 dX2_appliedPart_174 o_6 rfl rfl (Nat.le_of_ble_eq_true rfl) ⟨(Nat.le_of_ble_eq_true rfl), (Nat.le_of_ble_eq_true rfl)⟩ rfl rfl (Nat.le_of_ble_eq_true rfl) (Nat.le_of_ble_eq_true rfl) (fun r9 J_174 hq9 => ?_)
          obtain ⟨z_174, rfl, hz_174, p_9⟩ := hq9
          obtain ⟨m9, g9, h9⟩ := GR.made p_9 (by omega)
          have q9 := GR.tr (GR.rf C hm) g9
          exact tz_iret (pc := 177) (z := z_174) dX2_appliedPart_177 rfl (Nat.le_of_ble_eq_true rfl) (Nat.le_of_ble_eq_true rfl) ⟨Nat.le_refl _, Nat.le_add_right _ _⟩ ⟨_, rfl, (by omega), (by first | exact ⟨m9, q9, h9⟩ | exact ⟨m, GR.rf C hm, Or.inr (by omega)⟩)⟩

set_option maxHeartbeats 4000000 in
set_option maxRecDepth 100000 in
theorem c_app140_5 {l : Launch} {G : tb_G} (hl : l.stackTraces = false) (n : Nat) (J : zJ) (t : Int) (hr_t : -2147483648 ≤ t ∧ t < 2147483648) (m : Int) (C : CT J m) (hm : J 6 12 = m) (ht : 0 ≤ t ∧ t < m) (hr : rOK J 140 0 m) : tz_Ok l G M_X2_appliedPart 4 0 0 [.ref 141, zi t, .ref 140, zi 0, zi 5] n J (zqi (fun z J' => ∃ m', GR J' J m m' ∧ (z = -3 ∨ (0 ≤ z ∧ z < m')))) zN := by
  refine tz_Ok.of hl (by decide +kernel) rfl (tb_c1 rfl) (Nat.le_of_ble_eq_true rfl) ?_
  show tz_At l G M_X2_appliedPart (tb_rm 4 0 0) none (tb_ZM G 0 0 (zQ n 0 (zqi (fun z J' => ∃ m', GR J' J m m' ∧ (z = -3 ∨ (0 ≤ z ∧ z < m'))))) (zX n 0 zN)) 0 0 n J 0 [some (.ref 141), some (zi t), some (.ref 140), some (zi 0), some (zi 5), none, none, none, none] []
  have hb := C.told
  have ha := C.ar ht.1 ht.2
  refine tz_iload (pc := 0) dX2_appliedPart_0 rfl ?_
  refine tz_bipush (pc := 2) dX2_appliedPart_2 (by decide) ?_
  refine tz_icmp_leT (pc := 4) (tgt := 10) (by decide) dX2_appliedPart_4 (by decide) (by decide) (by decide) ?_
  refine tz_aload_n (pc := 10) dX2_appliedPart_10 rfl rfl ?_
  refine tz_fR (pc := 11) dX2_appliedPart_11 fl_X2_28 r_141_0 ?_
  refine tz_iload_n (pc := 14) dX2_appliedPart_14 rfl rfl ?_
  refine tz_cV (pc := 15) (c_isVar hl n _ _ (by omega) (by omega)) vl_X2_36 dX2_appliedPart_15 o_6 rfl rfl (Nat.le_of_ble_eq_true rfl) ⟨(Nat.le_of_ble_eq_true rfl), (Nat.le_of_ble_eq_true rfl)⟩ rfl rfl (Nat.le_of_ble_eq_true rfl) (Nat.le_of_ble_eq_true rfl) (fun r9 J_15 hq9 => ?_)
  obtain ⟨z_15, rfl, hz_15, rfl, rfl⟩ := hq9
  by_cases hw_18 : J 7 t < 0
  · rw [show (if J 7 t < 0 then 1 else 0 : Int) = 1 from if_pos hw_18]
    refine tz_if_eqF (pc := 18) (tgt := 51) (by decide) dX2_appliedPart_18 (by decide) (by decide) ?_
    refine tz_aload_n (pc := 21) dX2_appliedPart_21 rfl rfl ?_
    refine tz_iload_n (pc := 22) dX2_appliedPart_22 rfl rfl ?_
    refine tz_aload_n (pc := 23) dX2_appliedPart_23 rfl rfl ?_
    refine tz_fR (pc := 24) dX2_appliedPart_24 fl_X2_28 r_141_0 ?_
    refine tz_fR (pc := 27) dX2_appliedPart_27 fl_X2_42 r_6_1 ?_
    refine tz_iload_n (pc := 30) dX2_appliedPart_30 rfl rfl ?_
    refine tz_aL (pc := 31) (z := t) (v := (J 7 t)) dX2_appliedPart_31 a_7 rfl (by omega) rfl (fun r_31 => ?_)
    refine tz_iconst (pc := 32) dX2_appliedPart_32 ?_
    refine tz_ixor (pc := 33) (v := zxor (J 7 t) (-1)) dX2_appliedPart_33 rfl ?_
    refine tz_iadd (pc := 34) (v := 0 + (zxor (J 7 t) (-1))) dX2_appliedPart_34 rfl ?_
    have hv := hr (zxor (J 7 t) (-1)) (by rw [z_nn (by omega)]; omega) (by rw [z_nn (by omega)]; omega)
    refine tz_aL (pc := 35) (z := (0 + (zxor (J 7 t) (-1)))) (v := (J 140 (0 + (zxor (J 7 t) (-1))))) dX2_appliedPart_35 a_140 rfl (by rw [z_nn (by omega)]; omega) rfl (fun r_35 => ?_)
    refine tz_istore (pc := 36) (L2 := [_, _, _, _, _, _, _, _, _]) dX2_appliedPart_36 (by decide) rfl ?_
    refine tz_iload (pc := 38) dX2_appliedPart_38 rfl ?_
    refine tz_iconst (pc := 40) dX2_appliedPart_40 ?_
    refine tz_icmp_ne (pc := 41) (tgt := 48) dX2_appliedPart_41 (by decide) (by omega) (by decide) (fun h_41 => ?_) (fun h_41 => ?_)
    · refine tz_iload (pc := 48) dX2_appliedPart_48 rfl ?_
      exact tz_iret (pc := 50) (z := (J 140 (0 + (zxor (J 7 t) (-1))))) dX2_appliedPart_50 rfl (Nat.le_of_ble_eq_true rfl) (Nat.le_of_ble_eq_true rfl) ⟨Nat.le_refl _, Nat.le_add_right _ _⟩ ⟨_, rfl, (by omega), (by first | exact ⟨m9, q9, h9⟩ | exact ⟨m, GR.rf C hm, Or.inr (by omega)⟩)⟩
    · refine tz_iload_n (pc := 44) dX2_appliedPart_44 rfl rfl ?_
      refine tz_goto (pc := 45) (tgt := 50) dX2_appliedPart_45 (by decide) ?_
      exact tz_iret (pc := 50) (z := t) dX2_appliedPart_50 rfl (Nat.le_of_ble_eq_true rfl) (Nat.le_of_ble_eq_true rfl) ⟨Nat.le_refl _, Nat.le_add_right _ _⟩ ⟨_, rfl, (by omega), (by first | exact ⟨m9, q9, h9⟩ | exact ⟨m, GR.rf C hm, Or.inr (by omega)⟩)⟩
  · rw [show (if J 7 t < 0 then 1 else 0 : Int) = 0 from if_neg hw_18]
    refine tz_if_eqT (pc := 18) (tgt := 51) (by decide) dX2_appliedPart_18 (by decide) (by decide) ?_
    refine tz_aload_n (pc := 51) dX2_appliedPart_51 rfl rfl ?_
    refine tz_fR (pc := 52) dX2_appliedPart_52 fl_X2_28 r_141_0 ?_
    refine tz_fR (pc := 55) dX2_appliedPart_55 fl_X2_45 r_6_2 ?_
    refine tz_iload_n (pc := 58) dX2_appliedPart_58 rfl rfl ?_
    refine tz_aL (pc := 59) (z := t) (v := (J 8 t)) dX2_appliedPart_59 a_8 rfl (by omega) rfl (fun r_59 => ?_)
    refine tz_istore (pc := 60) (L2 := [_, _, _, _, _, _, _, _, _]) dX2_appliedPart_60 (by decide) rfl ?_
    refine tz_iload (pc := 62) dX2_appliedPart_62 rfl ?_
    refine tz_iconst (pc := 64) dX2_appliedPart_64 ?_
    refine tz_icmp_ge (pc := 65) (tgt := 72) dX2_appliedPart_65 (by decide) (by omega) (by decide) (fun h_65 => ?_) (fun h_65 => ?_)
    · refine tz_aload_n (pc := 72) dX2_appliedPart_72 rfl rfl ?_
      refine tz_aload_n (pc := 73) dX2_appliedPart_73 rfl rfl ?_
      refine tz_fR (pc := 74) dX2_appliedPart_74 fl_X2_28 r_141_0 ?_
      refine tz_iload_n (pc := 77) dX2_appliedPart_77 rfl rfl ?_
      refine tz_iconst (pc := 78) dX2_appliedPart_78 ?_
      refine tz_cV (pc := 79) (c_arg hl n _ _ _ (by omega) (by decide) (by omega)) vl_X2_48 dX2_appliedPart_79 o_6 rfl rfl (Nat.le_of_ble_eq_true rfl) ⟨(Nat.le_of_ble_eq_true rfl), (Nat.le_of_ble_eq_true rfl)⟩ rfl rfl (Nat.le_of_ble_eq_true rfl) (Nat.le_of_ble_eq_true rfl) (fun r9 J_79 hq9 => ?_)
      obtain ⟨z_79, rfl, hz_79, rfl, rfl⟩ := hq9
      refine tz_aload_n (pc := 82) dX2_appliedPart_82 rfl rfl ?_
      refine tz_iload_n (pc := 83) dX2_appliedPart_83 rfl rfl ?_
      refine tz_iload (pc := 84) dX2_appliedPart_84 rfl ?_
      refine tz_iconst (pc := 86) dX2_appliedPart_86 ?_
      refine tz_iadd (pc := 87) (v := 6) dX2_appliedPart_87 (by decide) ?_
      have b_88 := GR.arg (GR.rf C hm) C ht (i := 0) (by omega)
      have c_88 := ((GR.rf C hm)).1
      refine tz_cV (pc := 88) (c_app140_6 hl n _ _ (by omega) m ((GR.rf C hm)).2.1 ((GR.rf C hm)).2.2.1 (by omega) (GR.row (GR.rf C hm) rfl hr)) vl_X2_32 dX2_appliedPart_88 o_141 rfl rfl (Nat.le_of_ble_eq_true rfl) ⟨(Nat.le_of_ble_eq_true rfl), (Nat.le_of_ble_eq_true rfl)⟩ rfl rfl (Nat.le_of_ble_eq_true rfl) (Nat.le_of_ble_eq_true rfl) (fun r9 J_88 hq9 => ?_)
      obtain ⟨z_88, rfl, hz_88, m_88, g_88, hz_88⟩ := hq9
      have q_88 := GR.tr (GR.rf C hm) g_88
      have d_88 := q_88.1
      have e_88 := g_88.1
      refine tz_istore (pc := 91) (L2 := [_, _, _, _, _, _, _, _, _]) dX2_appliedPart_91 (by decide) rfl ?_
      refine tz_iload (pc := 93) dX2_appliedPart_93 rfl ?_
      refine tz_iconst (pc := 95) dX2_appliedPart_95 ?_
      refine tz_icmp_ge (pc := 96) (tgt := 103) dX2_appliedPart_96 (by decide) (by omega) (by decide) (fun h_96 => ?_) (fun h_96 => ?_)
      · refine tz_aload_n (pc := 103) dX2_appliedPart_103 rfl rfl ?_
        refine tz_aload_n (pc := 104) dX2_appliedPart_104 rfl rfl ?_
        refine tz_fR (pc := 105) dX2_appliedPart_105 fl_X2_28 r_141_0 ?_
        refine tz_iload_n (pc := 108) dX2_appliedPart_108 rfl rfl ?_
        refine tz_iconst (pc := 109) dX2_appliedPart_109 ?_
        refine tz_cV (pc := 110) (c_arg hl n _ _ _ (by omega) (by decide) (by omega)) vl_X2_48 dX2_appliedPart_110 o_6 rfl rfl (Nat.le_of_ble_eq_true rfl) ⟨(Nat.le_of_ble_eq_true rfl), (Nat.le_of_ble_eq_true rfl)⟩ rfl rfl (Nat.le_of_ble_eq_true rfl) (Nat.le_of_ble_eq_true rfl) (fun r9 J_110 hq9 => ?_)
        obtain ⟨z_110, rfl, hz_110, rfl, rfl⟩ := hq9
        refine tz_aload_n (pc := 113) dX2_appliedPart_113 rfl rfl ?_
        refine tz_iload_n (pc := 114) dX2_appliedPart_114 rfl rfl ?_
        refine tz_iload (pc := 115) dX2_appliedPart_115 rfl ?_
        refine tz_iconst (pc := 117) dX2_appliedPart_117 ?_
        refine tz_iadd (pc := 118) (v := 6) dX2_appliedPart_118 (by decide) ?_
        have b_119 := GR.arg q_88 C ht (i := 1) (by omega)
        have c_119 := (q_88).1
        refine tz_cV (pc := 119) (c_app140_6 hl n _ _ (by omega) m_88 (q_88).2.1 (q_88).2.2.1 (by omega) (GR.row q_88 rfl hr)) vl_X2_32 dX2_appliedPart_119 o_141 rfl rfl (Nat.le_of_ble_eq_true rfl) ⟨(Nat.le_of_ble_eq_true rfl), (Nat.le_of_ble_eq_true rfl)⟩ rfl rfl (Nat.le_of_ble_eq_true rfl) (Nat.le_of_ble_eq_true rfl) (fun r9 J_119 hq9 => ?_)
        obtain ⟨z_119, rfl, hz_119, m_119, g_119, hz_119⟩ := hq9
        have q_119 := GR.tr q_88 g_119
        have d_119 := q_119.1
        have e_119 := g_119.1
        refine tz_istore (pc := 122) (L2 := [_, _, _, _, _, _, _, _, _]) dX2_appliedPart_122 (by decide) rfl ?_
        refine tz_iload (pc := 124) dX2_appliedPart_124 rfl ?_
        refine tz_iconst (pc := 126) dX2_appliedPart_126 ?_
        refine tz_icmp_ge (pc := 127) (tgt := 134) dX2_appliedPart_127 (by decide) (by omega) (by decide) (fun h_127 => ?_) (fun h_127 => ?_)
        · refine tz_aload_n (pc := 134) dX2_appliedPart_134 rfl rfl ?_
          refine tz_aload_n (pc := 135) dX2_appliedPart_135 rfl rfl ?_
          refine tz_fR (pc := 136) dX2_appliedPart_136 fl_X2_28 r_141_0 ?_
          refine tz_iload_n (pc := 139) dX2_appliedPart_139 rfl rfl ?_
          refine tz_iconst (pc := 140) dX2_appliedPart_140 ?_
          refine tz_cV (pc := 141) (c_arg hl n _ _ _ (by omega) (by decide) (by omega)) vl_X2_48 dX2_appliedPart_141 o_6 rfl rfl (Nat.le_of_ble_eq_true rfl) ⟨(Nat.le_of_ble_eq_true rfl), (Nat.le_of_ble_eq_true rfl)⟩ rfl rfl (Nat.le_of_ble_eq_true rfl) (Nat.le_of_ble_eq_true rfl) (fun r9 J_141 hq9 => ?_)
          obtain ⟨z_141, rfl, hz_141, rfl, rfl⟩ := hq9
          refine tz_aload_n (pc := 144) dX2_appliedPart_144 rfl rfl ?_
          refine tz_iload_n (pc := 145) dX2_appliedPart_145 rfl rfl ?_
          refine tz_iload (pc := 146) dX2_appliedPart_146 rfl ?_
          refine tz_iconst (pc := 148) dX2_appliedPart_148 ?_
          refine tz_iadd (pc := 149) (v := 6) dX2_appliedPart_149 (by decide) ?_
          have b_150 := GR.arg q_119 C ht (i := 2) (by omega)
          have c_150 := (q_119).1
          refine tz_cV (pc := 150) (c_app140_6 hl n _ _ (by omega) m_119 (q_119).2.1 (q_119).2.2.1 (by omega) (GR.row q_119 rfl hr)) vl_X2_32 dX2_appliedPart_150 o_141 rfl rfl (Nat.le_of_ble_eq_true rfl) ⟨(Nat.le_of_ble_eq_true rfl), (Nat.le_of_ble_eq_true rfl)⟩ rfl rfl (Nat.le_of_ble_eq_true rfl) (Nat.le_of_ble_eq_true rfl) (fun r9 J_150 hq9 => ?_)
          obtain ⟨z_150, rfl, hz_150, m_150, g_150, hz_150⟩ := hq9
          have q_150 := GR.tr q_119 g_150
          have d_150 := q_150.1
          have e_150 := g_150.1
          refine tz_istore (pc := 153) (L2 := [_, _, _, _, _, _, _, _, _]) dX2_appliedPart_153 (by decide) rfl ?_
          refine tz_aload_n (pc := 155) dX2_appliedPart_155 rfl rfl ?_
          refine tz_fR (pc := 156) dX2_appliedPart_156 fl_X2_28 r_141_0 ?_
          refine tz_aload_n (pc := 159) dX2_appliedPart_159 rfl rfl ?_
          refine tz_fR (pc := 160) dX2_appliedPart_160 fl_X2_28 r_141_0 ?_
          refine tz_fR (pc := 163) dX2_appliedPart_163 fl_X2_42 r_6_1 ?_
          refine tz_iload_n (pc := 166) dX2_appliedPart_166 rfl rfl ?_
          refine tz_aL (pc := 167) (z := t) (v := (J_150 7 t)) dX2_appliedPart_167 a_7 rfl (by omega) rfl (fun r_167 => ?_)
          refine tz_iload (pc := 168) dX2_appliedPart_168 rfl ?_
          refine tz_iload (pc := 170) dX2_appliedPart_170 rfl ?_
          refine tz_iload (pc := 172) dX2_appliedPart_172 rfl ?_
          refine tz_cV (pc := 174) (c_made hl n _ _ _ _ _ (by omega) (by omega) (by omega) (by omega) m_150 (q_150).2.1 (q_150).2.2.1 (by have := (q_150).2.1.ar (t := t) (by omega) (by have := (q_150).1; omega); omega) (ltA_of (by omega) (by omega) (by omega))) vl_X2_52 dX2_appliedPart_174 o_6 rfl rfl (Nat.le_of_ble_eq_true rfl) ⟨(Nat.le_of_ble_eq_true rfl), (Nat.le_of_ble_eq_true rfl)⟩ rfl rfl (Nat.le_of_ble_eq_true rfl) (Nat.le_of_ble_eq_true rfl) (fun r9 J_174 hq9 => ?_)
          obtain ⟨z_174, rfl, hz_174, p_9⟩ := hq9
          obtain ⟨m9, g9, h9⟩ := GR.made p_9 (by omega)
          have q9 := GR.tr q_150 g9
          exact tz_iret (pc := 177) (z := z_174) dX2_appliedPart_177 rfl (Nat.le_of_ble_eq_true rfl) (Nat.le_of_ble_eq_true rfl) ⟨Nat.le_refl _, Nat.le_add_right _ _⟩ ⟨_, rfl, (by omega), (by first | exact ⟨m9, q9, h9⟩ | exact ⟨m, GR.rf C hm, Or.inr (by omega)⟩)⟩
        · refine tz_iconst (pc := 130) dX2_appliedPart_130 ?_
          refine tz_goto (pc := 131) (tgt := 153) dX2_appliedPart_131 (by decide) ?_
          refine tz_istore (pc := 153) (L2 := [_, _, _, _, _, _, _, _, _]) dX2_appliedPart_153 (by decide) rfl ?_
          refine tz_aload_n (pc := 155) dX2_appliedPart_155 rfl rfl ?_
          refine tz_fR (pc := 156) dX2_appliedPart_156 fl_X2_28 r_141_0 ?_
          refine tz_aload_n (pc := 159) dX2_appliedPart_159 rfl rfl ?_
          refine tz_fR (pc := 160) dX2_appliedPart_160 fl_X2_28 r_141_0 ?_
          refine tz_fR (pc := 163) dX2_appliedPart_163 fl_X2_42 r_6_1 ?_
          refine tz_iload_n (pc := 166) dX2_appliedPart_166 rfl rfl ?_
          refine tz_aL (pc := 167) (z := t) (v := (J_119 7 t)) dX2_appliedPart_167 a_7 rfl (by omega) rfl (fun r_167 => ?_)
          refine tz_iload (pc := 168) dX2_appliedPart_168 rfl ?_
          refine tz_iload (pc := 170) dX2_appliedPart_170 rfl ?_
          refine tz_iload (pc := 172) dX2_appliedPart_172 rfl ?_
          refine tz_cV (pc := 174) (c_made hl n _ _ _ _ _ (by omega) (by omega) (by omega) (by omega) m_119 (q_119).2.1 (q_119).2.2.1 (by have := (q_119).2.1.ar (t := t) (by omega) (by have := (q_119).1; omega); omega) (ltA_of (by omega) (by omega) (by omega))) vl_X2_52 dX2_appliedPart_174 o_6 rfl rfl (Nat.le_of_ble_eq_true rfl) ⟨(Nat.le_of_ble_eq_true rfl), (Nat.le_of_ble_eq_true rfl)⟩ rfl rfl (Nat.le_of_ble_eq_true rfl) (Nat.le_of_ble_eq_true rfl) (fun r9 J_174 hq9 => ?_)
          obtain ⟨z_174, rfl, hz_174, p_9⟩ := hq9
          obtain ⟨m9, g9, h9⟩ := GR.made p_9 (by omega)
          have q9 := GR.tr q_119 g9
          exact tz_iret (pc := 177) (z := z_174) dX2_appliedPart_177 rfl (Nat.le_of_ble_eq_true rfl) (Nat.le_of_ble_eq_true rfl) ⟨Nat.le_refl _, Nat.le_add_right _ _⟩ ⟨_, rfl, (by omega), (by first | exact ⟨m9, q9, h9⟩ | exact ⟨m, GR.rf C hm, Or.inr (by omega)⟩)⟩
      · refine tz_iconst (pc := 99) dX2_appliedPart_99 ?_
        refine tz_goto (pc := 100) (tgt := 122) dX2_appliedPart_100 (by decide) ?_
        refine tz_istore (pc := 122) (L2 := [_, _, _, _, _, _, _, _, _]) dX2_appliedPart_122 (by decide) rfl ?_
        refine tz_iload (pc := 124) dX2_appliedPart_124 rfl ?_
        refine tz_iconst (pc := 126) dX2_appliedPart_126 ?_
        refine tz_icmp_ge (pc := 127) (tgt := 134) dX2_appliedPart_127 (by decide) (by omega) (by decide) (fun h_127 => ?_) (fun h_127 => ?_)
        · refine tz_aload_n (pc := 134) dX2_appliedPart_134 rfl rfl ?_
          refine tz_aload_n (pc := 135) dX2_appliedPart_135 rfl rfl ?_
          refine tz_fR (pc := 136) dX2_appliedPart_136 fl_X2_28 r_141_0 ?_
          refine tz_iload_n (pc := 139) dX2_appliedPart_139 rfl rfl ?_
          refine tz_iconst (pc := 140) dX2_appliedPart_140 ?_
          refine tz_cV (pc := 141) (c_arg hl n _ _ _ (by omega) (by decide) (by omega)) vl_X2_48 dX2_appliedPart_141 o_6 rfl rfl (Nat.le_of_ble_eq_true rfl) ⟨(Nat.le_of_ble_eq_true rfl), (Nat.le_of_ble_eq_true rfl)⟩ rfl rfl (Nat.le_of_ble_eq_true rfl) (Nat.le_of_ble_eq_true rfl) (fun r9 J_141 hq9 => ?_)
          obtain ⟨z_141, rfl, hz_141, rfl, rfl⟩ := hq9
          refine tz_aload_n (pc := 144) dX2_appliedPart_144 rfl rfl ?_
          refine tz_iload_n (pc := 145) dX2_appliedPart_145 rfl rfl ?_
          refine tz_iload (pc := 146) dX2_appliedPart_146 rfl ?_
          refine tz_iconst (pc := 148) dX2_appliedPart_148 ?_
          refine tz_iadd (pc := 149) (v := 6) dX2_appliedPart_149 (by decide) ?_
          have b_150 := GR.arg q_88 C ht (i := 2) (by omega)
          have c_150 := (q_88).1
          refine tz_cV (pc := 150) (c_app140_6 hl n _ _ (by omega) m_88 (q_88).2.1 (q_88).2.2.1 (by omega) (GR.row q_88 rfl hr)) vl_X2_32 dX2_appliedPart_150 o_141 rfl rfl (Nat.le_of_ble_eq_true rfl) ⟨(Nat.le_of_ble_eq_true rfl), (Nat.le_of_ble_eq_true rfl)⟩ rfl rfl (Nat.le_of_ble_eq_true rfl) (Nat.le_of_ble_eq_true rfl) (fun r9 J_150 hq9 => ?_)
          obtain ⟨z_150, rfl, hz_150, m_150, g_150, hz_150⟩ := hq9
          have q_150 := GR.tr q_88 g_150
          have d_150 := q_150.1
          have e_150 := g_150.1
          refine tz_istore (pc := 153) (L2 := [_, _, _, _, _, _, _, _, _]) dX2_appliedPart_153 (by decide) rfl ?_
          refine tz_aload_n (pc := 155) dX2_appliedPart_155 rfl rfl ?_
          refine tz_fR (pc := 156) dX2_appliedPart_156 fl_X2_28 r_141_0 ?_
          refine tz_aload_n (pc := 159) dX2_appliedPart_159 rfl rfl ?_
          refine tz_fR (pc := 160) dX2_appliedPart_160 fl_X2_28 r_141_0 ?_
          refine tz_fR (pc := 163) dX2_appliedPart_163 fl_X2_42 r_6_1 ?_
          refine tz_iload_n (pc := 166) dX2_appliedPart_166 rfl rfl ?_
          refine tz_aL (pc := 167) (z := t) (v := (J_150 7 t)) dX2_appliedPart_167 a_7 rfl (by omega) rfl (fun r_167 => ?_)
          refine tz_iload (pc := 168) dX2_appliedPart_168 rfl ?_
          refine tz_iload (pc := 170) dX2_appliedPart_170 rfl ?_
          refine tz_iload (pc := 172) dX2_appliedPart_172 rfl ?_
          refine tz_cV (pc := 174) (c_made hl n _ _ _ _ _ (by omega) (by omega) (by omega) (by omega) m_150 (q_150).2.1 (q_150).2.2.1 (by have := (q_150).2.1.ar (t := t) (by omega) (by have := (q_150).1; omega); omega) (ltA_of (by omega) (by omega) (by omega))) vl_X2_52 dX2_appliedPart_174 o_6 rfl rfl (Nat.le_of_ble_eq_true rfl) ⟨(Nat.le_of_ble_eq_true rfl), (Nat.le_of_ble_eq_true rfl)⟩ rfl rfl (Nat.le_of_ble_eq_true rfl) (Nat.le_of_ble_eq_true rfl) (fun r9 J_174 hq9 => ?_)
          obtain ⟨z_174, rfl, hz_174, p_9⟩ := hq9
          obtain ⟨m9, g9, h9⟩ := GR.made p_9 (by omega)
          have q9 := GR.tr q_150 g9
          exact tz_iret (pc := 177) (z := z_174) dX2_appliedPart_177 rfl (Nat.le_of_ble_eq_true rfl) (Nat.le_of_ble_eq_true rfl) ⟨Nat.le_refl _, Nat.le_add_right _ _⟩ ⟨_, rfl, (by omega), (by first | exact ⟨m9, q9, h9⟩ | exact ⟨m, GR.rf C hm, Or.inr (by omega)⟩)⟩
        · refine tz_iconst (pc := 130) dX2_appliedPart_130 ?_
          refine tz_goto (pc := 131) (tgt := 153) dX2_appliedPart_131 (by decide) ?_
          refine tz_istore (pc := 153) (L2 := [_, _, _, _, _, _, _, _, _]) dX2_appliedPart_153 (by decide) rfl ?_
          refine tz_aload_n (pc := 155) dX2_appliedPart_155 rfl rfl ?_
          refine tz_fR (pc := 156) dX2_appliedPart_156 fl_X2_28 r_141_0 ?_
          refine tz_aload_n (pc := 159) dX2_appliedPart_159 rfl rfl ?_
          refine tz_fR (pc := 160) dX2_appliedPart_160 fl_X2_28 r_141_0 ?_
          refine tz_fR (pc := 163) dX2_appliedPart_163 fl_X2_42 r_6_1 ?_
          refine tz_iload_n (pc := 166) dX2_appliedPart_166 rfl rfl ?_
          refine tz_aL (pc := 167) (z := t) (v := (J_88 7 t)) dX2_appliedPart_167 a_7 rfl (by omega) rfl (fun r_167 => ?_)
          refine tz_iload (pc := 168) dX2_appliedPart_168 rfl ?_
          refine tz_iload (pc := 170) dX2_appliedPart_170 rfl ?_
          refine tz_iload (pc := 172) dX2_appliedPart_172 rfl ?_
          refine tz_cV (pc := 174) (c_made hl n _ _ _ _ _ (by omega) (by omega) (by omega) (by omega) m_88 (q_88).2.1 (q_88).2.2.1 (by have := (q_88).2.1.ar (t := t) (by omega) (by have := (q_88).1; omega); omega) (ltA_of (by omega) (by omega) (by omega))) vl_X2_52 dX2_appliedPart_174 o_6 rfl rfl (Nat.le_of_ble_eq_true rfl) ⟨(Nat.le_of_ble_eq_true rfl), (Nat.le_of_ble_eq_true rfl)⟩ rfl rfl (Nat.le_of_ble_eq_true rfl) (Nat.le_of_ble_eq_true rfl) (fun r9 J_174 hq9 => ?_)
          obtain ⟨z_174, rfl, hz_174, p_9⟩ := hq9
          obtain ⟨m9, g9, h9⟩ := GR.made p_9 (by omega)
          have q9 := GR.tr q_88 g9
          exact tz_iret (pc := 177) (z := z_174) dX2_appliedPart_177 rfl (Nat.le_of_ble_eq_true rfl) (Nat.le_of_ble_eq_true rfl) ⟨Nat.le_refl _, Nat.le_add_right _ _⟩ ⟨_, rfl, (by omega), (by first | exact ⟨m9, q9, h9⟩ | exact ⟨m, GR.rf C hm, Or.inr (by omega)⟩)⟩
    · refine tz_iconst (pc := 68) dX2_appliedPart_68 ?_
      refine tz_goto (pc := 69) (tgt := 91) dX2_appliedPart_69 (by decide) ?_
      refine tz_istore (pc := 91) (L2 := [_, _, _, _, _, _, _, _, _]) dX2_appliedPart_91 (by decide) rfl ?_
      refine tz_iload (pc := 93) dX2_appliedPart_93 rfl ?_
      refine tz_iconst (pc := 95) dX2_appliedPart_95 ?_
      refine tz_icmp_ge (pc := 96) (tgt := 103) dX2_appliedPart_96 (by decide) (by omega) (by decide) (fun h_96 => ?_) (fun h_96 => ?_)
      · refine tz_aload_n (pc := 103) dX2_appliedPart_103 rfl rfl ?_
        refine tz_aload_n (pc := 104) dX2_appliedPart_104 rfl rfl ?_
        refine tz_fR (pc := 105) dX2_appliedPart_105 fl_X2_28 r_141_0 ?_
        refine tz_iload_n (pc := 108) dX2_appliedPart_108 rfl rfl ?_
        refine tz_iconst (pc := 109) dX2_appliedPart_109 ?_
        refine tz_cV (pc := 110) (c_arg hl n _ _ _ (by omega) (by decide) (by omega)) vl_X2_48 dX2_appliedPart_110 o_6 rfl rfl (Nat.le_of_ble_eq_true rfl) ⟨(Nat.le_of_ble_eq_true rfl), (Nat.le_of_ble_eq_true rfl)⟩ rfl rfl (Nat.le_of_ble_eq_true rfl) (Nat.le_of_ble_eq_true rfl) (fun r9 J_110 hq9 => ?_)
        obtain ⟨z_110, rfl, hz_110, rfl, rfl⟩ := hq9
        refine tz_aload_n (pc := 113) dX2_appliedPart_113 rfl rfl ?_
        refine tz_iload_n (pc := 114) dX2_appliedPart_114 rfl rfl ?_
        refine tz_iload (pc := 115) dX2_appliedPart_115 rfl ?_
        refine tz_iconst (pc := 117) dX2_appliedPart_117 ?_
        refine tz_iadd (pc := 118) (v := 6) dX2_appliedPart_118 (by decide) ?_
        have b_119 := GR.arg (GR.rf C hm) C ht (i := 1) (by omega)
        have c_119 := ((GR.rf C hm)).1
        refine tz_cV (pc := 119) (c_app140_6 hl n _ _ (by omega) m ((GR.rf C hm)).2.1 ((GR.rf C hm)).2.2.1 (by omega) (GR.row (GR.rf C hm) rfl hr)) vl_X2_32 dX2_appliedPart_119 o_141 rfl rfl (Nat.le_of_ble_eq_true rfl) ⟨(Nat.le_of_ble_eq_true rfl), (Nat.le_of_ble_eq_true rfl)⟩ rfl rfl (Nat.le_of_ble_eq_true rfl) (Nat.le_of_ble_eq_true rfl) (fun r9 J_119 hq9 => ?_)
        obtain ⟨z_119, rfl, hz_119, m_119, g_119, hz_119⟩ := hq9
        have q_119 := GR.tr (GR.rf C hm) g_119
        have d_119 := q_119.1
        have e_119 := g_119.1
        refine tz_istore (pc := 122) (L2 := [_, _, _, _, _, _, _, _, _]) dX2_appliedPart_122 (by decide) rfl ?_
        refine tz_iload (pc := 124) dX2_appliedPart_124 rfl ?_
        refine tz_iconst (pc := 126) dX2_appliedPart_126 ?_
        refine tz_icmp_ge (pc := 127) (tgt := 134) dX2_appliedPart_127 (by decide) (by omega) (by decide) (fun h_127 => ?_) (fun h_127 => ?_)
        · refine tz_aload_n (pc := 134) dX2_appliedPart_134 rfl rfl ?_
          refine tz_aload_n (pc := 135) dX2_appliedPart_135 rfl rfl ?_
          refine tz_fR (pc := 136) dX2_appliedPart_136 fl_X2_28 r_141_0 ?_
          refine tz_iload_n (pc := 139) dX2_appliedPart_139 rfl rfl ?_
          refine tz_iconst (pc := 140) dX2_appliedPart_140 ?_
          refine tz_cV (pc := 141) (c_arg hl n _ _ _ (by omega) (by decide) (by omega)) vl_X2_48 dX2_appliedPart_141 o_6 rfl rfl (Nat.le_of_ble_eq_true rfl) ⟨(Nat.le_of_ble_eq_true rfl), (Nat.le_of_ble_eq_true rfl)⟩ rfl rfl (Nat.le_of_ble_eq_true rfl) (Nat.le_of_ble_eq_true rfl) (fun r9 J_141 hq9 => ?_)
          obtain ⟨z_141, rfl, hz_141, rfl, rfl⟩ := hq9
          refine tz_aload_n (pc := 144) dX2_appliedPart_144 rfl rfl ?_
          refine tz_iload_n (pc := 145) dX2_appliedPart_145 rfl rfl ?_
          refine tz_iload (pc := 146) dX2_appliedPart_146 rfl ?_
          refine tz_iconst (pc := 148) dX2_appliedPart_148 ?_
          refine tz_iadd (pc := 149) (v := 6) dX2_appliedPart_149 (by decide) ?_
          have b_150 := GR.arg q_119 C ht (i := 2) (by omega)
          have c_150 := (q_119).1
          refine tz_cV (pc := 150) (c_app140_6 hl n _ _ (by omega) m_119 (q_119).2.1 (q_119).2.2.1 (by omega) (GR.row q_119 rfl hr)) vl_X2_32 dX2_appliedPart_150 o_141 rfl rfl (Nat.le_of_ble_eq_true rfl) ⟨(Nat.le_of_ble_eq_true rfl), (Nat.le_of_ble_eq_true rfl)⟩ rfl rfl (Nat.le_of_ble_eq_true rfl) (Nat.le_of_ble_eq_true rfl) (fun r9 J_150 hq9 => ?_)
          obtain ⟨z_150, rfl, hz_150, m_150, g_150, hz_150⟩ := hq9
          have q_150 := GR.tr q_119 g_150
          have d_150 := q_150.1
          have e_150 := g_150.1
          refine tz_istore (pc := 153) (L2 := [_, _, _, _, _, _, _, _, _]) dX2_appliedPart_153 (by decide) rfl ?_
          refine tz_aload_n (pc := 155) dX2_appliedPart_155 rfl rfl ?_
          refine tz_fR (pc := 156) dX2_appliedPart_156 fl_X2_28 r_141_0 ?_
          refine tz_aload_n (pc := 159) dX2_appliedPart_159 rfl rfl ?_
          refine tz_fR (pc := 160) dX2_appliedPart_160 fl_X2_28 r_141_0 ?_
          refine tz_fR (pc := 163) dX2_appliedPart_163 fl_X2_42 r_6_1 ?_
          refine tz_iload_n (pc := 166) dX2_appliedPart_166 rfl rfl ?_
          refine tz_aL (pc := 167) (z := t) (v := (J_150 7 t)) dX2_appliedPart_167 a_7 rfl (by omega) rfl (fun r_167 => ?_)
          refine tz_iload (pc := 168) dX2_appliedPart_168 rfl ?_
          refine tz_iload (pc := 170) dX2_appliedPart_170 rfl ?_
          refine tz_iload (pc := 172) dX2_appliedPart_172 rfl ?_
          refine tz_cV (pc := 174) (c_made hl n _ _ _ _ _ (by omega) (by omega) (by omega) (by omega) m_150 (q_150).2.1 (q_150).2.2.1 (by have := (q_150).2.1.ar (t := t) (by omega) (by have := (q_150).1; omega); omega) (ltA_of (by omega) (by omega) (by omega))) vl_X2_52 dX2_appliedPart_174 o_6 rfl rfl (Nat.le_of_ble_eq_true rfl) ⟨(Nat.le_of_ble_eq_true rfl), (Nat.le_of_ble_eq_true rfl)⟩ rfl rfl (Nat.le_of_ble_eq_true rfl) (Nat.le_of_ble_eq_true rfl) (fun r9 J_174 hq9 => ?_)
          obtain ⟨z_174, rfl, hz_174, p_9⟩ := hq9
          obtain ⟨m9, g9, h9⟩ := GR.made p_9 (by omega)
          have q9 := GR.tr q_150 g9
          exact tz_iret (pc := 177) (z := z_174) dX2_appliedPart_177 rfl (Nat.le_of_ble_eq_true rfl) (Nat.le_of_ble_eq_true rfl) ⟨Nat.le_refl _, Nat.le_add_right _ _⟩ ⟨_, rfl, (by omega), (by first | exact ⟨m9, q9, h9⟩ | exact ⟨m, GR.rf C hm, Or.inr (by omega)⟩)⟩
        · refine tz_iconst (pc := 130) dX2_appliedPart_130 ?_
          refine tz_goto (pc := 131) (tgt := 153) dX2_appliedPart_131 (by decide) ?_
          refine tz_istore (pc := 153) (L2 := [_, _, _, _, _, _, _, _, _]) dX2_appliedPart_153 (by decide) rfl ?_
          refine tz_aload_n (pc := 155) dX2_appliedPart_155 rfl rfl ?_
          refine tz_fR (pc := 156) dX2_appliedPart_156 fl_X2_28 r_141_0 ?_
          refine tz_aload_n (pc := 159) dX2_appliedPart_159 rfl rfl ?_
          refine tz_fR (pc := 160) dX2_appliedPart_160 fl_X2_28 r_141_0 ?_
          refine tz_fR (pc := 163) dX2_appliedPart_163 fl_X2_42 r_6_1 ?_
          refine tz_iload_n (pc := 166) dX2_appliedPart_166 rfl rfl ?_
          refine tz_aL (pc := 167) (z := t) (v := (J_119 7 t)) dX2_appliedPart_167 a_7 rfl (by omega) rfl (fun r_167 => ?_)
          refine tz_iload (pc := 168) dX2_appliedPart_168 rfl ?_
          refine tz_iload (pc := 170) dX2_appliedPart_170 rfl ?_
          refine tz_iload (pc := 172) dX2_appliedPart_172 rfl ?_
          refine tz_cV (pc := 174) (c_made hl n _ _ _ _ _ (by omega) (by omega) (by omega) (by omega) m_119 (q_119).2.1 (q_119).2.2.1 (by have := (q_119).2.1.ar (t := t) (by omega) (by have := (q_119).1; omega); omega) (ltA_of (by omega) (by omega) (by omega))) vl_X2_52 dX2_appliedPart_174 o_6 rfl rfl (Nat.le_of_ble_eq_true rfl) ⟨(Nat.le_of_ble_eq_true rfl), (Nat.le_of_ble_eq_true rfl)⟩ rfl rfl (Nat.le_of_ble_eq_true rfl) (Nat.le_of_ble_eq_true rfl) (fun r9 J_174 hq9 => ?_)
          obtain ⟨z_174, rfl, hz_174, p_9⟩ := hq9
          obtain ⟨m9, g9, h9⟩ := GR.made p_9 (by omega)
          have q9 := GR.tr q_119 g9
          exact tz_iret (pc := 177) (z := z_174) dX2_appliedPart_177 rfl (Nat.le_of_ble_eq_true rfl) (Nat.le_of_ble_eq_true rfl) ⟨Nat.le_refl _, Nat.le_add_right _ _⟩ ⟨_, rfl, (by omega), (by first | exact ⟨m9, q9, h9⟩ | exact ⟨m, GR.rf C hm, Or.inr (by omega)⟩)⟩
      · refine tz_iconst (pc := 99) dX2_appliedPart_99 ?_
        refine tz_goto (pc := 100) (tgt := 122) dX2_appliedPart_100 (by decide) ?_
        refine tz_istore (pc := 122) (L2 := [_, _, _, _, _, _, _, _, _]) dX2_appliedPart_122 (by decide) rfl ?_
        refine tz_iload (pc := 124) dX2_appliedPart_124 rfl ?_
        refine tz_iconst (pc := 126) dX2_appliedPart_126 ?_
        refine tz_icmp_ge (pc := 127) (tgt := 134) dX2_appliedPart_127 (by decide) (by omega) (by decide) (fun h_127 => ?_) (fun h_127 => ?_)
        · refine tz_aload_n (pc := 134) dX2_appliedPart_134 rfl rfl ?_
          refine tz_aload_n (pc := 135) dX2_appliedPart_135 rfl rfl ?_
          refine tz_fR (pc := 136) dX2_appliedPart_136 fl_X2_28 r_141_0 ?_
          refine tz_iload_n (pc := 139) dX2_appliedPart_139 rfl rfl ?_
          refine tz_iconst (pc := 140) dX2_appliedPart_140 ?_
          refine tz_cV (pc := 141) (c_arg hl n _ _ _ (by omega) (by decide) (by omega)) vl_X2_48 dX2_appliedPart_141 o_6 rfl rfl (Nat.le_of_ble_eq_true rfl) ⟨(Nat.le_of_ble_eq_true rfl), (Nat.le_of_ble_eq_true rfl)⟩ rfl rfl (Nat.le_of_ble_eq_true rfl) (Nat.le_of_ble_eq_true rfl) (fun r9 J_141 hq9 => ?_)
          obtain ⟨z_141, rfl, hz_141, rfl, rfl⟩ := hq9
          refine tz_aload_n (pc := 144) dX2_appliedPart_144 rfl rfl ?_
          refine tz_iload_n (pc := 145) dX2_appliedPart_145 rfl rfl ?_
          refine tz_iload (pc := 146) dX2_appliedPart_146 rfl ?_
          refine tz_iconst (pc := 148) dX2_appliedPart_148 ?_
          refine tz_iadd (pc := 149) (v := 6) dX2_appliedPart_149 (by decide) ?_
          have b_150 := GR.arg (GR.rf C hm) C ht (i := 2) (by omega)
          have c_150 := ((GR.rf C hm)).1
          refine tz_cV (pc := 150) (c_app140_6 hl n _ _ (by omega) m ((GR.rf C hm)).2.1 ((GR.rf C hm)).2.2.1 (by omega) (GR.row (GR.rf C hm) rfl hr)) vl_X2_32 dX2_appliedPart_150 o_141 rfl rfl (Nat.le_of_ble_eq_true rfl) ⟨(Nat.le_of_ble_eq_true rfl), (Nat.le_of_ble_eq_true rfl)⟩ rfl rfl (Nat.le_of_ble_eq_true rfl) (Nat.le_of_ble_eq_true rfl) (fun r9 J_150 hq9 => ?_)
          obtain ⟨z_150, rfl, hz_150, m_150, g_150, hz_150⟩ := hq9
          have q_150 := GR.tr (GR.rf C hm) g_150
          have d_150 := q_150.1
          have e_150 := g_150.1
          refine tz_istore (pc := 153) (L2 := [_, _, _, _, _, _, _, _, _]) dX2_appliedPart_153 (by decide) rfl ?_
          refine tz_aload_n (pc := 155) dX2_appliedPart_155 rfl rfl ?_
          refine tz_fR (pc := 156) dX2_appliedPart_156 fl_X2_28 r_141_0 ?_
          refine tz_aload_n (pc := 159) dX2_appliedPart_159 rfl rfl ?_
          refine tz_fR (pc := 160) dX2_appliedPart_160 fl_X2_28 r_141_0 ?_
          refine tz_fR (pc := 163) dX2_appliedPart_163 fl_X2_42 r_6_1 ?_
          refine tz_iload_n (pc := 166) dX2_appliedPart_166 rfl rfl ?_
          refine tz_aL (pc := 167) (z := t) (v := (J_150 7 t)) dX2_appliedPart_167 a_7 rfl (by omega) rfl (fun r_167 => ?_)
          refine tz_iload (pc := 168) dX2_appliedPart_168 rfl ?_
          refine tz_iload (pc := 170) dX2_appliedPart_170 rfl ?_
          refine tz_iload (pc := 172) dX2_appliedPart_172 rfl ?_
          refine tz_cV (pc := 174) (c_made hl n _ _ _ _ _ (by omega) (by omega) (by omega) (by omega) m_150 (q_150).2.1 (q_150).2.2.1 (by have := (q_150).2.1.ar (t := t) (by omega) (by have := (q_150).1; omega); omega) (ltA_of (by omega) (by omega) (by omega))) vl_X2_52 dX2_appliedPart_174 o_6 rfl rfl (Nat.le_of_ble_eq_true rfl) ⟨(Nat.le_of_ble_eq_true rfl), (Nat.le_of_ble_eq_true rfl)⟩ rfl rfl (Nat.le_of_ble_eq_true rfl) (Nat.le_of_ble_eq_true rfl) (fun r9 J_174 hq9 => ?_)
          obtain ⟨z_174, rfl, hz_174, p_9⟩ := hq9
          obtain ⟨m9, g9, h9⟩ := GR.made p_9 (by omega)
          have q9 := GR.tr q_150 g9
          exact tz_iret (pc := 177) (z := z_174) dX2_appliedPart_177 rfl (Nat.le_of_ble_eq_true rfl) (Nat.le_of_ble_eq_true rfl) ⟨Nat.le_refl _, Nat.le_add_right _ _⟩ ⟨_, rfl, (by omega), (by first | exact ⟨m9, q9, h9⟩ | exact ⟨m, GR.rf C hm, Or.inr (by omega)⟩)⟩
        · refine tz_iconst (pc := 130) dX2_appliedPart_130 ?_
          refine tz_goto (pc := 131) (tgt := 153) dX2_appliedPart_131 (by decide) ?_
          refine tz_istore (pc := 153) (L2 := [_, _, _, _, _, _, _, _, _]) dX2_appliedPart_153 (by decide) rfl ?_
          refine tz_aload_n (pc := 155) dX2_appliedPart_155 rfl rfl ?_
          refine tz_fR (pc := 156) dX2_appliedPart_156 fl_X2_28 r_141_0 ?_
          refine tz_aload_n (pc := 159) dX2_appliedPart_159 rfl rfl ?_
          refine tz_fR (pc := 160) dX2_appliedPart_160 fl_X2_28 r_141_0 ?_
          refine tz_fR (pc := 163) dX2_appliedPart_163 fl_X2_42 r_6_1 ?_
          refine tz_iload_n (pc := 166) dX2_appliedPart_166 rfl rfl ?_
          refine tz_aL (pc := 167) (z := t) (v := (J 7 t)) dX2_appliedPart_167 a_7 rfl (by omega) rfl (fun r_167 => ?_)
          refine tz_iload (pc := 168) dX2_appliedPart_168 rfl ?_
          refine tz_iload (pc := 170) dX2_appliedPart_170 rfl ?_
          refine tz_iload (pc := 172) dX2_appliedPart_172 rfl ?_
          refine tz_cV (pc := 174) (c_made hl n _ _ _ _ _ (by omega) (by omega) (by omega) (by omega) m ((GR.rf C hm)).2.1 ((GR.rf C hm)).2.2.1 (by have := ((GR.rf C hm)).2.1.ar (t := t) (by omega) (by have := ((GR.rf C hm)).1; omega); omega) (ltA_of (by omega) (by omega) (by omega))) vl_X2_52 dX2_appliedPart_174 o_6 rfl rfl (Nat.le_of_ble_eq_true rfl) ⟨(Nat.le_of_ble_eq_true rfl), (Nat.le_of_ble_eq_true rfl)⟩ rfl rfl (Nat.le_of_ble_eq_true rfl) (Nat.le_of_ble_eq_true rfl) (fun r9 J_174 hq9 => ?_)
          obtain ⟨z_174, rfl, hz_174, p_9⟩ := hq9
          obtain ⟨m9, g9, h9⟩ := GR.made p_9 (by omega)
          have q9 := GR.tr (GR.rf C hm) g9
          exact tz_iret (pc := 177) (z := z_174) dX2_appliedPart_177 rfl (Nat.le_of_ble_eq_true rfl) (Nat.le_of_ble_eq_true rfl) ⟨Nat.le_refl _, Nat.le_add_right _ _⟩ ⟨_, rfl, (by omega), (by first | exact ⟨m9, q9, h9⟩ | exact ⟨m, GR.rf C hm, Or.inr (by omega)⟩)⟩

set_option maxHeartbeats 4000000 in
set_option maxRecDepth 100000 in
theorem c_app140_4 {l : Launch} {G : tb_G} (hl : l.stackTraces = false) (n : Nat) (J : zJ) (t : Int) (hr_t : -2147483648 ≤ t ∧ t < 2147483648) (m : Int) (C : CT J m) (hm : J 6 12 = m) (ht : 0 ≤ t ∧ t < m) (hr : rOK J 140 0 m) : tz_Ok l G M_X2_appliedPart 5 0 0 [.ref 141, zi t, .ref 140, zi 0, zi 4] n J (zqi (fun z J' => ∃ m', GR J' J m m' ∧ (z = -3 ∨ (0 ≤ z ∧ z < m')))) zN := by
  refine tz_Ok.of hl (by decide +kernel) rfl (tb_c1 rfl) (Nat.le_of_ble_eq_true rfl) ?_
  show tz_At l G M_X2_appliedPart (tb_rm 5 0 0) none (tb_ZM G 0 0 (zQ n 0 (zqi (fun z J' => ∃ m', GR J' J m m' ∧ (z = -3 ∨ (0 ≤ z ∧ z < m'))))) (zX n 0 zN)) 0 0 n J 0 [some (.ref 141), some (zi t), some (.ref 140), some (zi 0), some (zi 4), none, none, none, none] []
  have hb := C.told
  have ha := C.ar ht.1 ht.2
  refine tz_iload (pc := 0) dX2_appliedPart_0 rfl ?_
  refine tz_bipush (pc := 2) dX2_appliedPart_2 (by decide) ?_
  refine tz_icmp_leT (pc := 4) (tgt := 10) (by decide) dX2_appliedPart_4 (by decide) (by decide) (by decide) ?_
  refine tz_aload_n (pc := 10) dX2_appliedPart_10 rfl rfl ?_
  refine tz_fR (pc := 11) dX2_appliedPart_11 fl_X2_28 r_141_0 ?_
  refine tz_iload_n (pc := 14) dX2_appliedPart_14 rfl rfl ?_
  refine tz_cV (pc := 15) (c_isVar hl n _ _ (by omega) (by omega)) vl_X2_36 dX2_appliedPart_15 o_6 rfl rfl (Nat.le_of_ble_eq_true rfl) ⟨(Nat.le_of_ble_eq_true rfl), (Nat.le_of_ble_eq_true rfl)⟩ rfl rfl (Nat.le_of_ble_eq_true rfl) (Nat.le_of_ble_eq_true rfl) (fun r9 J_15 hq9 => ?_)
  obtain ⟨z_15, rfl, hz_15, rfl, rfl⟩ := hq9
  by_cases hw_18 : J 7 t < 0
  · rw [show (if J 7 t < 0 then 1 else 0 : Int) = 1 from if_pos hw_18]
    refine tz_if_eqF (pc := 18) (tgt := 51) (by decide) dX2_appliedPart_18 (by decide) (by decide) ?_
    refine tz_aload_n (pc := 21) dX2_appliedPart_21 rfl rfl ?_
    refine tz_iload_n (pc := 22) dX2_appliedPart_22 rfl rfl ?_
    refine tz_aload_n (pc := 23) dX2_appliedPart_23 rfl rfl ?_
    refine tz_fR (pc := 24) dX2_appliedPart_24 fl_X2_28 r_141_0 ?_
    refine tz_fR (pc := 27) dX2_appliedPart_27 fl_X2_42 r_6_1 ?_
    refine tz_iload_n (pc := 30) dX2_appliedPart_30 rfl rfl ?_
    refine tz_aL (pc := 31) (z := t) (v := (J 7 t)) dX2_appliedPart_31 a_7 rfl (by omega) rfl (fun r_31 => ?_)
    refine tz_iconst (pc := 32) dX2_appliedPart_32 ?_
    refine tz_ixor (pc := 33) (v := zxor (J 7 t) (-1)) dX2_appliedPart_33 rfl ?_
    refine tz_iadd (pc := 34) (v := 0 + (zxor (J 7 t) (-1))) dX2_appliedPart_34 rfl ?_
    have hv := hr (zxor (J 7 t) (-1)) (by rw [z_nn (by omega)]; omega) (by rw [z_nn (by omega)]; omega)
    refine tz_aL (pc := 35) (z := (0 + (zxor (J 7 t) (-1)))) (v := (J 140 (0 + (zxor (J 7 t) (-1))))) dX2_appliedPart_35 a_140 rfl (by rw [z_nn (by omega)]; omega) rfl (fun r_35 => ?_)
    refine tz_istore (pc := 36) (L2 := [_, _, _, _, _, _, _, _, _]) dX2_appliedPart_36 (by decide) rfl ?_
    refine tz_iload (pc := 38) dX2_appliedPart_38 rfl ?_
    refine tz_iconst (pc := 40) dX2_appliedPart_40 ?_
    refine tz_icmp_ne (pc := 41) (tgt := 48) dX2_appliedPart_41 (by decide) (by omega) (by decide) (fun h_41 => ?_) (fun h_41 => ?_)
    · refine tz_iload (pc := 48) dX2_appliedPart_48 rfl ?_
      exact tz_iret (pc := 50) (z := (J 140 (0 + (zxor (J 7 t) (-1))))) dX2_appliedPart_50 rfl (Nat.le_of_ble_eq_true rfl) (Nat.le_of_ble_eq_true rfl) ⟨Nat.le_refl _, Nat.le_add_right _ _⟩ ⟨_, rfl, (by omega), (by first | exact ⟨m9, q9, h9⟩ | exact ⟨m, GR.rf C hm, Or.inr (by omega)⟩)⟩
    · refine tz_iload_n (pc := 44) dX2_appliedPart_44 rfl rfl ?_
      refine tz_goto (pc := 45) (tgt := 50) dX2_appliedPart_45 (by decide) ?_
      exact tz_iret (pc := 50) (z := t) dX2_appliedPart_50 rfl (Nat.le_of_ble_eq_true rfl) (Nat.le_of_ble_eq_true rfl) ⟨Nat.le_refl _, Nat.le_add_right _ _⟩ ⟨_, rfl, (by omega), (by first | exact ⟨m9, q9, h9⟩ | exact ⟨m, GR.rf C hm, Or.inr (by omega)⟩)⟩
  · rw [show (if J 7 t < 0 then 1 else 0 : Int) = 0 from if_neg hw_18]
    refine tz_if_eqT (pc := 18) (tgt := 51) (by decide) dX2_appliedPart_18 (by decide) (by decide) ?_
    refine tz_aload_n (pc := 51) dX2_appliedPart_51 rfl rfl ?_
    refine tz_fR (pc := 52) dX2_appliedPart_52 fl_X2_28 r_141_0 ?_
    refine tz_fR (pc := 55) dX2_appliedPart_55 fl_X2_45 r_6_2 ?_
    refine tz_iload_n (pc := 58) dX2_appliedPart_58 rfl rfl ?_
    refine tz_aL (pc := 59) (z := t) (v := (J 8 t)) dX2_appliedPart_59 a_8 rfl (by omega) rfl (fun r_59 => ?_)
    refine tz_istore (pc := 60) (L2 := [_, _, _, _, _, _, _, _, _]) dX2_appliedPart_60 (by decide) rfl ?_
    refine tz_iload (pc := 62) dX2_appliedPart_62 rfl ?_
    refine tz_iconst (pc := 64) dX2_appliedPart_64 ?_
    refine tz_icmp_ge (pc := 65) (tgt := 72) dX2_appliedPart_65 (by decide) (by omega) (by decide) (fun h_65 => ?_) (fun h_65 => ?_)
    · refine tz_aload_n (pc := 72) dX2_appliedPart_72 rfl rfl ?_
      refine tz_aload_n (pc := 73) dX2_appliedPart_73 rfl rfl ?_
      refine tz_fR (pc := 74) dX2_appliedPart_74 fl_X2_28 r_141_0 ?_
      refine tz_iload_n (pc := 77) dX2_appliedPart_77 rfl rfl ?_
      refine tz_iconst (pc := 78) dX2_appliedPart_78 ?_
      refine tz_cV (pc := 79) (c_arg hl n _ _ _ (by omega) (by decide) (by omega)) vl_X2_48 dX2_appliedPart_79 o_6 rfl rfl (Nat.le_of_ble_eq_true rfl) ⟨(Nat.le_of_ble_eq_true rfl), (Nat.le_of_ble_eq_true rfl)⟩ rfl rfl (Nat.le_of_ble_eq_true rfl) (Nat.le_of_ble_eq_true rfl) (fun r9 J_79 hq9 => ?_)
      obtain ⟨z_79, rfl, hz_79, rfl, rfl⟩ := hq9
      refine tz_aload_n (pc := 82) dX2_appliedPart_82 rfl rfl ?_
      refine tz_iload_n (pc := 83) dX2_appliedPart_83 rfl rfl ?_
      refine tz_iload (pc := 84) dX2_appliedPart_84 rfl ?_
      refine tz_iconst (pc := 86) dX2_appliedPart_86 ?_
      refine tz_iadd (pc := 87) (v := 5) dX2_appliedPart_87 (by decide) ?_
      have b_88 := GR.arg (GR.rf C hm) C ht (i := 0) (by omega)
      have c_88 := ((GR.rf C hm)).1
      refine tz_cV (pc := 88) (c_app140_5 hl n _ _ (by omega) m ((GR.rf C hm)).2.1 ((GR.rf C hm)).2.2.1 (by omega) (GR.row (GR.rf C hm) rfl hr)) vl_X2_32 dX2_appliedPart_88 o_141 rfl rfl (Nat.le_of_ble_eq_true rfl) ⟨(Nat.le_of_ble_eq_true rfl), (Nat.le_of_ble_eq_true rfl)⟩ rfl rfl (Nat.le_of_ble_eq_true rfl) (Nat.le_of_ble_eq_true rfl) (fun r9 J_88 hq9 => ?_)
      obtain ⟨z_88, rfl, hz_88, m_88, g_88, hz_88⟩ := hq9
      have q_88 := GR.tr (GR.rf C hm) g_88
      have d_88 := q_88.1
      have e_88 := g_88.1
      refine tz_istore (pc := 91) (L2 := [_, _, _, _, _, _, _, _, _]) dX2_appliedPart_91 (by decide) rfl ?_
      refine tz_iload (pc := 93) dX2_appliedPart_93 rfl ?_
      refine tz_iconst (pc := 95) dX2_appliedPart_95 ?_
      refine tz_icmp_ge (pc := 96) (tgt := 103) dX2_appliedPart_96 (by decide) (by omega) (by decide) (fun h_96 => ?_) (fun h_96 => ?_)
      · refine tz_aload_n (pc := 103) dX2_appliedPart_103 rfl rfl ?_
        refine tz_aload_n (pc := 104) dX2_appliedPart_104 rfl rfl ?_
        refine tz_fR (pc := 105) dX2_appliedPart_105 fl_X2_28 r_141_0 ?_
        refine tz_iload_n (pc := 108) dX2_appliedPart_108 rfl rfl ?_
        refine tz_iconst (pc := 109) dX2_appliedPart_109 ?_
        refine tz_cV (pc := 110) (c_arg hl n _ _ _ (by omega) (by decide) (by omega)) vl_X2_48 dX2_appliedPart_110 o_6 rfl rfl (Nat.le_of_ble_eq_true rfl) ⟨(Nat.le_of_ble_eq_true rfl), (Nat.le_of_ble_eq_true rfl)⟩ rfl rfl (Nat.le_of_ble_eq_true rfl) (Nat.le_of_ble_eq_true rfl) (fun r9 J_110 hq9 => ?_)
        obtain ⟨z_110, rfl, hz_110, rfl, rfl⟩ := hq9
        refine tz_aload_n (pc := 113) dX2_appliedPart_113 rfl rfl ?_
        refine tz_iload_n (pc := 114) dX2_appliedPart_114 rfl rfl ?_
        refine tz_iload (pc := 115) dX2_appliedPart_115 rfl ?_
        refine tz_iconst (pc := 117) dX2_appliedPart_117 ?_
        refine tz_iadd (pc := 118) (v := 5) dX2_appliedPart_118 (by decide) ?_
        have b_119 := GR.arg q_88 C ht (i := 1) (by omega)
        have c_119 := (q_88).1
        refine tz_cV (pc := 119) (c_app140_5 hl n _ _ (by omega) m_88 (q_88).2.1 (q_88).2.2.1 (by omega) (GR.row q_88 rfl hr)) vl_X2_32 dX2_appliedPart_119 o_141 rfl rfl (Nat.le_of_ble_eq_true rfl) ⟨(Nat.le_of_ble_eq_true rfl), (Nat.le_of_ble_eq_true rfl)⟩ rfl rfl (Nat.le_of_ble_eq_true rfl) (Nat.le_of_ble_eq_true rfl) (fun r9 J_119 hq9 => ?_)
        obtain ⟨z_119, rfl, hz_119, m_119, g_119, hz_119⟩ := hq9
        have q_119 := GR.tr q_88 g_119
        have d_119 := q_119.1
        have e_119 := g_119.1
        refine tz_istore (pc := 122) (L2 := [_, _, _, _, _, _, _, _, _]) dX2_appliedPart_122 (by decide) rfl ?_
        refine tz_iload (pc := 124) dX2_appliedPart_124 rfl ?_
        refine tz_iconst (pc := 126) dX2_appliedPart_126 ?_
        refine tz_icmp_ge (pc := 127) (tgt := 134) dX2_appliedPart_127 (by decide) (by omega) (by decide) (fun h_127 => ?_) (fun h_127 => ?_)
        · refine tz_aload_n (pc := 134) dX2_appliedPart_134 rfl rfl ?_
          refine tz_aload_n (pc := 135) dX2_appliedPart_135 rfl rfl ?_
          refine tz_fR (pc := 136) dX2_appliedPart_136 fl_X2_28 r_141_0 ?_
          refine tz_iload_n (pc := 139) dX2_appliedPart_139 rfl rfl ?_
          refine tz_iconst (pc := 140) dX2_appliedPart_140 ?_
          refine tz_cV (pc := 141) (c_arg hl n _ _ _ (by omega) (by decide) (by omega)) vl_X2_48 dX2_appliedPart_141 o_6 rfl rfl (Nat.le_of_ble_eq_true rfl) ⟨(Nat.le_of_ble_eq_true rfl), (Nat.le_of_ble_eq_true rfl)⟩ rfl rfl (Nat.le_of_ble_eq_true rfl) (Nat.le_of_ble_eq_true rfl) (fun r9 J_141 hq9 => ?_)
          obtain ⟨z_141, rfl, hz_141, rfl, rfl⟩ := hq9
          refine tz_aload_n (pc := 144) dX2_appliedPart_144 rfl rfl ?_
          refine tz_iload_n (pc := 145) dX2_appliedPart_145 rfl rfl ?_
          refine tz_iload (pc := 146) dX2_appliedPart_146 rfl ?_
          refine tz_iconst (pc := 148) dX2_appliedPart_148 ?_
          refine tz_iadd (pc := 149) (v := 5) dX2_appliedPart_149 (by decide) ?_
          have b_150 := GR.arg q_119 C ht (i := 2) (by omega)
          have c_150 := (q_119).1
          refine tz_cV (pc := 150) (c_app140_5 hl n _ _ (by omega) m_119 (q_119).2.1 (q_119).2.2.1 (by omega) (GR.row q_119 rfl hr)) vl_X2_32 dX2_appliedPart_150 o_141 rfl rfl (Nat.le_of_ble_eq_true rfl) ⟨(Nat.le_of_ble_eq_true rfl), (Nat.le_of_ble_eq_true rfl)⟩ rfl rfl (Nat.le_of_ble_eq_true rfl) (Nat.le_of_ble_eq_true rfl) (fun r9 J_150 hq9 => ?_)
          obtain ⟨z_150, rfl, hz_150, m_150, g_150, hz_150⟩ := hq9
          have q_150 := GR.tr q_119 g_150
          have d_150 := q_150.1
          have e_150 := g_150.1
          refine tz_istore (pc := 153) (L2 := [_, _, _, _, _, _, _, _, _]) dX2_appliedPart_153 (by decide) rfl ?_
          refine tz_aload_n (pc := 155) dX2_appliedPart_155 rfl rfl ?_
          refine tz_fR (pc := 156) dX2_appliedPart_156 fl_X2_28 r_141_0 ?_
          refine tz_aload_n (pc := 159) dX2_appliedPart_159 rfl rfl ?_
          refine tz_fR (pc := 160) dX2_appliedPart_160 fl_X2_28 r_141_0 ?_
          refine tz_fR (pc := 163) dX2_appliedPart_163 fl_X2_42 r_6_1 ?_
          refine tz_iload_n (pc := 166) dX2_appliedPart_166 rfl rfl ?_
          refine tz_aL (pc := 167) (z := t) (v := (J_150 7 t)) dX2_appliedPart_167 a_7 rfl (by omega) rfl (fun r_167 => ?_)
          refine tz_iload (pc := 168) dX2_appliedPart_168 rfl ?_
          refine tz_iload (pc := 170) dX2_appliedPart_170 rfl ?_
          refine tz_iload (pc := 172) dX2_appliedPart_172 rfl ?_
          refine tz_cV (pc := 174) (c_made hl n _ _ _ _ _ (by omega) (by omega) (by omega) (by omega) m_150 (q_150).2.1 (q_150).2.2.1 (by have := (q_150).2.1.ar (t := t) (by omega) (by have := (q_150).1; omega); omega) (ltA_of (by omega) (by omega) (by omega))) vl_X2_52 dX2_appliedPart_174 o_6 rfl rfl (Nat.le_of_ble_eq_true rfl) ⟨(Nat.le_of_ble_eq_true rfl), (Nat.le_of_ble_eq_true rfl)⟩ rfl rfl (Nat.le_of_ble_eq_true rfl) (Nat.le_of_ble_eq_true rfl) (fun r9 J_174 hq9 => ?_)
          obtain ⟨z_174, rfl, hz_174, p_9⟩ := hq9
          obtain ⟨m9, g9, h9⟩ := GR.made p_9 (by omega)
          have q9 := GR.tr q_150 g9
          exact tz_iret (pc := 177) (z := z_174) dX2_appliedPart_177 rfl (Nat.le_of_ble_eq_true rfl) (Nat.le_of_ble_eq_true rfl) ⟨Nat.le_refl _, Nat.le_add_right _ _⟩ ⟨_, rfl, (by omega), (by first | exact ⟨m9, q9, h9⟩ | exact ⟨m, GR.rf C hm, Or.inr (by omega)⟩)⟩
        · refine tz_iconst (pc := 130) dX2_appliedPart_130 ?_
          refine tz_goto (pc := 131) (tgt := 153) dX2_appliedPart_131 (by decide) ?_
          refine tz_istore (pc := 153) (L2 := [_, _, _, _, _, _, _, _, _]) dX2_appliedPart_153 (by decide) rfl ?_
          refine tz_aload_n (pc := 155) dX2_appliedPart_155 rfl rfl ?_
          refine tz_fR (pc := 156) dX2_appliedPart_156 fl_X2_28 r_141_0 ?_
          refine tz_aload_n (pc := 159) dX2_appliedPart_159 rfl rfl ?_
          refine tz_fR (pc := 160) dX2_appliedPart_160 fl_X2_28 r_141_0 ?_
          refine tz_fR (pc := 163) dX2_appliedPart_163 fl_X2_42 r_6_1 ?_
          refine tz_iload_n (pc := 166) dX2_appliedPart_166 rfl rfl ?_
          refine tz_aL (pc := 167) (z := t) (v := (J_119 7 t)) dX2_appliedPart_167 a_7 rfl (by omega) rfl (fun r_167 => ?_)
          refine tz_iload (pc := 168) dX2_appliedPart_168 rfl ?_
          refine tz_iload (pc := 170) dX2_appliedPart_170 rfl ?_
          refine tz_iload (pc := 172) dX2_appliedPart_172 rfl ?_
          refine tz_cV (pc := 174) (c_made hl n _ _ _ _ _ (by omega) (by omega) (by omega) (by omega) m_119 (q_119).2.1 (q_119).2.2.1 (by have := (q_119).2.1.ar (t := t) (by omega) (by have := (q_119).1; omega); omega) (ltA_of (by omega) (by omega) (by omega))) vl_X2_52 dX2_appliedPart_174 o_6 rfl rfl (Nat.le_of_ble_eq_true rfl) ⟨(Nat.le_of_ble_eq_true rfl), (Nat.le_of_ble_eq_true rfl)⟩ rfl rfl (Nat.le_of_ble_eq_true rfl) (Nat.le_of_ble_eq_true rfl) (fun r9 J_174 hq9 => ?_)
          obtain ⟨z_174, rfl, hz_174, p_9⟩ := hq9
          obtain ⟨m9, g9, h9⟩ := GR.made p_9 (by omega)
          have q9 := GR.tr q_119 g9
          exact tz_iret (pc := 177) (z := z_174) dX2_appliedPart_177 rfl (Nat.le_of_ble_eq_true rfl) (Nat.le_of_ble_eq_true rfl) ⟨Nat.le_refl _, Nat.le_add_right _ _⟩ ⟨_, rfl, (by omega), (by first | exact ⟨m9, q9, h9⟩ | exact ⟨m, GR.rf C hm, Or.inr (by omega)⟩)⟩
      · refine tz_iconst (pc := 99) dX2_appliedPart_99 ?_
        refine tz_goto (pc := 100) (tgt := 122) dX2_appliedPart_100 (by decide) ?_
        refine tz_istore (pc := 122) (L2 := [_, _, _, _, _, _, _, _, _]) dX2_appliedPart_122 (by decide) rfl ?_
        refine tz_iload (pc := 124) dX2_appliedPart_124 rfl ?_
        refine tz_iconst (pc := 126) dX2_appliedPart_126 ?_
        refine tz_icmp_ge (pc := 127) (tgt := 134) dX2_appliedPart_127 (by decide) (by omega) (by decide) (fun h_127 => ?_) (fun h_127 => ?_)
        · refine tz_aload_n (pc := 134) dX2_appliedPart_134 rfl rfl ?_
          refine tz_aload_n (pc := 135) dX2_appliedPart_135 rfl rfl ?_
          refine tz_fR (pc := 136) dX2_appliedPart_136 fl_X2_28 r_141_0 ?_
          refine tz_iload_n (pc := 139) dX2_appliedPart_139 rfl rfl ?_
          refine tz_iconst (pc := 140) dX2_appliedPart_140 ?_
          refine tz_cV (pc := 141) (c_arg hl n _ _ _ (by omega) (by decide) (by omega)) vl_X2_48 dX2_appliedPart_141 o_6 rfl rfl (Nat.le_of_ble_eq_true rfl) ⟨(Nat.le_of_ble_eq_true rfl), (Nat.le_of_ble_eq_true rfl)⟩ rfl rfl (Nat.le_of_ble_eq_true rfl) (Nat.le_of_ble_eq_true rfl) (fun r9 J_141 hq9 => ?_)
          obtain ⟨z_141, rfl, hz_141, rfl, rfl⟩ := hq9
          refine tz_aload_n (pc := 144) dX2_appliedPart_144 rfl rfl ?_
          refine tz_iload_n (pc := 145) dX2_appliedPart_145 rfl rfl ?_
          refine tz_iload (pc := 146) dX2_appliedPart_146 rfl ?_
          refine tz_iconst (pc := 148) dX2_appliedPart_148 ?_
          refine tz_iadd (pc := 149) (v := 5) dX2_appliedPart_149 (by decide) ?_
          have b_150 := GR.arg q_88 C ht (i := 2) (by omega)
          have c_150 := (q_88).1
          refine tz_cV (pc := 150) (c_app140_5 hl n _ _ (by omega) m_88 (q_88).2.1 (q_88).2.2.1 (by omega) (GR.row q_88 rfl hr)) vl_X2_32 dX2_appliedPart_150 o_141 rfl rfl (Nat.le_of_ble_eq_true rfl) ⟨(Nat.le_of_ble_eq_true rfl), (Nat.le_of_ble_eq_true rfl)⟩ rfl rfl (Nat.le_of_ble_eq_true rfl) (Nat.le_of_ble_eq_true rfl) (fun r9 J_150 hq9 => ?_)
          obtain ⟨z_150, rfl, hz_150, m_150, g_150, hz_150⟩ := hq9
          have q_150 := GR.tr q_88 g_150
          have d_150 := q_150.1
          have e_150 := g_150.1
          refine tz_istore (pc := 153) (L2 := [_, _, _, _, _, _, _, _, _]) dX2_appliedPart_153 (by decide) rfl ?_
          refine tz_aload_n (pc := 155) dX2_appliedPart_155 rfl rfl ?_
          refine tz_fR (pc := 156) dX2_appliedPart_156 fl_X2_28 r_141_0 ?_
          refine tz_aload_n (pc := 159) dX2_appliedPart_159 rfl rfl ?_
          refine tz_fR (pc := 160) dX2_appliedPart_160 fl_X2_28 r_141_0 ?_
          refine tz_fR (pc := 163) dX2_appliedPart_163 fl_X2_42 r_6_1 ?_
          refine tz_iload_n (pc := 166) dX2_appliedPart_166 rfl rfl ?_
          refine tz_aL (pc := 167) (z := t) (v := (J_150 7 t)) dX2_appliedPart_167 a_7 rfl (by omega) rfl (fun r_167 => ?_)
          refine tz_iload (pc := 168) dX2_appliedPart_168 rfl ?_
          refine tz_iload (pc := 170) dX2_appliedPart_170 rfl ?_
          refine tz_iload (pc := 172) dX2_appliedPart_172 rfl ?_
          refine tz_cV (pc := 174) (c_made hl n _ _ _ _ _ (by omega) (by omega) (by omega) (by omega) m_150 (q_150).2.1 (q_150).2.2.1 (by have := (q_150).2.1.ar (t := t) (by omega) (by have := (q_150).1; omega); omega) (ltA_of (by omega) (by omega) (by omega))) vl_X2_52 dX2_appliedPart_174 o_6 rfl rfl (Nat.le_of_ble_eq_true rfl) ⟨(Nat.le_of_ble_eq_true rfl), (Nat.le_of_ble_eq_true rfl)⟩ rfl rfl (Nat.le_of_ble_eq_true rfl) (Nat.le_of_ble_eq_true rfl) (fun r9 J_174 hq9 => ?_)
          obtain ⟨z_174, rfl, hz_174, p_9⟩ := hq9
          obtain ⟨m9, g9, h9⟩ := GR.made p_9 (by omega)
          have q9 := GR.tr q_150 g9
          exact tz_iret (pc := 177) (z := z_174) dX2_appliedPart_177 rfl (Nat.le_of_ble_eq_true rfl) (Nat.le_of_ble_eq_true rfl) ⟨Nat.le_refl _, Nat.le_add_right _ _⟩ ⟨_, rfl, (by omega), (by first | exact ⟨m9, q9, h9⟩ | exact ⟨m, GR.rf C hm, Or.inr (by omega)⟩)⟩
        · refine tz_iconst (pc := 130) dX2_appliedPart_130 ?_
          refine tz_goto (pc := 131) (tgt := 153) dX2_appliedPart_131 (by decide) ?_
          refine tz_istore (pc := 153) (L2 := [_, _, _, _, _, _, _, _, _]) dX2_appliedPart_153 (by decide) rfl ?_
          refine tz_aload_n (pc := 155) dX2_appliedPart_155 rfl rfl ?_
          refine tz_fR (pc := 156) dX2_appliedPart_156 fl_X2_28 r_141_0 ?_
          refine tz_aload_n (pc := 159) dX2_appliedPart_159 rfl rfl ?_
          refine tz_fR (pc := 160) dX2_appliedPart_160 fl_X2_28 r_141_0 ?_
          refine tz_fR (pc := 163) dX2_appliedPart_163 fl_X2_42 r_6_1 ?_
          refine tz_iload_n (pc := 166) dX2_appliedPart_166 rfl rfl ?_
          refine tz_aL (pc := 167) (z := t) (v := (J_88 7 t)) dX2_appliedPart_167 a_7 rfl (by omega) rfl (fun r_167 => ?_)
          refine tz_iload (pc := 168) dX2_appliedPart_168 rfl ?_
          refine tz_iload (pc := 170) dX2_appliedPart_170 rfl ?_
          refine tz_iload (pc := 172) dX2_appliedPart_172 rfl ?_
          refine tz_cV (pc := 174) (c_made hl n _ _ _ _ _ (by omega) (by omega) (by omega) (by omega) m_88 (q_88).2.1 (q_88).2.2.1 (by have := (q_88).2.1.ar (t := t) (by omega) (by have := (q_88).1; omega); omega) (ltA_of (by omega) (by omega) (by omega))) vl_X2_52 dX2_appliedPart_174 o_6 rfl rfl (Nat.le_of_ble_eq_true rfl) ⟨(Nat.le_of_ble_eq_true rfl), (Nat.le_of_ble_eq_true rfl)⟩ rfl rfl (Nat.le_of_ble_eq_true rfl) (Nat.le_of_ble_eq_true rfl) (fun r9 J_174 hq9 => ?_)
          obtain ⟨z_174, rfl, hz_174, p_9⟩ := hq9
          obtain ⟨m9, g9, h9⟩ := GR.made p_9 (by omega)
          have q9 := GR.tr q_88 g9
          exact tz_iret (pc := 177) (z := z_174) dX2_appliedPart_177 rfl (Nat.le_of_ble_eq_true rfl) (Nat.le_of_ble_eq_true rfl) ⟨Nat.le_refl _, Nat.le_add_right _ _⟩ ⟨_, rfl, (by omega), (by first | exact ⟨m9, q9, h9⟩ | exact ⟨m, GR.rf C hm, Or.inr (by omega)⟩)⟩
    · refine tz_iconst (pc := 68) dX2_appliedPart_68 ?_
      refine tz_goto (pc := 69) (tgt := 91) dX2_appliedPart_69 (by decide) ?_
      refine tz_istore (pc := 91) (L2 := [_, _, _, _, _, _, _, _, _]) dX2_appliedPart_91 (by decide) rfl ?_
      refine tz_iload (pc := 93) dX2_appliedPart_93 rfl ?_
      refine tz_iconst (pc := 95) dX2_appliedPart_95 ?_
      refine tz_icmp_ge (pc := 96) (tgt := 103) dX2_appliedPart_96 (by decide) (by omega) (by decide) (fun h_96 => ?_) (fun h_96 => ?_)
      · refine tz_aload_n (pc := 103) dX2_appliedPart_103 rfl rfl ?_
        refine tz_aload_n (pc := 104) dX2_appliedPart_104 rfl rfl ?_
        refine tz_fR (pc := 105) dX2_appliedPart_105 fl_X2_28 r_141_0 ?_
        refine tz_iload_n (pc := 108) dX2_appliedPart_108 rfl rfl ?_
        refine tz_iconst (pc := 109) dX2_appliedPart_109 ?_
        refine tz_cV (pc := 110) (c_arg hl n _ _ _ (by omega) (by decide) (by omega)) vl_X2_48 dX2_appliedPart_110 o_6 rfl rfl (Nat.le_of_ble_eq_true rfl) ⟨(Nat.le_of_ble_eq_true rfl), (Nat.le_of_ble_eq_true rfl)⟩ rfl rfl (Nat.le_of_ble_eq_true rfl) (Nat.le_of_ble_eq_true rfl) (fun r9 J_110 hq9 => ?_)
        obtain ⟨z_110, rfl, hz_110, rfl, rfl⟩ := hq9
        refine tz_aload_n (pc := 113) dX2_appliedPart_113 rfl rfl ?_
        refine tz_iload_n (pc := 114) dX2_appliedPart_114 rfl rfl ?_
        refine tz_iload (pc := 115) dX2_appliedPart_115 rfl ?_
        refine tz_iconst (pc := 117) dX2_appliedPart_117 ?_
        refine tz_iadd (pc := 118) (v := 5) dX2_appliedPart_118 (by decide) ?_
        have b_119 := GR.arg (GR.rf C hm) C ht (i := 1) (by omega)
        have c_119 := ((GR.rf C hm)).1
        refine tz_cV (pc := 119) (c_app140_5 hl n _ _ (by omega) m ((GR.rf C hm)).2.1 ((GR.rf C hm)).2.2.1 (by omega) (GR.row (GR.rf C hm) rfl hr)) vl_X2_32 dX2_appliedPart_119 o_141 rfl rfl (Nat.le_of_ble_eq_true rfl) ⟨(Nat.le_of_ble_eq_true rfl), (Nat.le_of_ble_eq_true rfl)⟩ rfl rfl (Nat.le_of_ble_eq_true rfl) (Nat.le_of_ble_eq_true rfl) (fun r9 J_119 hq9 => ?_)
        obtain ⟨z_119, rfl, hz_119, m_119, g_119, hz_119⟩ := hq9
        have q_119 := GR.tr (GR.rf C hm) g_119
        have d_119 := q_119.1
        have e_119 := g_119.1
        refine tz_istore (pc := 122) (L2 := [_, _, _, _, _, _, _, _, _]) dX2_appliedPart_122 (by decide) rfl ?_
        refine tz_iload (pc := 124) dX2_appliedPart_124 rfl ?_
        refine tz_iconst (pc := 126) dX2_appliedPart_126 ?_
        refine tz_icmp_ge (pc := 127) (tgt := 134) dX2_appliedPart_127 (by decide) (by omega) (by decide) (fun h_127 => ?_) (fun h_127 => ?_)
        · refine tz_aload_n (pc := 134) dX2_appliedPart_134 rfl rfl ?_
          refine tz_aload_n (pc := 135) dX2_appliedPart_135 rfl rfl ?_
          refine tz_fR (pc := 136) dX2_appliedPart_136 fl_X2_28 r_141_0 ?_
          refine tz_iload_n (pc := 139) dX2_appliedPart_139 rfl rfl ?_
          refine tz_iconst (pc := 140) dX2_appliedPart_140 ?_
          refine tz_cV (pc := 141) (c_arg hl n _ _ _ (by omega) (by decide) (by omega)) vl_X2_48 dX2_appliedPart_141 o_6 rfl rfl (Nat.le_of_ble_eq_true rfl) ⟨(Nat.le_of_ble_eq_true rfl), (Nat.le_of_ble_eq_true rfl)⟩ rfl rfl (Nat.le_of_ble_eq_true rfl) (Nat.le_of_ble_eq_true rfl) (fun r9 J_141 hq9 => ?_)
          obtain ⟨z_141, rfl, hz_141, rfl, rfl⟩ := hq9
          refine tz_aload_n (pc := 144) dX2_appliedPart_144 rfl rfl ?_
          refine tz_iload_n (pc := 145) dX2_appliedPart_145 rfl rfl ?_
          refine tz_iload (pc := 146) dX2_appliedPart_146 rfl ?_
          refine tz_iconst (pc := 148) dX2_appliedPart_148 ?_
          refine tz_iadd (pc := 149) (v := 5) dX2_appliedPart_149 (by decide) ?_
          have b_150 := GR.arg q_119 C ht (i := 2) (by omega)
          have c_150 := (q_119).1
          refine tz_cV (pc := 150) (c_app140_5 hl n _ _ (by omega) m_119 (q_119).2.1 (q_119).2.2.1 (by omega) (GR.row q_119 rfl hr)) vl_X2_32 dX2_appliedPart_150 o_141 rfl rfl (Nat.le_of_ble_eq_true rfl) ⟨(Nat.le_of_ble_eq_true rfl), (Nat.le_of_ble_eq_true rfl)⟩ rfl rfl (Nat.le_of_ble_eq_true rfl) (Nat.le_of_ble_eq_true rfl) (fun r9 J_150 hq9 => ?_)
          obtain ⟨z_150, rfl, hz_150, m_150, g_150, hz_150⟩ := hq9
          have q_150 := GR.tr q_119 g_150
          have d_150 := q_150.1
          have e_150 := g_150.1
          refine tz_istore (pc := 153) (L2 := [_, _, _, _, _, _, _, _, _]) dX2_appliedPart_153 (by decide) rfl ?_
          refine tz_aload_n (pc := 155) dX2_appliedPart_155 rfl rfl ?_
          refine tz_fR (pc := 156) dX2_appliedPart_156 fl_X2_28 r_141_0 ?_
          refine tz_aload_n (pc := 159) dX2_appliedPart_159 rfl rfl ?_
          refine tz_fR (pc := 160) dX2_appliedPart_160 fl_X2_28 r_141_0 ?_
          refine tz_fR (pc := 163) dX2_appliedPart_163 fl_X2_42 r_6_1 ?_
          refine tz_iload_n (pc := 166) dX2_appliedPart_166 rfl rfl ?_
          refine tz_aL (pc := 167) (z := t) (v := (J_150 7 t)) dX2_appliedPart_167 a_7 rfl (by omega) rfl (fun r_167 => ?_)
          refine tz_iload (pc := 168) dX2_appliedPart_168 rfl ?_
          refine tz_iload (pc := 170) dX2_appliedPart_170 rfl ?_
          refine tz_iload (pc := 172) dX2_appliedPart_172 rfl ?_
          refine tz_cV (pc := 174) (c_made hl n _ _ _ _ _ (by omega) (by omega) (by omega) (by omega) m_150 (q_150).2.1 (q_150).2.2.1 (by have := (q_150).2.1.ar (t := t) (by omega) (by have := (q_150).1; omega); omega) (ltA_of (by omega) (by omega) (by omega))) vl_X2_52 dX2_appliedPart_174 o_6 rfl rfl (Nat.le_of_ble_eq_true rfl) ⟨(Nat.le_of_ble_eq_true rfl), (Nat.le_of_ble_eq_true rfl)⟩ rfl rfl (Nat.le_of_ble_eq_true rfl) (Nat.le_of_ble_eq_true rfl) (fun r9 J_174 hq9 => ?_)
          obtain ⟨z_174, rfl, hz_174, p_9⟩ := hq9
          obtain ⟨m9, g9, h9⟩ := GR.made p_9 (by omega)
          have q9 := GR.tr q_150 g9
          exact tz_iret (pc := 177) (z := z_174) dX2_appliedPart_177 rfl (Nat.le_of_ble_eq_true rfl) (Nat.le_of_ble_eq_true rfl) ⟨Nat.le_refl _, Nat.le_add_right _ _⟩ ⟨_, rfl, (by omega), (by first | exact ⟨m9, q9, h9⟩ | exact ⟨m, GR.rf C hm, Or.inr (by omega)⟩)⟩
        · refine tz_iconst (pc := 130) dX2_appliedPart_130 ?_
          refine tz_goto (pc := 131) (tgt := 153) dX2_appliedPart_131 (by decide) ?_
          refine tz_istore (pc := 153) (L2 := [_, _, _, _, _, _, _, _, _]) dX2_appliedPart_153 (by decide) rfl ?_
          refine tz_aload_n (pc := 155) dX2_appliedPart_155 rfl rfl ?_
          refine tz_fR (pc := 156) dX2_appliedPart_156 fl_X2_28 r_141_0 ?_
          refine tz_aload_n (pc := 159) dX2_appliedPart_159 rfl rfl ?_
          refine tz_fR (pc := 160) dX2_appliedPart_160 fl_X2_28 r_141_0 ?_
          refine tz_fR (pc := 163) dX2_appliedPart_163 fl_X2_42 r_6_1 ?_
          refine tz_iload_n (pc := 166) dX2_appliedPart_166 rfl rfl ?_
          refine tz_aL (pc := 167) (z := t) (v := (J_119 7 t)) dX2_appliedPart_167 a_7 rfl (by omega) rfl (fun r_167 => ?_)
          refine tz_iload (pc := 168) dX2_appliedPart_168 rfl ?_
          refine tz_iload (pc := 170) dX2_appliedPart_170 rfl ?_
          refine tz_iload (pc := 172) dX2_appliedPart_172 rfl ?_
          refine tz_cV (pc := 174) (c_made hl n _ _ _ _ _ (by omega) (by omega) (by omega) (by omega) m_119 (q_119).2.1 (q_119).2.2.1 (by have := (q_119).2.1.ar (t := t) (by omega) (by have := (q_119).1; omega); omega) (ltA_of (by omega) (by omega) (by omega))) vl_X2_52 dX2_appliedPart_174 o_6 rfl rfl (Nat.le_of_ble_eq_true rfl) ⟨(Nat.le_of_ble_eq_true rfl), (Nat.le_of_ble_eq_true rfl)⟩ rfl rfl (Nat.le_of_ble_eq_true rfl) (Nat.le_of_ble_eq_true rfl) (fun r9 J_174 hq9 => ?_)
          obtain ⟨z_174, rfl, hz_174, p_9⟩ := hq9
          obtain ⟨m9, g9, h9⟩ := GR.made p_9 (by omega)
          have q9 := GR.tr q_119 g9
          exact tz_iret (pc := 177) (z := z_174) dX2_appliedPart_177 rfl (Nat.le_of_ble_eq_true rfl) (Nat.le_of_ble_eq_true rfl) ⟨Nat.le_refl _, Nat.le_add_right _ _⟩ ⟨_, rfl, (by omega), (by first | exact ⟨m9, q9, h9⟩ | exact ⟨m, GR.rf C hm, Or.inr (by omega)⟩)⟩
      · refine tz_iconst (pc := 99) dX2_appliedPart_99 ?_
        refine tz_goto (pc := 100) (tgt := 122) dX2_appliedPart_100 (by decide) ?_
        refine tz_istore (pc := 122) (L2 := [_, _, _, _, _, _, _, _, _]) dX2_appliedPart_122 (by decide) rfl ?_
        refine tz_iload (pc := 124) dX2_appliedPart_124 rfl ?_
        refine tz_iconst (pc := 126) dX2_appliedPart_126 ?_
        refine tz_icmp_ge (pc := 127) (tgt := 134) dX2_appliedPart_127 (by decide) (by omega) (by decide) (fun h_127 => ?_) (fun h_127 => ?_)
        · refine tz_aload_n (pc := 134) dX2_appliedPart_134 rfl rfl ?_
          refine tz_aload_n (pc := 135) dX2_appliedPart_135 rfl rfl ?_
          refine tz_fR (pc := 136) dX2_appliedPart_136 fl_X2_28 r_141_0 ?_
          refine tz_iload_n (pc := 139) dX2_appliedPart_139 rfl rfl ?_
          refine tz_iconst (pc := 140) dX2_appliedPart_140 ?_
          refine tz_cV (pc := 141) (c_arg hl n _ _ _ (by omega) (by decide) (by omega)) vl_X2_48 dX2_appliedPart_141 o_6 rfl rfl (Nat.le_of_ble_eq_true rfl) ⟨(Nat.le_of_ble_eq_true rfl), (Nat.le_of_ble_eq_true rfl)⟩ rfl rfl (Nat.le_of_ble_eq_true rfl) (Nat.le_of_ble_eq_true rfl) (fun r9 J_141 hq9 => ?_)
          obtain ⟨z_141, rfl, hz_141, rfl, rfl⟩ := hq9
          refine tz_aload_n (pc := 144) dX2_appliedPart_144 rfl rfl ?_
          refine tz_iload_n (pc := 145) dX2_appliedPart_145 rfl rfl ?_
          refine tz_iload (pc := 146) dX2_appliedPart_146 rfl ?_
          refine tz_iconst (pc := 148) dX2_appliedPart_148 ?_
          refine tz_iadd (pc := 149) (v := 5) dX2_appliedPart_149 (by decide) ?_
          have b_150 := GR.arg (GR.rf C hm) C ht (i := 2) (by omega)
          have c_150 := ((GR.rf C hm)).1
          refine tz_cV (pc := 150) (c_app140_5 hl n _ _ (by omega) m ((GR.rf C hm)).2.1 ((GR.rf C hm)).2.2.1 (by omega) (GR.row (GR.rf C hm) rfl hr)) vl_X2_32 dX2_appliedPart_150 o_141 rfl rfl (Nat.le_of_ble_eq_true rfl) ⟨(Nat.le_of_ble_eq_true rfl), (Nat.le_of_ble_eq_true rfl)⟩ rfl rfl (Nat.le_of_ble_eq_true rfl) (Nat.le_of_ble_eq_true rfl) (fun r9 J_150 hq9 => ?_)
          obtain ⟨z_150, rfl, hz_150, m_150, g_150, hz_150⟩ := hq9
          have q_150 := GR.tr (GR.rf C hm) g_150
          have d_150 := q_150.1
          have e_150 := g_150.1
          refine tz_istore (pc := 153) (L2 := [_, _, _, _, _, _, _, _, _]) dX2_appliedPart_153 (by decide) rfl ?_
          refine tz_aload_n (pc := 155) dX2_appliedPart_155 rfl rfl ?_
          refine tz_fR (pc := 156) dX2_appliedPart_156 fl_X2_28 r_141_0 ?_
          refine tz_aload_n (pc := 159) dX2_appliedPart_159 rfl rfl ?_
          refine tz_fR (pc := 160) dX2_appliedPart_160 fl_X2_28 r_141_0 ?_
          refine tz_fR (pc := 163) dX2_appliedPart_163 fl_X2_42 r_6_1 ?_
          refine tz_iload_n (pc := 166) dX2_appliedPart_166 rfl rfl ?_
          refine tz_aL (pc := 167) (z := t) (v := (J_150 7 t)) dX2_appliedPart_167 a_7 rfl (by omega) rfl (fun r_167 => ?_)
          refine tz_iload (pc := 168) dX2_appliedPart_168 rfl ?_
          refine tz_iload (pc := 170) dX2_appliedPart_170 rfl ?_
          refine tz_iload (pc := 172) dX2_appliedPart_172 rfl ?_
          refine tz_cV (pc := 174) (c_made hl n _ _ _ _ _ (by omega) (by omega) (by omega) (by omega) m_150 (q_150).2.1 (q_150).2.2.1 (by have := (q_150).2.1.ar (t := t) (by omega) (by have := (q_150).1; omega); omega) (ltA_of (by omega) (by omega) (by omega))) vl_X2_52 dX2_appliedPart_174 o_6 rfl rfl (Nat.le_of_ble_eq_true rfl) ⟨(Nat.le_of_ble_eq_true rfl), (Nat.le_of_ble_eq_true rfl)⟩ rfl rfl (Nat.le_of_ble_eq_true rfl) (Nat.le_of_ble_eq_true rfl) (fun r9 J_174 hq9 => ?_)
          obtain ⟨z_174, rfl, hz_174, p_9⟩ := hq9
          obtain ⟨m9, g9, h9⟩ := GR.made p_9 (by omega)
          have q9 := GR.tr q_150 g9
          exact tz_iret (pc := 177) (z := z_174) dX2_appliedPart_177 rfl (Nat.le_of_ble_eq_true rfl) (Nat.le_of_ble_eq_true rfl) ⟨Nat.le_refl _, Nat.le_add_right _ _⟩ ⟨_, rfl, (by omega), (by first | exact ⟨m9, q9, h9⟩ | exact ⟨m, GR.rf C hm, Or.inr (by omega)⟩)⟩
        · refine tz_iconst (pc := 130) dX2_appliedPart_130 ?_
          refine tz_goto (pc := 131) (tgt := 153) dX2_appliedPart_131 (by decide) ?_
          refine tz_istore (pc := 153) (L2 := [_, _, _, _, _, _, _, _, _]) dX2_appliedPart_153 (by decide) rfl ?_
          refine tz_aload_n (pc := 155) dX2_appliedPart_155 rfl rfl ?_
          refine tz_fR (pc := 156) dX2_appliedPart_156 fl_X2_28 r_141_0 ?_
          refine tz_aload_n (pc := 159) dX2_appliedPart_159 rfl rfl ?_
          refine tz_fR (pc := 160) dX2_appliedPart_160 fl_X2_28 r_141_0 ?_
          refine tz_fR (pc := 163) dX2_appliedPart_163 fl_X2_42 r_6_1 ?_
          refine tz_iload_n (pc := 166) dX2_appliedPart_166 rfl rfl ?_
          refine tz_aL (pc := 167) (z := t) (v := (J 7 t)) dX2_appliedPart_167 a_7 rfl (by omega) rfl (fun r_167 => ?_)
          refine tz_iload (pc := 168) dX2_appliedPart_168 rfl ?_
          refine tz_iload (pc := 170) dX2_appliedPart_170 rfl ?_
          refine tz_iload (pc := 172) dX2_appliedPart_172 rfl ?_
          refine tz_cV (pc := 174) (c_made hl n _ _ _ _ _ (by omega) (by omega) (by omega) (by omega) m ((GR.rf C hm)).2.1 ((GR.rf C hm)).2.2.1 (by have := ((GR.rf C hm)).2.1.ar (t := t) (by omega) (by have := ((GR.rf C hm)).1; omega); omega) (ltA_of (by omega) (by omega) (by omega))) vl_X2_52 dX2_appliedPart_174 o_6 rfl rfl (Nat.le_of_ble_eq_true rfl) ⟨(Nat.le_of_ble_eq_true rfl), (Nat.le_of_ble_eq_true rfl)⟩ rfl rfl (Nat.le_of_ble_eq_true rfl) (Nat.le_of_ble_eq_true rfl) (fun r9 J_174 hq9 => ?_)
          obtain ⟨z_174, rfl, hz_174, p_9⟩ := hq9
          obtain ⟨m9, g9, h9⟩ := GR.made p_9 (by omega)
          have q9 := GR.tr (GR.rf C hm) g9
          exact tz_iret (pc := 177) (z := z_174) dX2_appliedPart_177 rfl (Nat.le_of_ble_eq_true rfl) (Nat.le_of_ble_eq_true rfl) ⟨Nat.le_refl _, Nat.le_add_right _ _⟩ ⟨_, rfl, (by omega), (by first | exact ⟨m9, q9, h9⟩ | exact ⟨m, GR.rf C hm, Or.inr (by omega)⟩)⟩

set_option maxHeartbeats 4000000 in
set_option maxRecDepth 100000 in
theorem c_app140_3 {l : Launch} {G : tb_G} (hl : l.stackTraces = false) (n : Nat) (J : zJ) (t : Int) (hr_t : -2147483648 ≤ t ∧ t < 2147483648) (m : Int) (C : CT J m) (hm : J 6 12 = m) (ht : 0 ≤ t ∧ t < m) (hr : rOK J 140 0 m) : tz_Ok l G M_X2_appliedPart 6 0 0 [.ref 141, zi t, .ref 140, zi 0, zi 3] n J (zqi (fun z J' => ∃ m', GR J' J m m' ∧ (z = -3 ∨ (0 ≤ z ∧ z < m')))) zN := by
  refine tz_Ok.of hl (by decide +kernel) rfl (tb_c1 rfl) (Nat.le_of_ble_eq_true rfl) ?_
  show tz_At l G M_X2_appliedPart (tb_rm 6 0 0) none (tb_ZM G 0 0 (zQ n 0 (zqi (fun z J' => ∃ m', GR J' J m m' ∧ (z = -3 ∨ (0 ≤ z ∧ z < m'))))) (zX n 0 zN)) 0 0 n J 0 [some (.ref 141), some (zi t), some (.ref 140), some (zi 0), some (zi 3), none, none, none, none] []
  have hb := C.told
  have ha := C.ar ht.1 ht.2
  refine tz_iload (pc := 0) dX2_appliedPart_0 rfl ?_
  refine tz_bipush (pc := 2) dX2_appliedPart_2 (by decide) ?_
  refine tz_icmp_leT (pc := 4) (tgt := 10) (by decide) dX2_appliedPart_4 (by decide) (by decide) (by decide) ?_
  refine tz_aload_n (pc := 10) dX2_appliedPart_10 rfl rfl ?_
  refine tz_fR (pc := 11) dX2_appliedPart_11 fl_X2_28 r_141_0 ?_
  refine tz_iload_n (pc := 14) dX2_appliedPart_14 rfl rfl ?_
  refine tz_cV (pc := 15) (c_isVar hl n _ _ (by omega) (by omega)) vl_X2_36 dX2_appliedPart_15 o_6 rfl rfl (Nat.le_of_ble_eq_true rfl) ⟨(Nat.le_of_ble_eq_true rfl), (Nat.le_of_ble_eq_true rfl)⟩ rfl rfl (Nat.le_of_ble_eq_true rfl) (Nat.le_of_ble_eq_true rfl) (fun r9 J_15 hq9 => ?_)
  obtain ⟨z_15, rfl, hz_15, rfl, rfl⟩ := hq9
  by_cases hw_18 : J 7 t < 0
  · rw [show (if J 7 t < 0 then 1 else 0 : Int) = 1 from if_pos hw_18]
    refine tz_if_eqF (pc := 18) (tgt := 51) (by decide) dX2_appliedPart_18 (by decide) (by decide) ?_
    refine tz_aload_n (pc := 21) dX2_appliedPart_21 rfl rfl ?_
    refine tz_iload_n (pc := 22) dX2_appliedPart_22 rfl rfl ?_
    refine tz_aload_n (pc := 23) dX2_appliedPart_23 rfl rfl ?_
    refine tz_fR (pc := 24) dX2_appliedPart_24 fl_X2_28 r_141_0 ?_
    refine tz_fR (pc := 27) dX2_appliedPart_27 fl_X2_42 r_6_1 ?_
    refine tz_iload_n (pc := 30) dX2_appliedPart_30 rfl rfl ?_
    refine tz_aL (pc := 31) (z := t) (v := (J 7 t)) dX2_appliedPart_31 a_7 rfl (by omega) rfl (fun r_31 => ?_)
    refine tz_iconst (pc := 32) dX2_appliedPart_32 ?_
    refine tz_ixor (pc := 33) (v := zxor (J 7 t) (-1)) dX2_appliedPart_33 rfl ?_
    refine tz_iadd (pc := 34) (v := 0 + (zxor (J 7 t) (-1))) dX2_appliedPart_34 rfl ?_
    have hv := hr (zxor (J 7 t) (-1)) (by rw [z_nn (by omega)]; omega) (by rw [z_nn (by omega)]; omega)
    refine tz_aL (pc := 35) (z := (0 + (zxor (J 7 t) (-1)))) (v := (J 140 (0 + (zxor (J 7 t) (-1))))) dX2_appliedPart_35 a_140 rfl (by rw [z_nn (by omega)]; omega) rfl (fun r_35 => ?_)
    refine tz_istore (pc := 36) (L2 := [_, _, _, _, _, _, _, _, _]) dX2_appliedPart_36 (by decide) rfl ?_
    refine tz_iload (pc := 38) dX2_appliedPart_38 rfl ?_
    refine tz_iconst (pc := 40) dX2_appliedPart_40 ?_
    refine tz_icmp_ne (pc := 41) (tgt := 48) dX2_appliedPart_41 (by decide) (by omega) (by decide) (fun h_41 => ?_) (fun h_41 => ?_)
    · refine tz_iload (pc := 48) dX2_appliedPart_48 rfl ?_
      exact tz_iret (pc := 50) (z := (J 140 (0 + (zxor (J 7 t) (-1))))) dX2_appliedPart_50 rfl (Nat.le_of_ble_eq_true rfl) (Nat.le_of_ble_eq_true rfl) ⟨Nat.le_refl _, Nat.le_add_right _ _⟩ ⟨_, rfl, (by omega), (by first | exact ⟨m9, q9, h9⟩ | exact ⟨m, GR.rf C hm, Or.inr (by omega)⟩)⟩
    · refine tz_iload_n (pc := 44) dX2_appliedPart_44 rfl rfl ?_
      refine tz_goto (pc := 45) (tgt := 50) dX2_appliedPart_45 (by decide) ?_
      exact tz_iret (pc := 50) (z := t) dX2_appliedPart_50 rfl (Nat.le_of_ble_eq_true rfl) (Nat.le_of_ble_eq_true rfl) ⟨Nat.le_refl _, Nat.le_add_right _ _⟩ ⟨_, rfl, (by omega), (by first | exact ⟨m9, q9, h9⟩ | exact ⟨m, GR.rf C hm, Or.inr (by omega)⟩)⟩
  · rw [show (if J 7 t < 0 then 1 else 0 : Int) = 0 from if_neg hw_18]
    refine tz_if_eqT (pc := 18) (tgt := 51) (by decide) dX2_appliedPart_18 (by decide) (by decide) ?_
    refine tz_aload_n (pc := 51) dX2_appliedPart_51 rfl rfl ?_
    refine tz_fR (pc := 52) dX2_appliedPart_52 fl_X2_28 r_141_0 ?_
    refine tz_fR (pc := 55) dX2_appliedPart_55 fl_X2_45 r_6_2 ?_
    refine tz_iload_n (pc := 58) dX2_appliedPart_58 rfl rfl ?_
    refine tz_aL (pc := 59) (z := t) (v := (J 8 t)) dX2_appliedPart_59 a_8 rfl (by omega) rfl (fun r_59 => ?_)
    refine tz_istore (pc := 60) (L2 := [_, _, _, _, _, _, _, _, _]) dX2_appliedPart_60 (by decide) rfl ?_
    refine tz_iload (pc := 62) dX2_appliedPart_62 rfl ?_
    refine tz_iconst (pc := 64) dX2_appliedPart_64 ?_
    refine tz_icmp_ge (pc := 65) (tgt := 72) dX2_appliedPart_65 (by decide) (by omega) (by decide) (fun h_65 => ?_) (fun h_65 => ?_)
    · refine tz_aload_n (pc := 72) dX2_appliedPart_72 rfl rfl ?_
      refine tz_aload_n (pc := 73) dX2_appliedPart_73 rfl rfl ?_
      refine tz_fR (pc := 74) dX2_appliedPart_74 fl_X2_28 r_141_0 ?_
      refine tz_iload_n (pc := 77) dX2_appliedPart_77 rfl rfl ?_
      refine tz_iconst (pc := 78) dX2_appliedPart_78 ?_
      refine tz_cV (pc := 79) (c_arg hl n _ _ _ (by omega) (by decide) (by omega)) vl_X2_48 dX2_appliedPart_79 o_6 rfl rfl (Nat.le_of_ble_eq_true rfl) ⟨(Nat.le_of_ble_eq_true rfl), (Nat.le_of_ble_eq_true rfl)⟩ rfl rfl (Nat.le_of_ble_eq_true rfl) (Nat.le_of_ble_eq_true rfl) (fun r9 J_79 hq9 => ?_)
      obtain ⟨z_79, rfl, hz_79, rfl, rfl⟩ := hq9
      refine tz_aload_n (pc := 82) dX2_appliedPart_82 rfl rfl ?_
      refine tz_iload_n (pc := 83) dX2_appliedPart_83 rfl rfl ?_
      refine tz_iload (pc := 84) dX2_appliedPart_84 rfl ?_
      refine tz_iconst (pc := 86) dX2_appliedPart_86 ?_
      refine tz_iadd (pc := 87) (v := 4) dX2_appliedPart_87 (by decide) ?_
      have b_88 := GR.arg (GR.rf C hm) C ht (i := 0) (by omega)
      have c_88 := ((GR.rf C hm)).1
      refine tz_cV (pc := 88) (c_app140_4 hl n _ _ (by omega) m ((GR.rf C hm)).2.1 ((GR.rf C hm)).2.2.1 (by omega) (GR.row (GR.rf C hm) rfl hr)) vl_X2_32 dX2_appliedPart_88 o_141 rfl rfl (Nat.le_of_ble_eq_true rfl) ⟨(Nat.le_of_ble_eq_true rfl), (Nat.le_of_ble_eq_true rfl)⟩ rfl rfl (Nat.le_of_ble_eq_true rfl) (Nat.le_of_ble_eq_true rfl) (fun r9 J_88 hq9 => ?_)
      obtain ⟨z_88, rfl, hz_88, m_88, g_88, hz_88⟩ := hq9
      have q_88 := GR.tr (GR.rf C hm) g_88
      have d_88 := q_88.1
      have e_88 := g_88.1
      refine tz_istore (pc := 91) (L2 := [_, _, _, _, _, _, _, _, _]) dX2_appliedPart_91 (by decide) rfl ?_
      refine tz_iload (pc := 93) dX2_appliedPart_93 rfl ?_
      refine tz_iconst (pc := 95) dX2_appliedPart_95 ?_
      refine tz_icmp_ge (pc := 96) (tgt := 103) dX2_appliedPart_96 (by decide) (by omega) (by decide) (fun h_96 => ?_) (fun h_96 => ?_)
      · refine tz_aload_n (pc := 103) dX2_appliedPart_103 rfl rfl ?_
        refine tz_aload_n (pc := 104) dX2_appliedPart_104 rfl rfl ?_
        refine tz_fR (pc := 105) dX2_appliedPart_105 fl_X2_28 r_141_0 ?_
        refine tz_iload_n (pc := 108) dX2_appliedPart_108 rfl rfl ?_
        refine tz_iconst (pc := 109) dX2_appliedPart_109 ?_
        refine tz_cV (pc := 110) (c_arg hl n _ _ _ (by omega) (by decide) (by omega)) vl_X2_48 dX2_appliedPart_110 o_6 rfl rfl (Nat.le_of_ble_eq_true rfl) ⟨(Nat.le_of_ble_eq_true rfl), (Nat.le_of_ble_eq_true rfl)⟩ rfl rfl (Nat.le_of_ble_eq_true rfl) (Nat.le_of_ble_eq_true rfl) (fun r9 J_110 hq9 => ?_)
        obtain ⟨z_110, rfl, hz_110, rfl, rfl⟩ := hq9
        refine tz_aload_n (pc := 113) dX2_appliedPart_113 rfl rfl ?_
        refine tz_iload_n (pc := 114) dX2_appliedPart_114 rfl rfl ?_
        refine tz_iload (pc := 115) dX2_appliedPart_115 rfl ?_
        refine tz_iconst (pc := 117) dX2_appliedPart_117 ?_
        refine tz_iadd (pc := 118) (v := 4) dX2_appliedPart_118 (by decide) ?_
        have b_119 := GR.arg q_88 C ht (i := 1) (by omega)
        have c_119 := (q_88).1
        refine tz_cV (pc := 119) (c_app140_4 hl n _ _ (by omega) m_88 (q_88).2.1 (q_88).2.2.1 (by omega) (GR.row q_88 rfl hr)) vl_X2_32 dX2_appliedPart_119 o_141 rfl rfl (Nat.le_of_ble_eq_true rfl) ⟨(Nat.le_of_ble_eq_true rfl), (Nat.le_of_ble_eq_true rfl)⟩ rfl rfl (Nat.le_of_ble_eq_true rfl) (Nat.le_of_ble_eq_true rfl) (fun r9 J_119 hq9 => ?_)
        obtain ⟨z_119, rfl, hz_119, m_119, g_119, hz_119⟩ := hq9
        have q_119 := GR.tr q_88 g_119
        have d_119 := q_119.1
        have e_119 := g_119.1
        refine tz_istore (pc := 122) (L2 := [_, _, _, _, _, _, _, _, _]) dX2_appliedPart_122 (by decide) rfl ?_
        refine tz_iload (pc := 124) dX2_appliedPart_124 rfl ?_
        refine tz_iconst (pc := 126) dX2_appliedPart_126 ?_
        refine tz_icmp_ge (pc := 127) (tgt := 134) dX2_appliedPart_127 (by decide) (by omega) (by decide) (fun h_127 => ?_) (fun h_127 => ?_)
        · refine tz_aload_n (pc := 134) dX2_appliedPart_134 rfl rfl ?_
          refine tz_aload_n (pc := 135) dX2_appliedPart_135 rfl rfl ?_
          refine tz_fR (pc := 136) dX2_appliedPart_136 fl_X2_28 r_141_0 ?_
          refine tz_iload_n (pc := 139) dX2_appliedPart_139 rfl rfl ?_
          refine tz_iconst (pc := 140) dX2_appliedPart_140 ?_
          refine tz_cV (pc := 141) (c_arg hl n _ _ _ (by omega) (by decide) (by omega)) vl_X2_48 dX2_appliedPart_141 o_6 rfl rfl (Nat.le_of_ble_eq_true rfl) ⟨(Nat.le_of_ble_eq_true rfl), (Nat.le_of_ble_eq_true rfl)⟩ rfl rfl (Nat.le_of_ble_eq_true rfl) (Nat.le_of_ble_eq_true rfl) (fun r9 J_141 hq9 => ?_)
          obtain ⟨z_141, rfl, hz_141, rfl, rfl⟩ := hq9
          refine tz_aload_n (pc := 144) dX2_appliedPart_144 rfl rfl ?_
          refine tz_iload_n (pc := 145) dX2_appliedPart_145 rfl rfl ?_
          refine tz_iload (pc := 146) dX2_appliedPart_146 rfl ?_
          refine tz_iconst (pc := 148) dX2_appliedPart_148 ?_
          refine tz_iadd (pc := 149) (v := 4) dX2_appliedPart_149 (by decide) ?_
          have b_150 := GR.arg q_119 C ht (i := 2) (by omega)
          have c_150 := (q_119).1
          refine tz_cV (pc := 150) (c_app140_4 hl n _ _ (by omega) m_119 (q_119).2.1 (q_119).2.2.1 (by omega) (GR.row q_119 rfl hr)) vl_X2_32 dX2_appliedPart_150 o_141 rfl rfl (Nat.le_of_ble_eq_true rfl) ⟨(Nat.le_of_ble_eq_true rfl), (Nat.le_of_ble_eq_true rfl)⟩ rfl rfl (Nat.le_of_ble_eq_true rfl) (Nat.le_of_ble_eq_true rfl) (fun r9 J_150 hq9 => ?_)
          obtain ⟨z_150, rfl, hz_150, m_150, g_150, hz_150⟩ := hq9
          have q_150 := GR.tr q_119 g_150
          have d_150 := q_150.1
          have e_150 := g_150.1
          refine tz_istore (pc := 153) (L2 := [_, _, _, _, _, _, _, _, _]) dX2_appliedPart_153 (by decide) rfl ?_
          refine tz_aload_n (pc := 155) dX2_appliedPart_155 rfl rfl ?_
          refine tz_fR (pc := 156) dX2_appliedPart_156 fl_X2_28 r_141_0 ?_
          refine tz_aload_n (pc := 159) dX2_appliedPart_159 rfl rfl ?_
          refine tz_fR (pc := 160) dX2_appliedPart_160 fl_X2_28 r_141_0 ?_
          refine tz_fR (pc := 163) dX2_appliedPart_163 fl_X2_42 r_6_1 ?_
          refine tz_iload_n (pc := 166) dX2_appliedPart_166 rfl rfl ?_
          refine tz_aL (pc := 167) (z := t) (v := (J_150 7 t)) dX2_appliedPart_167 a_7 rfl (by omega) rfl (fun r_167 => ?_)
          refine tz_iload (pc := 168) dX2_appliedPart_168 rfl ?_
          refine tz_iload (pc := 170) dX2_appliedPart_170 rfl ?_
          refine tz_iload (pc := 172) dX2_appliedPart_172 rfl ?_
          refine tz_cV (pc := 174) (c_made hl n _ _ _ _ _ (by omega) (by omega) (by omega) (by omega) m_150 (q_150).2.1 (q_150).2.2.1 (by have := (q_150).2.1.ar (t := t) (by omega) (by have := (q_150).1; omega); omega) (ltA_of (by omega) (by omega) (by omega))) vl_X2_52 dX2_appliedPart_174 o_6 rfl rfl (Nat.le_of_ble_eq_true rfl) ⟨(Nat.le_of_ble_eq_true rfl), (Nat.le_of_ble_eq_true rfl)⟩ rfl rfl (Nat.le_of_ble_eq_true rfl) (Nat.le_of_ble_eq_true rfl) (fun r9 J_174 hq9 => ?_)
          obtain ⟨z_174, rfl, hz_174, p_9⟩ := hq9
          obtain ⟨m9, g9, h9⟩ := GR.made p_9 (by omega)
          have q9 := GR.tr q_150 g9
          exact tz_iret (pc := 177) (z := z_174) dX2_appliedPart_177 rfl (Nat.le_of_ble_eq_true rfl) (Nat.le_of_ble_eq_true rfl) ⟨Nat.le_refl _, Nat.le_add_right _ _⟩ ⟨_, rfl, (by omega), (by first | exact ⟨m9, q9, h9⟩ | exact ⟨m, GR.rf C hm, Or.inr (by omega)⟩)⟩
        · refine tz_iconst (pc := 130) dX2_appliedPart_130 ?_
          refine tz_goto (pc := 131) (tgt := 153) dX2_appliedPart_131 (by decide) ?_
          refine tz_istore (pc := 153) (L2 := [_, _, _, _, _, _, _, _, _]) dX2_appliedPart_153 (by decide) rfl ?_
          refine tz_aload_n (pc := 155) dX2_appliedPart_155 rfl rfl ?_
          refine tz_fR (pc := 156) dX2_appliedPart_156 fl_X2_28 r_141_0 ?_
          refine tz_aload_n (pc := 159) dX2_appliedPart_159 rfl rfl ?_
          refine tz_fR (pc := 160) dX2_appliedPart_160 fl_X2_28 r_141_0 ?_
          refine tz_fR (pc := 163) dX2_appliedPart_163 fl_X2_42 r_6_1 ?_
          refine tz_iload_n (pc := 166) dX2_appliedPart_166 rfl rfl ?_
          refine tz_aL (pc := 167) (z := t) (v := (J_119 7 t)) dX2_appliedPart_167 a_7 rfl (by omega) rfl (fun r_167 => ?_)
          refine tz_iload (pc := 168) dX2_appliedPart_168 rfl ?_
          refine tz_iload (pc := 170) dX2_appliedPart_170 rfl ?_
          refine tz_iload (pc := 172) dX2_appliedPart_172 rfl ?_
          refine tz_cV (pc := 174) (c_made hl n _ _ _ _ _ (by omega) (by omega) (by omega) (by omega) m_119 (q_119).2.1 (q_119).2.2.1 (by have := (q_119).2.1.ar (t := t) (by omega) (by have := (q_119).1; omega); omega) (ltA_of (by omega) (by omega) (by omega))) vl_X2_52 dX2_appliedPart_174 o_6 rfl rfl (Nat.le_of_ble_eq_true rfl) ⟨(Nat.le_of_ble_eq_true rfl), (Nat.le_of_ble_eq_true rfl)⟩ rfl rfl (Nat.le_of_ble_eq_true rfl) (Nat.le_of_ble_eq_true rfl) (fun r9 J_174 hq9 => ?_)
          obtain ⟨z_174, rfl, hz_174, p_9⟩ := hq9
          obtain ⟨m9, g9, h9⟩ := GR.made p_9 (by omega)
          have q9 := GR.tr q_119 g9
          exact tz_iret (pc := 177) (z := z_174) dX2_appliedPart_177 rfl (Nat.le_of_ble_eq_true rfl) (Nat.le_of_ble_eq_true rfl) ⟨Nat.le_refl _, Nat.le_add_right _ _⟩ ⟨_, rfl, (by omega), (by first | exact ⟨m9, q9, h9⟩ | exact ⟨m, GR.rf C hm, Or.inr (by omega)⟩)⟩
      · refine tz_iconst (pc := 99) dX2_appliedPart_99 ?_
        refine tz_goto (pc := 100) (tgt := 122) dX2_appliedPart_100 (by decide) ?_
        refine tz_istore (pc := 122) (L2 := [_, _, _, _, _, _, _, _, _]) dX2_appliedPart_122 (by decide) rfl ?_
        refine tz_iload (pc := 124) dX2_appliedPart_124 rfl ?_
        refine tz_iconst (pc := 126) dX2_appliedPart_126 ?_
        refine tz_icmp_ge (pc := 127) (tgt := 134) dX2_appliedPart_127 (by decide) (by omega) (by decide) (fun h_127 => ?_) (fun h_127 => ?_)
        · refine tz_aload_n (pc := 134) dX2_appliedPart_134 rfl rfl ?_
          refine tz_aload_n (pc := 135) dX2_appliedPart_135 rfl rfl ?_
          refine tz_fR (pc := 136) dX2_appliedPart_136 fl_X2_28 r_141_0 ?_
          refine tz_iload_n (pc := 139) dX2_appliedPart_139 rfl rfl ?_
          refine tz_iconst (pc := 140) dX2_appliedPart_140 ?_
          refine tz_cV (pc := 141) (c_arg hl n _ _ _ (by omega) (by decide) (by omega)) vl_X2_48 dX2_appliedPart_141 o_6 rfl rfl (Nat.le_of_ble_eq_true rfl) ⟨(Nat.le_of_ble_eq_true rfl), (Nat.le_of_ble_eq_true rfl)⟩ rfl rfl (Nat.le_of_ble_eq_true rfl) (Nat.le_of_ble_eq_true rfl) (fun r9 J_141 hq9 => ?_)
          obtain ⟨z_141, rfl, hz_141, rfl, rfl⟩ := hq9
          refine tz_aload_n (pc := 144) dX2_appliedPart_144 rfl rfl ?_
          refine tz_iload_n (pc := 145) dX2_appliedPart_145 rfl rfl ?_
          refine tz_iload (pc := 146) dX2_appliedPart_146 rfl ?_
          refine tz_iconst (pc := 148) dX2_appliedPart_148 ?_
          refine tz_iadd (pc := 149) (v := 4) dX2_appliedPart_149 (by decide) ?_
          have b_150 := GR.arg q_88 C ht (i := 2) (by omega)
          have c_150 := (q_88).1
          refine tz_cV (pc := 150) (c_app140_4 hl n _ _ (by omega) m_88 (q_88).2.1 (q_88).2.2.1 (by omega) (GR.row q_88 rfl hr)) vl_X2_32 dX2_appliedPart_150 o_141 rfl rfl (Nat.le_of_ble_eq_true rfl) ⟨(Nat.le_of_ble_eq_true rfl), (Nat.le_of_ble_eq_true rfl)⟩ rfl rfl (Nat.le_of_ble_eq_true rfl) (Nat.le_of_ble_eq_true rfl) (fun r9 J_150 hq9 => ?_)
          obtain ⟨z_150, rfl, hz_150, m_150, g_150, hz_150⟩ := hq9
          have q_150 := GR.tr q_88 g_150
          have d_150 := q_150.1
          have e_150 := g_150.1
          refine tz_istore (pc := 153) (L2 := [_, _, _, _, _, _, _, _, _]) dX2_appliedPart_153 (by decide) rfl ?_
          refine tz_aload_n (pc := 155) dX2_appliedPart_155 rfl rfl ?_
          refine tz_fR (pc := 156) dX2_appliedPart_156 fl_X2_28 r_141_0 ?_
          refine tz_aload_n (pc := 159) dX2_appliedPart_159 rfl rfl ?_
          refine tz_fR (pc := 160) dX2_appliedPart_160 fl_X2_28 r_141_0 ?_
          refine tz_fR (pc := 163) dX2_appliedPart_163 fl_X2_42 r_6_1 ?_
          refine tz_iload_n (pc := 166) dX2_appliedPart_166 rfl rfl ?_
          refine tz_aL (pc := 167) (z := t) (v := (J_150 7 t)) dX2_appliedPart_167 a_7 rfl (by omega) rfl (fun r_167 => ?_)
          refine tz_iload (pc := 168) dX2_appliedPart_168 rfl ?_
          refine tz_iload (pc := 170) dX2_appliedPart_170 rfl ?_
          refine tz_iload (pc := 172) dX2_appliedPart_172 rfl ?_
          refine tz_cV (pc := 174) (c_made hl n _ _ _ _ _ (by omega) (by omega) (by omega) (by omega) m_150 (q_150).2.1 (q_150).2.2.1 (by have := (q_150).2.1.ar (t := t) (by omega) (by have := (q_150).1; omega); omega) (ltA_of (by omega) (by omega) (by omega))) vl_X2_52 dX2_appliedPart_174 o_6 rfl rfl (Nat.le_of_ble_eq_true rfl) ⟨(Nat.le_of_ble_eq_true rfl), (Nat.le_of_ble_eq_true rfl)⟩ rfl rfl (Nat.le_of_ble_eq_true rfl) (Nat.le_of_ble_eq_true rfl) (fun r9 J_174 hq9 => ?_)
          obtain ⟨z_174, rfl, hz_174, p_9⟩ := hq9
          obtain ⟨m9, g9, h9⟩ := GR.made p_9 (by omega)
          have q9 := GR.tr q_150 g9
          exact tz_iret (pc := 177) (z := z_174) dX2_appliedPart_177 rfl (Nat.le_of_ble_eq_true rfl) (Nat.le_of_ble_eq_true rfl) ⟨Nat.le_refl _, Nat.le_add_right _ _⟩ ⟨_, rfl, (by omega), (by first | exact ⟨m9, q9, h9⟩ | exact ⟨m, GR.rf C hm, Or.inr (by omega)⟩)⟩
        · refine tz_iconst (pc := 130) dX2_appliedPart_130 ?_
          refine tz_goto (pc := 131) (tgt := 153) dX2_appliedPart_131 (by decide) ?_
          refine tz_istore (pc := 153) (L2 := [_, _, _, _, _, _, _, _, _]) dX2_appliedPart_153 (by decide) rfl ?_
          refine tz_aload_n (pc := 155) dX2_appliedPart_155 rfl rfl ?_
          refine tz_fR (pc := 156) dX2_appliedPart_156 fl_X2_28 r_141_0 ?_
          refine tz_aload_n (pc := 159) dX2_appliedPart_159 rfl rfl ?_
          refine tz_fR (pc := 160) dX2_appliedPart_160 fl_X2_28 r_141_0 ?_
          refine tz_fR (pc := 163) dX2_appliedPart_163 fl_X2_42 r_6_1 ?_
          refine tz_iload_n (pc := 166) dX2_appliedPart_166 rfl rfl ?_
          refine tz_aL (pc := 167) (z := t) (v := (J_88 7 t)) dX2_appliedPart_167 a_7 rfl (by omega) rfl (fun r_167 => ?_)
          refine tz_iload (pc := 168) dX2_appliedPart_168 rfl ?_
          refine tz_iload (pc := 170) dX2_appliedPart_170 rfl ?_
          refine tz_iload (pc := 172) dX2_appliedPart_172 rfl ?_
          refine tz_cV (pc := 174) (c_made hl n _ _ _ _ _ (by omega) (by omega) (by omega) (by omega) m_88 (q_88).2.1 (q_88).2.2.1 (by have := (q_88).2.1.ar (t := t) (by omega) (by have := (q_88).1; omega); omega) (ltA_of (by omega) (by omega) (by omega))) vl_X2_52 dX2_appliedPart_174 o_6 rfl rfl (Nat.le_of_ble_eq_true rfl) ⟨(Nat.le_of_ble_eq_true rfl), (Nat.le_of_ble_eq_true rfl)⟩ rfl rfl (Nat.le_of_ble_eq_true rfl) (Nat.le_of_ble_eq_true rfl) (fun r9 J_174 hq9 => ?_)
          obtain ⟨z_174, rfl, hz_174, p_9⟩ := hq9
          obtain ⟨m9, g9, h9⟩ := GR.made p_9 (by omega)
          have q9 := GR.tr q_88 g9
          exact tz_iret (pc := 177) (z := z_174) dX2_appliedPart_177 rfl (Nat.le_of_ble_eq_true rfl) (Nat.le_of_ble_eq_true rfl) ⟨Nat.le_refl _, Nat.le_add_right _ _⟩ ⟨_, rfl, (by omega), (by first | exact ⟨m9, q9, h9⟩ | exact ⟨m, GR.rf C hm, Or.inr (by omega)⟩)⟩
    · refine tz_iconst (pc := 68) dX2_appliedPart_68 ?_
      refine tz_goto (pc := 69) (tgt := 91) dX2_appliedPart_69 (by decide) ?_
      refine tz_istore (pc := 91) (L2 := [_, _, _, _, _, _, _, _, _]) dX2_appliedPart_91 (by decide) rfl ?_
      refine tz_iload (pc := 93) dX2_appliedPart_93 rfl ?_
      refine tz_iconst (pc := 95) dX2_appliedPart_95 ?_
      refine tz_icmp_ge (pc := 96) (tgt := 103) dX2_appliedPart_96 (by decide) (by omega) (by decide) (fun h_96 => ?_) (fun h_96 => ?_)
      · refine tz_aload_n (pc := 103) dX2_appliedPart_103 rfl rfl ?_
        refine tz_aload_n (pc := 104) dX2_appliedPart_104 rfl rfl ?_
        refine tz_fR (pc := 105) dX2_appliedPart_105 fl_X2_28 r_141_0 ?_
        refine tz_iload_n (pc := 108) dX2_appliedPart_108 rfl rfl ?_
        refine tz_iconst (pc := 109) dX2_appliedPart_109 ?_
        refine tz_cV (pc := 110) (c_arg hl n _ _ _ (by omega) (by decide) (by omega)) vl_X2_48 dX2_appliedPart_110 o_6 rfl rfl (Nat.le_of_ble_eq_true rfl) ⟨(Nat.le_of_ble_eq_true rfl), (Nat.le_of_ble_eq_true rfl)⟩ rfl rfl (Nat.le_of_ble_eq_true rfl) (Nat.le_of_ble_eq_true rfl) (fun r9 J_110 hq9 => ?_)
        obtain ⟨z_110, rfl, hz_110, rfl, rfl⟩ := hq9
        refine tz_aload_n (pc := 113) dX2_appliedPart_113 rfl rfl ?_
        refine tz_iload_n (pc := 114) dX2_appliedPart_114 rfl rfl ?_
        refine tz_iload (pc := 115) dX2_appliedPart_115 rfl ?_
        refine tz_iconst (pc := 117) dX2_appliedPart_117 ?_
        refine tz_iadd (pc := 118) (v := 4) dX2_appliedPart_118 (by decide) ?_
        have b_119 := GR.arg (GR.rf C hm) C ht (i := 1) (by omega)
        have c_119 := ((GR.rf C hm)).1
        refine tz_cV (pc := 119) (c_app140_4 hl n _ _ (by omega) m ((GR.rf C hm)).2.1 ((GR.rf C hm)).2.2.1 (by omega) (GR.row (GR.rf C hm) rfl hr)) vl_X2_32 dX2_appliedPart_119 o_141 rfl rfl (Nat.le_of_ble_eq_true rfl) ⟨(Nat.le_of_ble_eq_true rfl), (Nat.le_of_ble_eq_true rfl)⟩ rfl rfl (Nat.le_of_ble_eq_true rfl) (Nat.le_of_ble_eq_true rfl) (fun r9 J_119 hq9 => ?_)
        obtain ⟨z_119, rfl, hz_119, m_119, g_119, hz_119⟩ := hq9
        have q_119 := GR.tr (GR.rf C hm) g_119
        have d_119 := q_119.1
        have e_119 := g_119.1
        refine tz_istore (pc := 122) (L2 := [_, _, _, _, _, _, _, _, _]) dX2_appliedPart_122 (by decide) rfl ?_
        refine tz_iload (pc := 124) dX2_appliedPart_124 rfl ?_
        refine tz_iconst (pc := 126) dX2_appliedPart_126 ?_
        refine tz_icmp_ge (pc := 127) (tgt := 134) dX2_appliedPart_127 (by decide) (by omega) (by decide) (fun h_127 => ?_) (fun h_127 => ?_)
        · refine tz_aload_n (pc := 134) dX2_appliedPart_134 rfl rfl ?_
          refine tz_aload_n (pc := 135) dX2_appliedPart_135 rfl rfl ?_
          refine tz_fR (pc := 136) dX2_appliedPart_136 fl_X2_28 r_141_0 ?_
          refine tz_iload_n (pc := 139) dX2_appliedPart_139 rfl rfl ?_
          refine tz_iconst (pc := 140) dX2_appliedPart_140 ?_
          refine tz_cV (pc := 141) (c_arg hl n _ _ _ (by omega) (by decide) (by omega)) vl_X2_48 dX2_appliedPart_141 o_6 rfl rfl (Nat.le_of_ble_eq_true rfl) ⟨(Nat.le_of_ble_eq_true rfl), (Nat.le_of_ble_eq_true rfl)⟩ rfl rfl (Nat.le_of_ble_eq_true rfl) (Nat.le_of_ble_eq_true rfl) (fun r9 J_141 hq9 => ?_)
          obtain ⟨z_141, rfl, hz_141, rfl, rfl⟩ := hq9
          refine tz_aload_n (pc := 144) dX2_appliedPart_144 rfl rfl ?_
          refine tz_iload_n (pc := 145) dX2_appliedPart_145 rfl rfl ?_
          refine tz_iload (pc := 146) dX2_appliedPart_146 rfl ?_
          refine tz_iconst (pc := 148) dX2_appliedPart_148 ?_
          refine tz_iadd (pc := 149) (v := 4) dX2_appliedPart_149 (by decide) ?_
          have b_150 := GR.arg q_119 C ht (i := 2) (by omega)
          have c_150 := (q_119).1
          refine tz_cV (pc := 150) (c_app140_4 hl n _ _ (by omega) m_119 (q_119).2.1 (q_119).2.2.1 (by omega) (GR.row q_119 rfl hr)) vl_X2_32 dX2_appliedPart_150 o_141 rfl rfl (Nat.le_of_ble_eq_true rfl) ⟨(Nat.le_of_ble_eq_true rfl), (Nat.le_of_ble_eq_true rfl)⟩ rfl rfl (Nat.le_of_ble_eq_true rfl) (Nat.le_of_ble_eq_true rfl) (fun r9 J_150 hq9 => ?_)
          obtain ⟨z_150, rfl, hz_150, m_150, g_150, hz_150⟩ := hq9
          have q_150 := GR.tr q_119 g_150
          have d_150 := q_150.1
          have e_150 := g_150.1
          refine tz_istore (pc := 153) (L2 := [_, _, _, _, _, _, _, _, _]) dX2_appliedPart_153 (by decide) rfl ?_
          refine tz_aload_n (pc := 155) dX2_appliedPart_155 rfl rfl ?_
          refine tz_fR (pc := 156) dX2_appliedPart_156 fl_X2_28 r_141_0 ?_
          refine tz_aload_n (pc := 159) dX2_appliedPart_159 rfl rfl ?_
          refine tz_fR (pc := 160) dX2_appliedPart_160 fl_X2_28 r_141_0 ?_
          refine tz_fR (pc := 163) dX2_appliedPart_163 fl_X2_42 r_6_1 ?_
          refine tz_iload_n (pc := 166) dX2_appliedPart_166 rfl rfl ?_
          refine tz_aL (pc := 167) (z := t) (v := (J_150 7 t)) dX2_appliedPart_167 a_7 rfl (by omega) rfl (fun r_167 => ?_)
          refine tz_iload (pc := 168) dX2_appliedPart_168 rfl ?_
          refine tz_iload (pc := 170) dX2_appliedPart_170 rfl ?_
          refine tz_iload (pc := 172) dX2_appliedPart_172 rfl ?_
          refine tz_cV (pc := 174) (c_made hl n _ _ _ _ _ (by omega) (by omega) (by omega) (by omega) m_150 (q_150).2.1 (q_150).2.2.1 (by have := (q_150).2.1.ar (t := t) (by omega) (by have := (q_150).1; omega); omega) (ltA_of (by omega) (by omega) (by omega))) vl_X2_52 dX2_appliedPart_174 o_6 rfl rfl (Nat.le_of_ble_eq_true rfl) ⟨(Nat.le_of_ble_eq_true rfl), (Nat.le_of_ble_eq_true rfl)⟩ rfl rfl (Nat.le_of_ble_eq_true rfl) (Nat.le_of_ble_eq_true rfl) (fun r9 J_174 hq9 => ?_)
          obtain ⟨z_174, rfl, hz_174, p_9⟩ := hq9
          obtain ⟨m9, g9, h9⟩ := GR.made p_9 (by omega)
          have q9 := GR.tr q_150 g9
          exact tz_iret (pc := 177) (z := z_174) dX2_appliedPart_177 rfl (Nat.le_of_ble_eq_true rfl) (Nat.le_of_ble_eq_true rfl) ⟨Nat.le_refl _, Nat.le_add_right _ _⟩ ⟨_, rfl, (by omega), (by first | exact ⟨m9, q9, h9⟩ | exact ⟨m, GR.rf C hm, Or.inr (by omega)⟩)⟩
        · refine tz_iconst (pc := 130) dX2_appliedPart_130 ?_
          refine tz_goto (pc := 131) (tgt := 153) dX2_appliedPart_131 (by decide) ?_
          refine tz_istore (pc := 153) (L2 := [_, _, _, _, _, _, _, _, _]) dX2_appliedPart_153 (by decide) rfl ?_
          refine tz_aload_n (pc := 155) dX2_appliedPart_155 rfl rfl ?_
          refine tz_fR (pc := 156) dX2_appliedPart_156 fl_X2_28 r_141_0 ?_
          refine tz_aload_n (pc := 159) dX2_appliedPart_159 rfl rfl ?_
          refine tz_fR (pc := 160) dX2_appliedPart_160 fl_X2_28 r_141_0 ?_
          refine tz_fR (pc := 163) dX2_appliedPart_163 fl_X2_42 r_6_1 ?_
          refine tz_iload_n (pc := 166) dX2_appliedPart_166 rfl rfl ?_
          refine tz_aL (pc := 167) (z := t) (v := (J_119 7 t)) dX2_appliedPart_167 a_7 rfl (by omega) rfl (fun r_167 => ?_)
          refine tz_iload (pc := 168) dX2_appliedPart_168 rfl ?_
          refine tz_iload (pc := 170) dX2_appliedPart_170 rfl ?_
          refine tz_iload (pc := 172) dX2_appliedPart_172 rfl ?_
          refine tz_cV (pc := 174) (c_made hl n _ _ _ _ _ (by omega) (by omega) (by omega) (by omega) m_119 (q_119).2.1 (q_119).2.2.1 (by have := (q_119).2.1.ar (t := t) (by omega) (by have := (q_119).1; omega); omega) (ltA_of (by omega) (by omega) (by omega))) vl_X2_52 dX2_appliedPart_174 o_6 rfl rfl (Nat.le_of_ble_eq_true rfl) ⟨(Nat.le_of_ble_eq_true rfl), (Nat.le_of_ble_eq_true rfl)⟩ rfl rfl (Nat.le_of_ble_eq_true rfl) (Nat.le_of_ble_eq_true rfl) (fun r9 J_174 hq9 => ?_)
          obtain ⟨z_174, rfl, hz_174, p_9⟩ := hq9
          obtain ⟨m9, g9, h9⟩ := GR.made p_9 (by omega)
          have q9 := GR.tr q_119 g9
          exact tz_iret (pc := 177) (z := z_174) dX2_appliedPart_177 rfl (Nat.le_of_ble_eq_true rfl) (Nat.le_of_ble_eq_true rfl) ⟨Nat.le_refl _, Nat.le_add_right _ _⟩ ⟨_, rfl, (by omega), (by first | exact ⟨m9, q9, h9⟩ | exact ⟨m, GR.rf C hm, Or.inr (by omega)⟩)⟩
      · refine tz_iconst (pc := 99) dX2_appliedPart_99 ?_
        refine tz_goto (pc := 100) (tgt := 122) dX2_appliedPart_100 (by decide) ?_
        refine tz_istore (pc := 122) (L2 := [_, _, _, _, _, _, _, _, _]) dX2_appliedPart_122 (by decide) rfl ?_
        refine tz_iload (pc := 124) dX2_appliedPart_124 rfl ?_
        refine tz_iconst (pc := 126) dX2_appliedPart_126 ?_
        refine tz_icmp_ge (pc := 127) (tgt := 134) dX2_appliedPart_127 (by decide) (by omega) (by decide) (fun h_127 => ?_) (fun h_127 => ?_)
        · refine tz_aload_n (pc := 134) dX2_appliedPart_134 rfl rfl ?_
          refine tz_aload_n (pc := 135) dX2_appliedPart_135 rfl rfl ?_
          refine tz_fR (pc := 136) dX2_appliedPart_136 fl_X2_28 r_141_0 ?_
          refine tz_iload_n (pc := 139) dX2_appliedPart_139 rfl rfl ?_
          refine tz_iconst (pc := 140) dX2_appliedPart_140 ?_
          refine tz_cV (pc := 141) (c_arg hl n _ _ _ (by omega) (by decide) (by omega)) vl_X2_48 dX2_appliedPart_141 o_6 rfl rfl (Nat.le_of_ble_eq_true rfl) ⟨(Nat.le_of_ble_eq_true rfl), (Nat.le_of_ble_eq_true rfl)⟩ rfl rfl (Nat.le_of_ble_eq_true rfl) (Nat.le_of_ble_eq_true rfl) (fun r9 J_141 hq9 => ?_)
          obtain ⟨z_141, rfl, hz_141, rfl, rfl⟩ := hq9
          refine tz_aload_n (pc := 144) dX2_appliedPart_144 rfl rfl ?_
          refine tz_iload_n (pc := 145) dX2_appliedPart_145 rfl rfl ?_
          refine tz_iload (pc := 146) dX2_appliedPart_146 rfl ?_
          refine tz_iconst (pc := 148) dX2_appliedPart_148 ?_
          refine tz_iadd (pc := 149) (v := 4) dX2_appliedPart_149 (by decide) ?_
          have b_150 := GR.arg (GR.rf C hm) C ht (i := 2) (by omega)
          have c_150 := ((GR.rf C hm)).1
          refine tz_cV (pc := 150) (c_app140_4 hl n _ _ (by omega) m ((GR.rf C hm)).2.1 ((GR.rf C hm)).2.2.1 (by omega) (GR.row (GR.rf C hm) rfl hr)) vl_X2_32 dX2_appliedPart_150 o_141 rfl rfl (Nat.le_of_ble_eq_true rfl) ⟨(Nat.le_of_ble_eq_true rfl), (Nat.le_of_ble_eq_true rfl)⟩ rfl rfl (Nat.le_of_ble_eq_true rfl) (Nat.le_of_ble_eq_true rfl) (fun r9 J_150 hq9 => ?_)
          obtain ⟨z_150, rfl, hz_150, m_150, g_150, hz_150⟩ := hq9
          have q_150 := GR.tr (GR.rf C hm) g_150
          have d_150 := q_150.1
          have e_150 := g_150.1
          refine tz_istore (pc := 153) (L2 := [_, _, _, _, _, _, _, _, _]) dX2_appliedPart_153 (by decide) rfl ?_
          refine tz_aload_n (pc := 155) dX2_appliedPart_155 rfl rfl ?_
          refine tz_fR (pc := 156) dX2_appliedPart_156 fl_X2_28 r_141_0 ?_
          refine tz_aload_n (pc := 159) dX2_appliedPart_159 rfl rfl ?_
          refine tz_fR (pc := 160) dX2_appliedPart_160 fl_X2_28 r_141_0 ?_
          refine tz_fR (pc := 163) dX2_appliedPart_163 fl_X2_42 r_6_1 ?_
          refine tz_iload_n (pc := 166) dX2_appliedPart_166 rfl rfl ?_
          refine tz_aL (pc := 167) (z := t) (v := (J_150 7 t)) dX2_appliedPart_167 a_7 rfl (by omega) rfl (fun r_167 => ?_)
          refine tz_iload (pc := 168) dX2_appliedPart_168 rfl ?_
          refine tz_iload (pc := 170) dX2_appliedPart_170 rfl ?_
          refine tz_iload (pc := 172) dX2_appliedPart_172 rfl ?_
          refine tz_cV (pc := 174) (c_made hl n _ _ _ _ _ (by omega) (by omega) (by omega) (by omega) m_150 (q_150).2.1 (q_150).2.2.1 (by have := (q_150).2.1.ar (t := t) (by omega) (by have := (q_150).1; omega); omega) (ltA_of (by omega) (by omega) (by omega))) vl_X2_52 dX2_appliedPart_174 o_6 rfl rfl (Nat.le_of_ble_eq_true rfl) ⟨(Nat.le_of_ble_eq_true rfl), (Nat.le_of_ble_eq_true rfl)⟩ rfl rfl (Nat.le_of_ble_eq_true rfl) (Nat.le_of_ble_eq_true rfl) (fun r9 J_174 hq9 => ?_)
          obtain ⟨z_174, rfl, hz_174, p_9⟩ := hq9
          obtain ⟨m9, g9, h9⟩ := GR.made p_9 (by omega)
          have q9 := GR.tr q_150 g9
          exact tz_iret (pc := 177) (z := z_174) dX2_appliedPart_177 rfl (Nat.le_of_ble_eq_true rfl) (Nat.le_of_ble_eq_true rfl) ⟨Nat.le_refl _, Nat.le_add_right _ _⟩ ⟨_, rfl, (by omega), (by first | exact ⟨m9, q9, h9⟩ | exact ⟨m, GR.rf C hm, Or.inr (by omega)⟩)⟩
        · refine tz_iconst (pc := 130) dX2_appliedPart_130 ?_
          refine tz_goto (pc := 131) (tgt := 153) dX2_appliedPart_131 (by decide) ?_
          refine tz_istore (pc := 153) (L2 := [_, _, _, _, _, _, _, _, _]) dX2_appliedPart_153 (by decide) rfl ?_
          refine tz_aload_n (pc := 155) dX2_appliedPart_155 rfl rfl ?_
          refine tz_fR (pc := 156) dX2_appliedPart_156 fl_X2_28 r_141_0 ?_
          refine tz_aload_n (pc := 159) dX2_appliedPart_159 rfl rfl ?_
          refine tz_fR (pc := 160) dX2_appliedPart_160 fl_X2_28 r_141_0 ?_
          refine tz_fR (pc := 163) dX2_appliedPart_163 fl_X2_42 r_6_1 ?_
          refine tz_iload_n (pc := 166) dX2_appliedPart_166 rfl rfl ?_
          refine tz_aL (pc := 167) (z := t) (v := (J 7 t)) dX2_appliedPart_167 a_7 rfl (by omega) rfl (fun r_167 => ?_)
          refine tz_iload (pc := 168) dX2_appliedPart_168 rfl ?_
          refine tz_iload (pc := 170) dX2_appliedPart_170 rfl ?_
          refine tz_iload (pc := 172) dX2_appliedPart_172 rfl ?_
          refine tz_cV (pc := 174) (c_made hl n _ _ _ _ _ (by omega) (by omega) (by omega) (by omega) m ((GR.rf C hm)).2.1 ((GR.rf C hm)).2.2.1 (by have := ((GR.rf C hm)).2.1.ar (t := t) (by omega) (by have := ((GR.rf C hm)).1; omega); omega) (ltA_of (by omega) (by omega) (by omega))) vl_X2_52 dX2_appliedPart_174 o_6 rfl rfl (Nat.le_of_ble_eq_true rfl) ⟨(Nat.le_of_ble_eq_true rfl), (Nat.le_of_ble_eq_true rfl)⟩ rfl rfl (Nat.le_of_ble_eq_true rfl) (Nat.le_of_ble_eq_true rfl) (fun r9 J_174 hq9 => ?_)
          obtain ⟨z_174, rfl, hz_174, p_9⟩ := hq9
          obtain ⟨m9, g9, h9⟩ := GR.made p_9 (by omega)
          have q9 := GR.tr (GR.rf C hm) g9
          exact tz_iret (pc := 177) (z := z_174) dX2_appliedPart_177 rfl (Nat.le_of_ble_eq_true rfl) (Nat.le_of_ble_eq_true rfl) ⟨Nat.le_refl _, Nat.le_add_right _ _⟩ ⟨_, rfl, (by omega), (by first | exact ⟨m9, q9, h9⟩ | exact ⟨m, GR.rf C hm, Or.inr (by omega)⟩)⟩

set_option maxHeartbeats 4000000 in
set_option maxRecDepth 100000 in
theorem c_app140_2 {l : Launch} {G : tb_G} (hl : l.stackTraces = false) (n : Nat) (J : zJ) (t : Int) (hr_t : -2147483648 ≤ t ∧ t < 2147483648) (m : Int) (C : CT J m) (hm : J 6 12 = m) (ht : 0 ≤ t ∧ t < m) (hr : rOK J 140 0 m) : tz_Ok l G M_X2_appliedPart 7 0 0 [.ref 141, zi t, .ref 140, zi 0, zi 2] n J (zqi (fun z J' => ∃ m', GR J' J m m' ∧ (z = -3 ∨ (0 ≤ z ∧ z < m')))) zN := by
  refine tz_Ok.of hl (by decide +kernel) rfl (tb_c1 rfl) (Nat.le_of_ble_eq_true rfl) ?_
  show tz_At l G M_X2_appliedPart (tb_rm 7 0 0) none (tb_ZM G 0 0 (zQ n 0 (zqi (fun z J' => ∃ m', GR J' J m m' ∧ (z = -3 ∨ (0 ≤ z ∧ z < m'))))) (zX n 0 zN)) 0 0 n J 0 [some (.ref 141), some (zi t), some (.ref 140), some (zi 0), some (zi 2), none, none, none, none] []
  have hb := C.told
  have ha := C.ar ht.1 ht.2
  refine tz_iload (pc := 0) dX2_appliedPart_0 rfl ?_
  refine tz_bipush (pc := 2) dX2_appliedPart_2 (by decide) ?_
  refine tz_icmp_leT (pc := 4) (tgt := 10) (by decide) dX2_appliedPart_4 (by decide) (by decide) (by decide) ?_
  refine tz_aload_n (pc := 10) dX2_appliedPart_10 rfl rfl ?_
  refine tz_fR (pc := 11) dX2_appliedPart_11 fl_X2_28 r_141_0 ?_
  refine tz_iload_n (pc := 14) dX2_appliedPart_14 rfl rfl ?_
  refine tz_cV (pc := 15) (c_isVar hl n _ _ (by omega) (by omega)) vl_X2_36 dX2_appliedPart_15 o_6 rfl rfl (Nat.le_of_ble_eq_true rfl) ⟨(Nat.le_of_ble_eq_true rfl), (Nat.le_of_ble_eq_true rfl)⟩ rfl rfl (Nat.le_of_ble_eq_true rfl) (Nat.le_of_ble_eq_true rfl) (fun r9 J_15 hq9 => ?_)
  obtain ⟨z_15, rfl, hz_15, rfl, rfl⟩ := hq9
  by_cases hw_18 : J 7 t < 0
  · rw [show (if J 7 t < 0 then 1 else 0 : Int) = 1 from if_pos hw_18]
    refine tz_if_eqF (pc := 18) (tgt := 51) (by decide) dX2_appliedPart_18 (by decide) (by decide) ?_
    refine tz_aload_n (pc := 21) dX2_appliedPart_21 rfl rfl ?_
    refine tz_iload_n (pc := 22) dX2_appliedPart_22 rfl rfl ?_
    refine tz_aload_n (pc := 23) dX2_appliedPart_23 rfl rfl ?_
    refine tz_fR (pc := 24) dX2_appliedPart_24 fl_X2_28 r_141_0 ?_
    refine tz_fR (pc := 27) dX2_appliedPart_27 fl_X2_42 r_6_1 ?_
    refine tz_iload_n (pc := 30) dX2_appliedPart_30 rfl rfl ?_
    refine tz_aL (pc := 31) (z := t) (v := (J 7 t)) dX2_appliedPart_31 a_7 rfl (by omega) rfl (fun r_31 => ?_)
    refine tz_iconst (pc := 32) dX2_appliedPart_32 ?_
    refine tz_ixor (pc := 33) (v := zxor (J 7 t) (-1)) dX2_appliedPart_33 rfl ?_
    refine tz_iadd (pc := 34) (v := 0 + (zxor (J 7 t) (-1))) dX2_appliedPart_34 rfl ?_
    have hv := hr (zxor (J 7 t) (-1)) (by rw [z_nn (by omega)]; omega) (by rw [z_nn (by omega)]; omega)
    refine tz_aL (pc := 35) (z := (0 + (zxor (J 7 t) (-1)))) (v := (J 140 (0 + (zxor (J 7 t) (-1))))) dX2_appliedPart_35 a_140 rfl (by rw [z_nn (by omega)]; omega) rfl (fun r_35 => ?_)
    refine tz_istore (pc := 36) (L2 := [_, _, _, _, _, _, _, _, _]) dX2_appliedPart_36 (by decide) rfl ?_
    refine tz_iload (pc := 38) dX2_appliedPart_38 rfl ?_
    refine tz_iconst (pc := 40) dX2_appliedPart_40 ?_
    refine tz_icmp_ne (pc := 41) (tgt := 48) dX2_appliedPart_41 (by decide) (by omega) (by decide) (fun h_41 => ?_) (fun h_41 => ?_)
    · refine tz_iload (pc := 48) dX2_appliedPart_48 rfl ?_
      exact tz_iret (pc := 50) (z := (J 140 (0 + (zxor (J 7 t) (-1))))) dX2_appliedPart_50 rfl (Nat.le_of_ble_eq_true rfl) (Nat.le_of_ble_eq_true rfl) ⟨Nat.le_refl _, Nat.le_add_right _ _⟩ ⟨_, rfl, (by omega), (by first | exact ⟨m9, q9, h9⟩ | exact ⟨m, GR.rf C hm, Or.inr (by omega)⟩)⟩
    · refine tz_iload_n (pc := 44) dX2_appliedPart_44 rfl rfl ?_
      refine tz_goto (pc := 45) (tgt := 50) dX2_appliedPart_45 (by decide) ?_
      exact tz_iret (pc := 50) (z := t) dX2_appliedPart_50 rfl (Nat.le_of_ble_eq_true rfl) (Nat.le_of_ble_eq_true rfl) ⟨Nat.le_refl _, Nat.le_add_right _ _⟩ ⟨_, rfl, (by omega), (by first | exact ⟨m9, q9, h9⟩ | exact ⟨m, GR.rf C hm, Or.inr (by omega)⟩)⟩
  · rw [show (if J 7 t < 0 then 1 else 0 : Int) = 0 from if_neg hw_18]
    refine tz_if_eqT (pc := 18) (tgt := 51) (by decide) dX2_appliedPart_18 (by decide) (by decide) ?_
    refine tz_aload_n (pc := 51) dX2_appliedPart_51 rfl rfl ?_
    refine tz_fR (pc := 52) dX2_appliedPart_52 fl_X2_28 r_141_0 ?_
    refine tz_fR (pc := 55) dX2_appliedPart_55 fl_X2_45 r_6_2 ?_
    refine tz_iload_n (pc := 58) dX2_appliedPart_58 rfl rfl ?_
    refine tz_aL (pc := 59) (z := t) (v := (J 8 t)) dX2_appliedPart_59 a_8 rfl (by omega) rfl (fun r_59 => ?_)
    refine tz_istore (pc := 60) (L2 := [_, _, _, _, _, _, _, _, _]) dX2_appliedPart_60 (by decide) rfl ?_
    refine tz_iload (pc := 62) dX2_appliedPart_62 rfl ?_
    refine tz_iconst (pc := 64) dX2_appliedPart_64 ?_
    refine tz_icmp_ge (pc := 65) (tgt := 72) dX2_appliedPart_65 (by decide) (by omega) (by decide) (fun h_65 => ?_) (fun h_65 => ?_)
    · refine tz_aload_n (pc := 72) dX2_appliedPart_72 rfl rfl ?_
      refine tz_aload_n (pc := 73) dX2_appliedPart_73 rfl rfl ?_
      refine tz_fR (pc := 74) dX2_appliedPart_74 fl_X2_28 r_141_0 ?_
      refine tz_iload_n (pc := 77) dX2_appliedPart_77 rfl rfl ?_
      refine tz_iconst (pc := 78) dX2_appliedPart_78 ?_
      refine tz_cV (pc := 79) (c_arg hl n _ _ _ (by omega) (by decide) (by omega)) vl_X2_48 dX2_appliedPart_79 o_6 rfl rfl (Nat.le_of_ble_eq_true rfl) ⟨(Nat.le_of_ble_eq_true rfl), (Nat.le_of_ble_eq_true rfl)⟩ rfl rfl (Nat.le_of_ble_eq_true rfl) (Nat.le_of_ble_eq_true rfl) (fun r9 J_79 hq9 => ?_)
      obtain ⟨z_79, rfl, hz_79, rfl, rfl⟩ := hq9
      refine tz_aload_n (pc := 82) dX2_appliedPart_82 rfl rfl ?_
      refine tz_iload_n (pc := 83) dX2_appliedPart_83 rfl rfl ?_
      refine tz_iload (pc := 84) dX2_appliedPart_84 rfl ?_
      refine tz_iconst (pc := 86) dX2_appliedPart_86 ?_
      refine tz_iadd (pc := 87) (v := 3) dX2_appliedPart_87 (by decide) ?_
      have b_88 := GR.arg (GR.rf C hm) C ht (i := 0) (by omega)
      have c_88 := ((GR.rf C hm)).1
      refine tz_cV (pc := 88) (c_app140_3 hl n _ _ (by omega) m ((GR.rf C hm)).2.1 ((GR.rf C hm)).2.2.1 (by omega) (GR.row (GR.rf C hm) rfl hr)) vl_X2_32 dX2_appliedPart_88 o_141 rfl rfl (Nat.le_of_ble_eq_true rfl) ⟨(Nat.le_of_ble_eq_true rfl), (Nat.le_of_ble_eq_true rfl)⟩ rfl rfl (Nat.le_of_ble_eq_true rfl) (Nat.le_of_ble_eq_true rfl) (fun r9 J_88 hq9 => ?_)
      obtain ⟨z_88, rfl, hz_88, m_88, g_88, hz_88⟩ := hq9
      have q_88 := GR.tr (GR.rf C hm) g_88
      have d_88 := q_88.1
      have e_88 := g_88.1
      refine tz_istore (pc := 91) (L2 := [_, _, _, _, _, _, _, _, _]) dX2_appliedPart_91 (by decide) rfl ?_
      refine tz_iload (pc := 93) dX2_appliedPart_93 rfl ?_
      refine tz_iconst (pc := 95) dX2_appliedPart_95 ?_
      refine tz_icmp_ge (pc := 96) (tgt := 103) dX2_appliedPart_96 (by decide) (by omega) (by decide) (fun h_96 => ?_) (fun h_96 => ?_)
      · refine tz_aload_n (pc := 103) dX2_appliedPart_103 rfl rfl ?_
        refine tz_aload_n (pc := 104) dX2_appliedPart_104 rfl rfl ?_
        refine tz_fR (pc := 105) dX2_appliedPart_105 fl_X2_28 r_141_0 ?_
        refine tz_iload_n (pc := 108) dX2_appliedPart_108 rfl rfl ?_
        refine tz_iconst (pc := 109) dX2_appliedPart_109 ?_
        refine tz_cV (pc := 110) (c_arg hl n _ _ _ (by omega) (by decide) (by omega)) vl_X2_48 dX2_appliedPart_110 o_6 rfl rfl (Nat.le_of_ble_eq_true rfl) ⟨(Nat.le_of_ble_eq_true rfl), (Nat.le_of_ble_eq_true rfl)⟩ rfl rfl (Nat.le_of_ble_eq_true rfl) (Nat.le_of_ble_eq_true rfl) (fun r9 J_110 hq9 => ?_)
        obtain ⟨z_110, rfl, hz_110, rfl, rfl⟩ := hq9
        refine tz_aload_n (pc := 113) dX2_appliedPart_113 rfl rfl ?_
        refine tz_iload_n (pc := 114) dX2_appliedPart_114 rfl rfl ?_
        refine tz_iload (pc := 115) dX2_appliedPart_115 rfl ?_
        refine tz_iconst (pc := 117) dX2_appliedPart_117 ?_
        refine tz_iadd (pc := 118) (v := 3) dX2_appliedPart_118 (by decide) ?_
        have b_119 := GR.arg q_88 C ht (i := 1) (by omega)
        have c_119 := (q_88).1
        refine tz_cV (pc := 119) (c_app140_3 hl n _ _ (by omega) m_88 (q_88).2.1 (q_88).2.2.1 (by omega) (GR.row q_88 rfl hr)) vl_X2_32 dX2_appliedPart_119 o_141 rfl rfl (Nat.le_of_ble_eq_true rfl) ⟨(Nat.le_of_ble_eq_true rfl), (Nat.le_of_ble_eq_true rfl)⟩ rfl rfl (Nat.le_of_ble_eq_true rfl) (Nat.le_of_ble_eq_true rfl) (fun r9 J_119 hq9 => ?_)
        obtain ⟨z_119, rfl, hz_119, m_119, g_119, hz_119⟩ := hq9
        have q_119 := GR.tr q_88 g_119
        have d_119 := q_119.1
        have e_119 := g_119.1
        refine tz_istore (pc := 122) (L2 := [_, _, _, _, _, _, _, _, _]) dX2_appliedPart_122 (by decide) rfl ?_
        refine tz_iload (pc := 124) dX2_appliedPart_124 rfl ?_
        refine tz_iconst (pc := 126) dX2_appliedPart_126 ?_
        refine tz_icmp_ge (pc := 127) (tgt := 134) dX2_appliedPart_127 (by decide) (by omega) (by decide) (fun h_127 => ?_) (fun h_127 => ?_)
        · refine tz_aload_n (pc := 134) dX2_appliedPart_134 rfl rfl ?_
          refine tz_aload_n (pc := 135) dX2_appliedPart_135 rfl rfl ?_
          refine tz_fR (pc := 136) dX2_appliedPart_136 fl_X2_28 r_141_0 ?_
          refine tz_iload_n (pc := 139) dX2_appliedPart_139 rfl rfl ?_
          refine tz_iconst (pc := 140) dX2_appliedPart_140 ?_
          refine tz_cV (pc := 141) (c_arg hl n _ _ _ (by omega) (by decide) (by omega)) vl_X2_48 dX2_appliedPart_141 o_6 rfl rfl (Nat.le_of_ble_eq_true rfl) ⟨(Nat.le_of_ble_eq_true rfl), (Nat.le_of_ble_eq_true rfl)⟩ rfl rfl (Nat.le_of_ble_eq_true rfl) (Nat.le_of_ble_eq_true rfl) (fun r9 J_141 hq9 => ?_)
          obtain ⟨z_141, rfl, hz_141, rfl, rfl⟩ := hq9
          refine tz_aload_n (pc := 144) dX2_appliedPart_144 rfl rfl ?_
          refine tz_iload_n (pc := 145) dX2_appliedPart_145 rfl rfl ?_
          refine tz_iload (pc := 146) dX2_appliedPart_146 rfl ?_
          refine tz_iconst (pc := 148) dX2_appliedPart_148 ?_
          refine tz_iadd (pc := 149) (v := 3) dX2_appliedPart_149 (by decide) ?_
          have b_150 := GR.arg q_119 C ht (i := 2) (by omega)
          have c_150 := (q_119).1
          refine tz_cV (pc := 150) (c_app140_3 hl n _ _ (by omega) m_119 (q_119).2.1 (q_119).2.2.1 (by omega) (GR.row q_119 rfl hr)) vl_X2_32 dX2_appliedPart_150 o_141 rfl rfl (Nat.le_of_ble_eq_true rfl) ⟨(Nat.le_of_ble_eq_true rfl), (Nat.le_of_ble_eq_true rfl)⟩ rfl rfl (Nat.le_of_ble_eq_true rfl) (Nat.le_of_ble_eq_true rfl) (fun r9 J_150 hq9 => ?_)
          obtain ⟨z_150, rfl, hz_150, m_150, g_150, hz_150⟩ := hq9
          have q_150 := GR.tr q_119 g_150
          have d_150 := q_150.1
          have e_150 := g_150.1
          refine tz_istore (pc := 153) (L2 := [_, _, _, _, _, _, _, _, _]) dX2_appliedPart_153 (by decide) rfl ?_
          refine tz_aload_n (pc := 155) dX2_appliedPart_155 rfl rfl ?_
          refine tz_fR (pc := 156) dX2_appliedPart_156 fl_X2_28 r_141_0 ?_
          refine tz_aload_n (pc := 159) dX2_appliedPart_159 rfl rfl ?_
          refine tz_fR (pc := 160) dX2_appliedPart_160 fl_X2_28 r_141_0 ?_
          refine tz_fR (pc := 163) dX2_appliedPart_163 fl_X2_42 r_6_1 ?_
          refine tz_iload_n (pc := 166) dX2_appliedPart_166 rfl rfl ?_
          refine tz_aL (pc := 167) (z := t) (v := (J_150 7 t)) dX2_appliedPart_167 a_7 rfl (by omega) rfl (fun r_167 => ?_)
          refine tz_iload (pc := 168) dX2_appliedPart_168 rfl ?_
          refine tz_iload (pc := 170) dX2_appliedPart_170 rfl ?_
          refine tz_iload (pc := 172) dX2_appliedPart_172 rfl ?_
          refine tz_cV (pc := 174) (c_made hl n _ _ _ _ _ (by omega) (by omega) (by omega) (by omega) m_150 (q_150).2.1 (q_150).2.2.1 (by have := (q_150).2.1.ar (t := t) (by omega) (by have := (q_150).1; omega); omega) (ltA_of (by omega) (by omega) (by omega))) vl_X2_52 dX2_appliedPart_174 o_6 rfl rfl (Nat.le_of_ble_eq_true rfl) ⟨(Nat.le_of_ble_eq_true rfl), (Nat.le_of_ble_eq_true rfl)⟩ rfl rfl (Nat.le_of_ble_eq_true rfl) (Nat.le_of_ble_eq_true rfl) (fun r9 J_174 hq9 => ?_)
          obtain ⟨z_174, rfl, hz_174, p_9⟩ := hq9
          obtain ⟨m9, g9, h9⟩ := GR.made p_9 (by omega)
          have q9 := GR.tr q_150 g9
          exact tz_iret (pc := 177) (z := z_174) dX2_appliedPart_177 rfl (Nat.le_of_ble_eq_true rfl) (Nat.le_of_ble_eq_true rfl) ⟨Nat.le_refl _, Nat.le_add_right _ _⟩ ⟨_, rfl, (by omega), (by first | exact ⟨m9, q9, h9⟩ | exact ⟨m, GR.rf C hm, Or.inr (by omega)⟩)⟩
        · refine tz_iconst (pc := 130) dX2_appliedPart_130 ?_
          refine tz_goto (pc := 131) (tgt := 153) dX2_appliedPart_131 (by decide) ?_
          refine tz_istore (pc := 153) (L2 := [_, _, _, _, _, _, _, _, _]) dX2_appliedPart_153 (by decide) rfl ?_
          refine tz_aload_n (pc := 155) dX2_appliedPart_155 rfl rfl ?_
          refine tz_fR (pc := 156) dX2_appliedPart_156 fl_X2_28 r_141_0 ?_
          refine tz_aload_n (pc := 159) dX2_appliedPart_159 rfl rfl ?_
          refine tz_fR (pc := 160) dX2_appliedPart_160 fl_X2_28 r_141_0 ?_
          refine tz_fR (pc := 163) dX2_appliedPart_163 fl_X2_42 r_6_1 ?_
          refine tz_iload_n (pc := 166) dX2_appliedPart_166 rfl rfl ?_
          refine tz_aL (pc := 167) (z := t) (v := (J_119 7 t)) dX2_appliedPart_167 a_7 rfl (by omega) rfl (fun r_167 => ?_)
          refine tz_iload (pc := 168) dX2_appliedPart_168 rfl ?_
          refine tz_iload (pc := 170) dX2_appliedPart_170 rfl ?_
          refine tz_iload (pc := 172) dX2_appliedPart_172 rfl ?_
          refine tz_cV (pc := 174) (c_made hl n _ _ _ _ _ (by omega) (by omega) (by omega) (by omega) m_119 (q_119).2.1 (q_119).2.2.1 (by have := (q_119).2.1.ar (t := t) (by omega) (by have := (q_119).1; omega); omega) (ltA_of (by omega) (by omega) (by omega))) vl_X2_52 dX2_appliedPart_174 o_6 rfl rfl (Nat.le_of_ble_eq_true rfl) ⟨(Nat.le_of_ble_eq_true rfl), (Nat.le_of_ble_eq_true rfl)⟩ rfl rfl (Nat.le_of_ble_eq_true rfl) (Nat.le_of_ble_eq_true rfl) (fun r9 J_174 hq9 => ?_)
          obtain ⟨z_174, rfl, hz_174, p_9⟩ := hq9
          obtain ⟨m9, g9, h9⟩ := GR.made p_9 (by omega)
          have q9 := GR.tr q_119 g9
          exact tz_iret (pc := 177) (z := z_174) dX2_appliedPart_177 rfl (Nat.le_of_ble_eq_true rfl) (Nat.le_of_ble_eq_true rfl) ⟨Nat.le_refl _, Nat.le_add_right _ _⟩ ⟨_, rfl, (by omega), (by first | exact ⟨m9, q9, h9⟩ | exact ⟨m, GR.rf C hm, Or.inr (by omega)⟩)⟩
      · refine tz_iconst (pc := 99) dX2_appliedPart_99 ?_
        refine tz_goto (pc := 100) (tgt := 122) dX2_appliedPart_100 (by decide) ?_
        refine tz_istore (pc := 122) (L2 := [_, _, _, _, _, _, _, _, _]) dX2_appliedPart_122 (by decide) rfl ?_
        refine tz_iload (pc := 124) dX2_appliedPart_124 rfl ?_
        refine tz_iconst (pc := 126) dX2_appliedPart_126 ?_
        refine tz_icmp_ge (pc := 127) (tgt := 134) dX2_appliedPart_127 (by decide) (by omega) (by decide) (fun h_127 => ?_) (fun h_127 => ?_)
        · refine tz_aload_n (pc := 134) dX2_appliedPart_134 rfl rfl ?_
          refine tz_aload_n (pc := 135) dX2_appliedPart_135 rfl rfl ?_
          refine tz_fR (pc := 136) dX2_appliedPart_136 fl_X2_28 r_141_0 ?_
          refine tz_iload_n (pc := 139) dX2_appliedPart_139 rfl rfl ?_
          refine tz_iconst (pc := 140) dX2_appliedPart_140 ?_
          refine tz_cV (pc := 141) (c_arg hl n _ _ _ (by omega) (by decide) (by omega)) vl_X2_48 dX2_appliedPart_141 o_6 rfl rfl (Nat.le_of_ble_eq_true rfl) ⟨(Nat.le_of_ble_eq_true rfl), (Nat.le_of_ble_eq_true rfl)⟩ rfl rfl (Nat.le_of_ble_eq_true rfl) (Nat.le_of_ble_eq_true rfl) (fun r9 J_141 hq9 => ?_)
          obtain ⟨z_141, rfl, hz_141, rfl, rfl⟩ := hq9
          refine tz_aload_n (pc := 144) dX2_appliedPart_144 rfl rfl ?_
          refine tz_iload_n (pc := 145) dX2_appliedPart_145 rfl rfl ?_
          refine tz_iload (pc := 146) dX2_appliedPart_146 rfl ?_
          refine tz_iconst (pc := 148) dX2_appliedPart_148 ?_
          refine tz_iadd (pc := 149) (v := 3) dX2_appliedPart_149 (by decide) ?_
          have b_150 := GR.arg q_88 C ht (i := 2) (by omega)
          have c_150 := (q_88).1
          refine tz_cV (pc := 150) (c_app140_3 hl n _ _ (by omega) m_88 (q_88).2.1 (q_88).2.2.1 (by omega) (GR.row q_88 rfl hr)) vl_X2_32 dX2_appliedPart_150 o_141 rfl rfl (Nat.le_of_ble_eq_true rfl) ⟨(Nat.le_of_ble_eq_true rfl), (Nat.le_of_ble_eq_true rfl)⟩ rfl rfl (Nat.le_of_ble_eq_true rfl) (Nat.le_of_ble_eq_true rfl) (fun r9 J_150 hq9 => ?_)
          obtain ⟨z_150, rfl, hz_150, m_150, g_150, hz_150⟩ := hq9
          have q_150 := GR.tr q_88 g_150
          have d_150 := q_150.1
          have e_150 := g_150.1
          refine tz_istore (pc := 153) (L2 := [_, _, _, _, _, _, _, _, _]) dX2_appliedPart_153 (by decide) rfl ?_
          refine tz_aload_n (pc := 155) dX2_appliedPart_155 rfl rfl ?_
          refine tz_fR (pc := 156) dX2_appliedPart_156 fl_X2_28 r_141_0 ?_
          refine tz_aload_n (pc := 159) dX2_appliedPart_159 rfl rfl ?_
          refine tz_fR (pc := 160) dX2_appliedPart_160 fl_X2_28 r_141_0 ?_
          refine tz_fR (pc := 163) dX2_appliedPart_163 fl_X2_42 r_6_1 ?_
          refine tz_iload_n (pc := 166) dX2_appliedPart_166 rfl rfl ?_
          refine tz_aL (pc := 167) (z := t) (v := (J_150 7 t)) dX2_appliedPart_167 a_7 rfl (by omega) rfl (fun r_167 => ?_)
          refine tz_iload (pc := 168) dX2_appliedPart_168 rfl ?_
          refine tz_iload (pc := 170) dX2_appliedPart_170 rfl ?_
          refine tz_iload (pc := 172) dX2_appliedPart_172 rfl ?_
          refine tz_cV (pc := 174) (c_made hl n _ _ _ _ _ (by omega) (by omega) (by omega) (by omega) m_150 (q_150).2.1 (q_150).2.2.1 (by have := (q_150).2.1.ar (t := t) (by omega) (by have := (q_150).1; omega); omega) (ltA_of (by omega) (by omega) (by omega))) vl_X2_52 dX2_appliedPart_174 o_6 rfl rfl (Nat.le_of_ble_eq_true rfl) ⟨(Nat.le_of_ble_eq_true rfl), (Nat.le_of_ble_eq_true rfl)⟩ rfl rfl (Nat.le_of_ble_eq_true rfl) (Nat.le_of_ble_eq_true rfl) (fun r9 J_174 hq9 => ?_)
          obtain ⟨z_174, rfl, hz_174, p_9⟩ := hq9
          obtain ⟨m9, g9, h9⟩ := GR.made p_9 (by omega)
          have q9 := GR.tr q_150 g9
          exact tz_iret (pc := 177) (z := z_174) dX2_appliedPart_177 rfl (Nat.le_of_ble_eq_true rfl) (Nat.le_of_ble_eq_true rfl) ⟨Nat.le_refl _, Nat.le_add_right _ _⟩ ⟨_, rfl, (by omega), (by first | exact ⟨m9, q9, h9⟩ | exact ⟨m, GR.rf C hm, Or.inr (by omega)⟩)⟩
        · refine tz_iconst (pc := 130) dX2_appliedPart_130 ?_
          refine tz_goto (pc := 131) (tgt := 153) dX2_appliedPart_131 (by decide) ?_
          refine tz_istore (pc := 153) (L2 := [_, _, _, _, _, _, _, _, _]) dX2_appliedPart_153 (by decide) rfl ?_
          refine tz_aload_n (pc := 155) dX2_appliedPart_155 rfl rfl ?_
          refine tz_fR (pc := 156) dX2_appliedPart_156 fl_X2_28 r_141_0 ?_
          refine tz_aload_n (pc := 159) dX2_appliedPart_159 rfl rfl ?_
          refine tz_fR (pc := 160) dX2_appliedPart_160 fl_X2_28 r_141_0 ?_
          refine tz_fR (pc := 163) dX2_appliedPart_163 fl_X2_42 r_6_1 ?_
          refine tz_iload_n (pc := 166) dX2_appliedPart_166 rfl rfl ?_
          refine tz_aL (pc := 167) (z := t) (v := (J_88 7 t)) dX2_appliedPart_167 a_7 rfl (by omega) rfl (fun r_167 => ?_)
          refine tz_iload (pc := 168) dX2_appliedPart_168 rfl ?_
          refine tz_iload (pc := 170) dX2_appliedPart_170 rfl ?_
          refine tz_iload (pc := 172) dX2_appliedPart_172 rfl ?_
          refine tz_cV (pc := 174) (c_made hl n _ _ _ _ _ (by omega) (by omega) (by omega) (by omega) m_88 (q_88).2.1 (q_88).2.2.1 (by have := (q_88).2.1.ar (t := t) (by omega) (by have := (q_88).1; omega); omega) (ltA_of (by omega) (by omega) (by omega))) vl_X2_52 dX2_appliedPart_174 o_6 rfl rfl (Nat.le_of_ble_eq_true rfl) ⟨(Nat.le_of_ble_eq_true rfl), (Nat.le_of_ble_eq_true rfl)⟩ rfl rfl (Nat.le_of_ble_eq_true rfl) (Nat.le_of_ble_eq_true rfl) (fun r9 J_174 hq9 => ?_)
          obtain ⟨z_174, rfl, hz_174, p_9⟩ := hq9
          obtain ⟨m9, g9, h9⟩ := GR.made p_9 (by omega)
          have q9 := GR.tr q_88 g9
          exact tz_iret (pc := 177) (z := z_174) dX2_appliedPart_177 rfl (Nat.le_of_ble_eq_true rfl) (Nat.le_of_ble_eq_true rfl) ⟨Nat.le_refl _, Nat.le_add_right _ _⟩ ⟨_, rfl, (by omega), (by first | exact ⟨m9, q9, h9⟩ | exact ⟨m, GR.rf C hm, Or.inr (by omega)⟩)⟩
    · refine tz_iconst (pc := 68) dX2_appliedPart_68 ?_
      refine tz_goto (pc := 69) (tgt := 91) dX2_appliedPart_69 (by decide) ?_
      refine tz_istore (pc := 91) (L2 := [_, _, _, _, _, _, _, _, _]) dX2_appliedPart_91 (by decide) rfl ?_
      refine tz_iload (pc := 93) dX2_appliedPart_93 rfl ?_
      refine tz_iconst (pc := 95) dX2_appliedPart_95 ?_
      refine tz_icmp_ge (pc := 96) (tgt := 103) dX2_appliedPart_96 (by decide) (by omega) (by decide) (fun h_96 => ?_) (fun h_96 => ?_)
      · refine tz_aload_n (pc := 103) dX2_appliedPart_103 rfl rfl ?_
        refine tz_aload_n (pc := 104) dX2_appliedPart_104 rfl rfl ?_
        refine tz_fR (pc := 105) dX2_appliedPart_105 fl_X2_28 r_141_0 ?_
        refine tz_iload_n (pc := 108) dX2_appliedPart_108 rfl rfl ?_
        refine tz_iconst (pc := 109) dX2_appliedPart_109 ?_
        refine tz_cV (pc := 110) (c_arg hl n _ _ _ (by omega) (by decide) (by omega)) vl_X2_48 dX2_appliedPart_110 o_6 rfl rfl (Nat.le_of_ble_eq_true rfl) ⟨(Nat.le_of_ble_eq_true rfl), (Nat.le_of_ble_eq_true rfl)⟩ rfl rfl (Nat.le_of_ble_eq_true rfl) (Nat.le_of_ble_eq_true rfl) (fun r9 J_110 hq9 => ?_)
        obtain ⟨z_110, rfl, hz_110, rfl, rfl⟩ := hq9
        refine tz_aload_n (pc := 113) dX2_appliedPart_113 rfl rfl ?_
        refine tz_iload_n (pc := 114) dX2_appliedPart_114 rfl rfl ?_
        refine tz_iload (pc := 115) dX2_appliedPart_115 rfl ?_
        refine tz_iconst (pc := 117) dX2_appliedPart_117 ?_
        refine tz_iadd (pc := 118) (v := 3) dX2_appliedPart_118 (by decide) ?_
        have b_119 := GR.arg (GR.rf C hm) C ht (i := 1) (by omega)
        have c_119 := ((GR.rf C hm)).1
        refine tz_cV (pc := 119) (c_app140_3 hl n _ _ (by omega) m ((GR.rf C hm)).2.1 ((GR.rf C hm)).2.2.1 (by omega) (GR.row (GR.rf C hm) rfl hr)) vl_X2_32 dX2_appliedPart_119 o_141 rfl rfl (Nat.le_of_ble_eq_true rfl) ⟨(Nat.le_of_ble_eq_true rfl), (Nat.le_of_ble_eq_true rfl)⟩ rfl rfl (Nat.le_of_ble_eq_true rfl) (Nat.le_of_ble_eq_true rfl) (fun r9 J_119 hq9 => ?_)
        obtain ⟨z_119, rfl, hz_119, m_119, g_119, hz_119⟩ := hq9
        have q_119 := GR.tr (GR.rf C hm) g_119
        have d_119 := q_119.1
        have e_119 := g_119.1
        refine tz_istore (pc := 122) (L2 := [_, _, _, _, _, _, _, _, _]) dX2_appliedPart_122 (by decide) rfl ?_
        refine tz_iload (pc := 124) dX2_appliedPart_124 rfl ?_
        refine tz_iconst (pc := 126) dX2_appliedPart_126 ?_
        refine tz_icmp_ge (pc := 127) (tgt := 134) dX2_appliedPart_127 (by decide) (by omega) (by decide) (fun h_127 => ?_) (fun h_127 => ?_)
        · refine tz_aload_n (pc := 134) dX2_appliedPart_134 rfl rfl ?_
          refine tz_aload_n (pc := 135) dX2_appliedPart_135 rfl rfl ?_
          refine tz_fR (pc := 136) dX2_appliedPart_136 fl_X2_28 r_141_0 ?_
          refine tz_iload_n (pc := 139) dX2_appliedPart_139 rfl rfl ?_
          refine tz_iconst (pc := 140) dX2_appliedPart_140 ?_
          refine tz_cV (pc := 141) (c_arg hl n _ _ _ (by omega) (by decide) (by omega)) vl_X2_48 dX2_appliedPart_141 o_6 rfl rfl (Nat.le_of_ble_eq_true rfl) ⟨(Nat.le_of_ble_eq_true rfl), (Nat.le_of_ble_eq_true rfl)⟩ rfl rfl (Nat.le_of_ble_eq_true rfl) (Nat.le_of_ble_eq_true rfl) (fun r9 J_141 hq9 => ?_)
          obtain ⟨z_141, rfl, hz_141, rfl, rfl⟩ := hq9
          refine tz_aload_n (pc := 144) dX2_appliedPart_144 rfl rfl ?_
          refine tz_iload_n (pc := 145) dX2_appliedPart_145 rfl rfl ?_
          refine tz_iload (pc := 146) dX2_appliedPart_146 rfl ?_
          refine tz_iconst (pc := 148) dX2_appliedPart_148 ?_
          refine tz_iadd (pc := 149) (v := 3) dX2_appliedPart_149 (by decide) ?_
          have b_150 := GR.arg q_119 C ht (i := 2) (by omega)
          have c_150 := (q_119).1
          refine tz_cV (pc := 150) (c_app140_3 hl n _ _ (by omega) m_119 (q_119).2.1 (q_119).2.2.1 (by omega) (GR.row q_119 rfl hr)) vl_X2_32 dX2_appliedPart_150 o_141 rfl rfl (Nat.le_of_ble_eq_true rfl) ⟨(Nat.le_of_ble_eq_true rfl), (Nat.le_of_ble_eq_true rfl)⟩ rfl rfl (Nat.le_of_ble_eq_true rfl) (Nat.le_of_ble_eq_true rfl) (fun r9 J_150 hq9 => ?_)
          obtain ⟨z_150, rfl, hz_150, m_150, g_150, hz_150⟩ := hq9
          have q_150 := GR.tr q_119 g_150
          have d_150 := q_150.1
          have e_150 := g_150.1
          refine tz_istore (pc := 153) (L2 := [_, _, _, _, _, _, _, _, _]) dX2_appliedPart_153 (by decide) rfl ?_
          refine tz_aload_n (pc := 155) dX2_appliedPart_155 rfl rfl ?_
          refine tz_fR (pc := 156) dX2_appliedPart_156 fl_X2_28 r_141_0 ?_
          refine tz_aload_n (pc := 159) dX2_appliedPart_159 rfl rfl ?_
          refine tz_fR (pc := 160) dX2_appliedPart_160 fl_X2_28 r_141_0 ?_
          refine tz_fR (pc := 163) dX2_appliedPart_163 fl_X2_42 r_6_1 ?_
          refine tz_iload_n (pc := 166) dX2_appliedPart_166 rfl rfl ?_
          refine tz_aL (pc := 167) (z := t) (v := (J_150 7 t)) dX2_appliedPart_167 a_7 rfl (by omega) rfl (fun r_167 => ?_)
          refine tz_iload (pc := 168) dX2_appliedPart_168 rfl ?_
          refine tz_iload (pc := 170) dX2_appliedPart_170 rfl ?_
          refine tz_iload (pc := 172) dX2_appliedPart_172 rfl ?_
          refine tz_cV (pc := 174) (c_made hl n _ _ _ _ _ (by omega) (by omega) (by omega) (by omega) m_150 (q_150).2.1 (q_150).2.2.1 (by have := (q_150).2.1.ar (t := t) (by omega) (by have := (q_150).1; omega); omega) (ltA_of (by omega) (by omega) (by omega))) vl_X2_52 dX2_appliedPart_174 o_6 rfl rfl (Nat.le_of_ble_eq_true rfl) ⟨(Nat.le_of_ble_eq_true rfl), (Nat.le_of_ble_eq_true rfl)⟩ rfl rfl (Nat.le_of_ble_eq_true rfl) (Nat.le_of_ble_eq_true rfl) (fun r9 J_174 hq9 => ?_)
          obtain ⟨z_174, rfl, hz_174, p_9⟩ := hq9
          obtain ⟨m9, g9, h9⟩ := GR.made p_9 (by omega)
          have q9 := GR.tr q_150 g9
          exact tz_iret (pc := 177) (z := z_174) dX2_appliedPart_177 rfl (Nat.le_of_ble_eq_true rfl) (Nat.le_of_ble_eq_true rfl) ⟨Nat.le_refl _, Nat.le_add_right _ _⟩ ⟨_, rfl, (by omega), (by first | exact ⟨m9, q9, h9⟩ | exact ⟨m, GR.rf C hm, Or.inr (by omega)⟩)⟩
        · refine tz_iconst (pc := 130) dX2_appliedPart_130 ?_
          refine tz_goto (pc := 131) (tgt := 153) dX2_appliedPart_131 (by decide) ?_
          refine tz_istore (pc := 153) (L2 := [_, _, _, _, _, _, _, _, _]) dX2_appliedPart_153 (by decide) rfl ?_
          refine tz_aload_n (pc := 155) dX2_appliedPart_155 rfl rfl ?_
          refine tz_fR (pc := 156) dX2_appliedPart_156 fl_X2_28 r_141_0 ?_
          refine tz_aload_n (pc := 159) dX2_appliedPart_159 rfl rfl ?_
          refine tz_fR (pc := 160) dX2_appliedPart_160 fl_X2_28 r_141_0 ?_
          refine tz_fR (pc := 163) dX2_appliedPart_163 fl_X2_42 r_6_1 ?_
          refine tz_iload_n (pc := 166) dX2_appliedPart_166 rfl rfl ?_
          refine tz_aL (pc := 167) (z := t) (v := (J_119 7 t)) dX2_appliedPart_167 a_7 rfl (by omega) rfl (fun r_167 => ?_)
          refine tz_iload (pc := 168) dX2_appliedPart_168 rfl ?_
          refine tz_iload (pc := 170) dX2_appliedPart_170 rfl ?_
          refine tz_iload (pc := 172) dX2_appliedPart_172 rfl ?_
          refine tz_cV (pc := 174) (c_made hl n _ _ _ _ _ (by omega) (by omega) (by omega) (by omega) m_119 (q_119).2.1 (q_119).2.2.1 (by have := (q_119).2.1.ar (t := t) (by omega) (by have := (q_119).1; omega); omega) (ltA_of (by omega) (by omega) (by omega))) vl_X2_52 dX2_appliedPart_174 o_6 rfl rfl (Nat.le_of_ble_eq_true rfl) ⟨(Nat.le_of_ble_eq_true rfl), (Nat.le_of_ble_eq_true rfl)⟩ rfl rfl (Nat.le_of_ble_eq_true rfl) (Nat.le_of_ble_eq_true rfl) (fun r9 J_174 hq9 => ?_)
          obtain ⟨z_174, rfl, hz_174, p_9⟩ := hq9
          obtain ⟨m9, g9, h9⟩ := GR.made p_9 (by omega)
          have q9 := GR.tr q_119 g9
          exact tz_iret (pc := 177) (z := z_174) dX2_appliedPart_177 rfl (Nat.le_of_ble_eq_true rfl) (Nat.le_of_ble_eq_true rfl) ⟨Nat.le_refl _, Nat.le_add_right _ _⟩ ⟨_, rfl, (by omega), (by first | exact ⟨m9, q9, h9⟩ | exact ⟨m, GR.rf C hm, Or.inr (by omega)⟩)⟩
      · refine tz_iconst (pc := 99) dX2_appliedPart_99 ?_
        refine tz_goto (pc := 100) (tgt := 122) dX2_appliedPart_100 (by decide) ?_
        refine tz_istore (pc := 122) (L2 := [_, _, _, _, _, _, _, _, _]) dX2_appliedPart_122 (by decide) rfl ?_
        refine tz_iload (pc := 124) dX2_appliedPart_124 rfl ?_
        refine tz_iconst (pc := 126) dX2_appliedPart_126 ?_
        refine tz_icmp_ge (pc := 127) (tgt := 134) dX2_appliedPart_127 (by decide) (by omega) (by decide) (fun h_127 => ?_) (fun h_127 => ?_)
        · refine tz_aload_n (pc := 134) dX2_appliedPart_134 rfl rfl ?_
          refine tz_aload_n (pc := 135) dX2_appliedPart_135 rfl rfl ?_
          refine tz_fR (pc := 136) dX2_appliedPart_136 fl_X2_28 r_141_0 ?_
          refine tz_iload_n (pc := 139) dX2_appliedPart_139 rfl rfl ?_
          refine tz_iconst (pc := 140) dX2_appliedPart_140 ?_
          refine tz_cV (pc := 141) (c_arg hl n _ _ _ (by omega) (by decide) (by omega)) vl_X2_48 dX2_appliedPart_141 o_6 rfl rfl (Nat.le_of_ble_eq_true rfl) ⟨(Nat.le_of_ble_eq_true rfl), (Nat.le_of_ble_eq_true rfl)⟩ rfl rfl (Nat.le_of_ble_eq_true rfl) (Nat.le_of_ble_eq_true rfl) (fun r9 J_141 hq9 => ?_)
          obtain ⟨z_141, rfl, hz_141, rfl, rfl⟩ := hq9
          refine tz_aload_n (pc := 144) dX2_appliedPart_144 rfl rfl ?_
          refine tz_iload_n (pc := 145) dX2_appliedPart_145 rfl rfl ?_
          refine tz_iload (pc := 146) dX2_appliedPart_146 rfl ?_
          refine tz_iconst (pc := 148) dX2_appliedPart_148 ?_
          refine tz_iadd (pc := 149) (v := 3) dX2_appliedPart_149 (by decide) ?_
          have b_150 := GR.arg (GR.rf C hm) C ht (i := 2) (by omega)
          have c_150 := ((GR.rf C hm)).1
          refine tz_cV (pc := 150) (c_app140_3 hl n _ _ (by omega) m ((GR.rf C hm)).2.1 ((GR.rf C hm)).2.2.1 (by omega) (GR.row (GR.rf C hm) rfl hr)) vl_X2_32 dX2_appliedPart_150 o_141 rfl rfl (Nat.le_of_ble_eq_true rfl) ⟨(Nat.le_of_ble_eq_true rfl), (Nat.le_of_ble_eq_true rfl)⟩ rfl rfl (Nat.le_of_ble_eq_true rfl) (Nat.le_of_ble_eq_true rfl) (fun r9 J_150 hq9 => ?_)
          obtain ⟨z_150, rfl, hz_150, m_150, g_150, hz_150⟩ := hq9
          have q_150 := GR.tr (GR.rf C hm) g_150
          have d_150 := q_150.1
          have e_150 := g_150.1
          refine tz_istore (pc := 153) (L2 := [_, _, _, _, _, _, _, _, _]) dX2_appliedPart_153 (by decide) rfl ?_
          refine tz_aload_n (pc := 155) dX2_appliedPart_155 rfl rfl ?_
          refine tz_fR (pc := 156) dX2_appliedPart_156 fl_X2_28 r_141_0 ?_
          refine tz_aload_n (pc := 159) dX2_appliedPart_159 rfl rfl ?_
          refine tz_fR (pc := 160) dX2_appliedPart_160 fl_X2_28 r_141_0 ?_
          refine tz_fR (pc := 163) dX2_appliedPart_163 fl_X2_42 r_6_1 ?_
          refine tz_iload_n (pc := 166) dX2_appliedPart_166 rfl rfl ?_
          refine tz_aL (pc := 167) (z := t) (v := (J_150 7 t)) dX2_appliedPart_167 a_7 rfl (by omega) rfl (fun r_167 => ?_)
          refine tz_iload (pc := 168) dX2_appliedPart_168 rfl ?_
          refine tz_iload (pc := 170) dX2_appliedPart_170 rfl ?_
          refine tz_iload (pc := 172) dX2_appliedPart_172 rfl ?_
          refine tz_cV (pc := 174) (c_made hl n _ _ _ _ _ (by omega) (by omega) (by omega) (by omega) m_150 (q_150).2.1 (q_150).2.2.1 (by have := (q_150).2.1.ar (t := t) (by omega) (by have := (q_150).1; omega); omega) (ltA_of (by omega) (by omega) (by omega))) vl_X2_52 dX2_appliedPart_174 o_6 rfl rfl (Nat.le_of_ble_eq_true rfl) ⟨(Nat.le_of_ble_eq_true rfl), (Nat.le_of_ble_eq_true rfl)⟩ rfl rfl (Nat.le_of_ble_eq_true rfl) (Nat.le_of_ble_eq_true rfl) (fun r9 J_174 hq9 => ?_)
          obtain ⟨z_174, rfl, hz_174, p_9⟩ := hq9
          obtain ⟨m9, g9, h9⟩ := GR.made p_9 (by omega)
          have q9 := GR.tr q_150 g9
          exact tz_iret (pc := 177) (z := z_174) dX2_appliedPart_177 rfl (Nat.le_of_ble_eq_true rfl) (Nat.le_of_ble_eq_true rfl) ⟨Nat.le_refl _, Nat.le_add_right _ _⟩ ⟨_, rfl, (by omega), (by first | exact ⟨m9, q9, h9⟩ | exact ⟨m, GR.rf C hm, Or.inr (by omega)⟩)⟩
        · refine tz_iconst (pc := 130) dX2_appliedPart_130 ?_
          refine tz_goto (pc := 131) (tgt := 153) dX2_appliedPart_131 (by decide) ?_
          refine tz_istore (pc := 153) (L2 := [_, _, _, _, _, _, _, _, _]) dX2_appliedPart_153 (by decide) rfl ?_
          refine tz_aload_n (pc := 155) dX2_appliedPart_155 rfl rfl ?_
          refine tz_fR (pc := 156) dX2_appliedPart_156 fl_X2_28 r_141_0 ?_
          refine tz_aload_n (pc := 159) dX2_appliedPart_159 rfl rfl ?_
          refine tz_fR (pc := 160) dX2_appliedPart_160 fl_X2_28 r_141_0 ?_
          refine tz_fR (pc := 163) dX2_appliedPart_163 fl_X2_42 r_6_1 ?_
          refine tz_iload_n (pc := 166) dX2_appliedPart_166 rfl rfl ?_
          refine tz_aL (pc := 167) (z := t) (v := (J 7 t)) dX2_appliedPart_167 a_7 rfl (by omega) rfl (fun r_167 => ?_)
          refine tz_iload (pc := 168) dX2_appliedPart_168 rfl ?_
          refine tz_iload (pc := 170) dX2_appliedPart_170 rfl ?_
          refine tz_iload (pc := 172) dX2_appliedPart_172 rfl ?_
          refine tz_cV (pc := 174) (c_made hl n _ _ _ _ _ (by omega) (by omega) (by omega) (by omega) m ((GR.rf C hm)).2.1 ((GR.rf C hm)).2.2.1 (by have := ((GR.rf C hm)).2.1.ar (t := t) (by omega) (by have := ((GR.rf C hm)).1; omega); omega) (ltA_of (by omega) (by omega) (by omega))) vl_X2_52 dX2_appliedPart_174 o_6 rfl rfl (Nat.le_of_ble_eq_true rfl) ⟨(Nat.le_of_ble_eq_true rfl), (Nat.le_of_ble_eq_true rfl)⟩ rfl rfl (Nat.le_of_ble_eq_true rfl) (Nat.le_of_ble_eq_true rfl) (fun r9 J_174 hq9 => ?_)
          obtain ⟨z_174, rfl, hz_174, p_9⟩ := hq9
          obtain ⟨m9, g9, h9⟩ := GR.made p_9 (by omega)
          have q9 := GR.tr (GR.rf C hm) g9
          exact tz_iret (pc := 177) (z := z_174) dX2_appliedPart_177 rfl (Nat.le_of_ble_eq_true rfl) (Nat.le_of_ble_eq_true rfl) ⟨Nat.le_refl _, Nat.le_add_right _ _⟩ ⟨_, rfl, (by omega), (by first | exact ⟨m9, q9, h9⟩ | exact ⟨m, GR.rf C hm, Or.inr (by omega)⟩)⟩

set_option maxHeartbeats 4000000 in
set_option maxRecDepth 100000 in
theorem c_app140_1 {l : Launch} {G : tb_G} (hl : l.stackTraces = false) (n : Nat) (J : zJ) (t : Int) (hr_t : -2147483648 ≤ t ∧ t < 2147483648) (m : Int) (C : CT J m) (hm : J 6 12 = m) (ht : 0 ≤ t ∧ t < m) (hr : rOK J 140 0 m) : tz_Ok l G M_X2_appliedPart 8 0 0 [.ref 141, zi t, .ref 140, zi 0, zi 1] n J (zqi (fun z J' => ∃ m', GR J' J m m' ∧ (z = -3 ∨ (0 ≤ z ∧ z < m')))) zN := by
  refine tz_Ok.of hl (by decide +kernel) rfl (tb_c1 rfl) (Nat.le_of_ble_eq_true rfl) ?_
  show tz_At l G M_X2_appliedPart (tb_rm 8 0 0) none (tb_ZM G 0 0 (zQ n 0 (zqi (fun z J' => ∃ m', GR J' J m m' ∧ (z = -3 ∨ (0 ≤ z ∧ z < m'))))) (zX n 0 zN)) 0 0 n J 0 [some (.ref 141), some (zi t), some (.ref 140), some (zi 0), some (zi 1), none, none, none, none] []
  have hb := C.told
  have ha := C.ar ht.1 ht.2
  refine tz_iload (pc := 0) dX2_appliedPart_0 rfl ?_
  refine tz_bipush (pc := 2) dX2_appliedPart_2 (by decide) ?_
  refine tz_icmp_leT (pc := 4) (tgt := 10) (by decide) dX2_appliedPart_4 (by decide) (by decide) (by decide) ?_
  refine tz_aload_n (pc := 10) dX2_appliedPart_10 rfl rfl ?_
  refine tz_fR (pc := 11) dX2_appliedPart_11 fl_X2_28 r_141_0 ?_
  refine tz_iload_n (pc := 14) dX2_appliedPart_14 rfl rfl ?_
  refine tz_cV (pc := 15) (c_isVar hl n _ _ (by omega) (by omega)) vl_X2_36 dX2_appliedPart_15 o_6 rfl rfl (Nat.le_of_ble_eq_true rfl) ⟨(Nat.le_of_ble_eq_true rfl), (Nat.le_of_ble_eq_true rfl)⟩ rfl rfl (Nat.le_of_ble_eq_true rfl) (Nat.le_of_ble_eq_true rfl) (fun r9 J_15 hq9 => ?_)
  obtain ⟨z_15, rfl, hz_15, rfl, rfl⟩ := hq9
  by_cases hw_18 : J 7 t < 0
  · rw [show (if J 7 t < 0 then 1 else 0 : Int) = 1 from if_pos hw_18]
    refine tz_if_eqF (pc := 18) (tgt := 51) (by decide) dX2_appliedPart_18 (by decide) (by decide) ?_
    refine tz_aload_n (pc := 21) dX2_appliedPart_21 rfl rfl ?_
    refine tz_iload_n (pc := 22) dX2_appliedPart_22 rfl rfl ?_
    refine tz_aload_n (pc := 23) dX2_appliedPart_23 rfl rfl ?_
    refine tz_fR (pc := 24) dX2_appliedPart_24 fl_X2_28 r_141_0 ?_
    refine tz_fR (pc := 27) dX2_appliedPart_27 fl_X2_42 r_6_1 ?_
    refine tz_iload_n (pc := 30) dX2_appliedPart_30 rfl rfl ?_
    refine tz_aL (pc := 31) (z := t) (v := (J 7 t)) dX2_appliedPart_31 a_7 rfl (by omega) rfl (fun r_31 => ?_)
    refine tz_iconst (pc := 32) dX2_appliedPart_32 ?_
    refine tz_ixor (pc := 33) (v := zxor (J 7 t) (-1)) dX2_appliedPart_33 rfl ?_
    refine tz_iadd (pc := 34) (v := 0 + (zxor (J 7 t) (-1))) dX2_appliedPart_34 rfl ?_
    have hv := hr (zxor (J 7 t) (-1)) (by rw [z_nn (by omega)]; omega) (by rw [z_nn (by omega)]; omega)
    refine tz_aL (pc := 35) (z := (0 + (zxor (J 7 t) (-1)))) (v := (J 140 (0 + (zxor (J 7 t) (-1))))) dX2_appliedPart_35 a_140 rfl (by rw [z_nn (by omega)]; omega) rfl (fun r_35 => ?_)
    refine tz_istore (pc := 36) (L2 := [_, _, _, _, _, _, _, _, _]) dX2_appliedPart_36 (by decide) rfl ?_
    refine tz_iload (pc := 38) dX2_appliedPart_38 rfl ?_
    refine tz_iconst (pc := 40) dX2_appliedPart_40 ?_
    refine tz_icmp_ne (pc := 41) (tgt := 48) dX2_appliedPart_41 (by decide) (by omega) (by decide) (fun h_41 => ?_) (fun h_41 => ?_)
    · refine tz_iload (pc := 48) dX2_appliedPart_48 rfl ?_
      exact tz_iret (pc := 50) (z := (J 140 (0 + (zxor (J 7 t) (-1))))) dX2_appliedPart_50 rfl (Nat.le_of_ble_eq_true rfl) (Nat.le_of_ble_eq_true rfl) ⟨Nat.le_refl _, Nat.le_add_right _ _⟩ ⟨_, rfl, (by omega), (by first | exact ⟨m9, q9, h9⟩ | exact ⟨m, GR.rf C hm, Or.inr (by omega)⟩)⟩
    · refine tz_iload_n (pc := 44) dX2_appliedPart_44 rfl rfl ?_
      refine tz_goto (pc := 45) (tgt := 50) dX2_appliedPart_45 (by decide) ?_
      exact tz_iret (pc := 50) (z := t) dX2_appliedPart_50 rfl (Nat.le_of_ble_eq_true rfl) (Nat.le_of_ble_eq_true rfl) ⟨Nat.le_refl _, Nat.le_add_right _ _⟩ ⟨_, rfl, (by omega), (by first | exact ⟨m9, q9, h9⟩ | exact ⟨m, GR.rf C hm, Or.inr (by omega)⟩)⟩
  · rw [show (if J 7 t < 0 then 1 else 0 : Int) = 0 from if_neg hw_18]
    refine tz_if_eqT (pc := 18) (tgt := 51) (by decide) dX2_appliedPart_18 (by decide) (by decide) ?_
    refine tz_aload_n (pc := 51) dX2_appliedPart_51 rfl rfl ?_
    refine tz_fR (pc := 52) dX2_appliedPart_52 fl_X2_28 r_141_0 ?_
    refine tz_fR (pc := 55) dX2_appliedPart_55 fl_X2_45 r_6_2 ?_
    refine tz_iload_n (pc := 58) dX2_appliedPart_58 rfl rfl ?_
    refine tz_aL (pc := 59) (z := t) (v := (J 8 t)) dX2_appliedPart_59 a_8 rfl (by omega) rfl (fun r_59 => ?_)
    refine tz_istore (pc := 60) (L2 := [_, _, _, _, _, _, _, _, _]) dX2_appliedPart_60 (by decide) rfl ?_
    refine tz_iload (pc := 62) dX2_appliedPart_62 rfl ?_
    refine tz_iconst (pc := 64) dX2_appliedPart_64 ?_
    refine tz_icmp_ge (pc := 65) (tgt := 72) dX2_appliedPart_65 (by decide) (by omega) (by decide) (fun h_65 => ?_) (fun h_65 => ?_)
    · refine tz_aload_n (pc := 72) dX2_appliedPart_72 rfl rfl ?_
      refine tz_aload_n (pc := 73) dX2_appliedPart_73 rfl rfl ?_
      refine tz_fR (pc := 74) dX2_appliedPart_74 fl_X2_28 r_141_0 ?_
      refine tz_iload_n (pc := 77) dX2_appliedPart_77 rfl rfl ?_
      refine tz_iconst (pc := 78) dX2_appliedPart_78 ?_
      refine tz_cV (pc := 79) (c_arg hl n _ _ _ (by omega) (by decide) (by omega)) vl_X2_48 dX2_appliedPart_79 o_6 rfl rfl (Nat.le_of_ble_eq_true rfl) ⟨(Nat.le_of_ble_eq_true rfl), (Nat.le_of_ble_eq_true rfl)⟩ rfl rfl (Nat.le_of_ble_eq_true rfl) (Nat.le_of_ble_eq_true rfl) (fun r9 J_79 hq9 => ?_)
      obtain ⟨z_79, rfl, hz_79, rfl, rfl⟩ := hq9
      refine tz_aload_n (pc := 82) dX2_appliedPart_82 rfl rfl ?_
      refine tz_iload_n (pc := 83) dX2_appliedPart_83 rfl rfl ?_
      refine tz_iload (pc := 84) dX2_appliedPart_84 rfl ?_
      refine tz_iconst (pc := 86) dX2_appliedPart_86 ?_
      refine tz_iadd (pc := 87) (v := 2) dX2_appliedPart_87 (by decide) ?_
      have b_88 := GR.arg (GR.rf C hm) C ht (i := 0) (by omega)
      have c_88 := ((GR.rf C hm)).1
      refine tz_cV (pc := 88) (c_app140_2 hl n _ _ (by omega) m ((GR.rf C hm)).2.1 ((GR.rf C hm)).2.2.1 (by omega) (GR.row (GR.rf C hm) rfl hr)) vl_X2_32 dX2_appliedPart_88 o_141 rfl rfl (Nat.le_of_ble_eq_true rfl) ⟨(Nat.le_of_ble_eq_true rfl), (Nat.le_of_ble_eq_true rfl)⟩ rfl rfl (Nat.le_of_ble_eq_true rfl) (Nat.le_of_ble_eq_true rfl) (fun r9 J_88 hq9 => ?_)
      obtain ⟨z_88, rfl, hz_88, m_88, g_88, hz_88⟩ := hq9
      have q_88 := GR.tr (GR.rf C hm) g_88
      have d_88 := q_88.1
      have e_88 := g_88.1
      refine tz_istore (pc := 91) (L2 := [_, _, _, _, _, _, _, _, _]) dX2_appliedPart_91 (by decide) rfl ?_
      refine tz_iload (pc := 93) dX2_appliedPart_93 rfl ?_
      refine tz_iconst (pc := 95) dX2_appliedPart_95 ?_
      refine tz_icmp_ge (pc := 96) (tgt := 103) dX2_appliedPart_96 (by decide) (by omega) (by decide) (fun h_96 => ?_) (fun h_96 => ?_)
      · refine tz_aload_n (pc := 103) dX2_appliedPart_103 rfl rfl ?_
        refine tz_aload_n (pc := 104) dX2_appliedPart_104 rfl rfl ?_
        refine tz_fR (pc := 105) dX2_appliedPart_105 fl_X2_28 r_141_0 ?_
        refine tz_iload_n (pc := 108) dX2_appliedPart_108 rfl rfl ?_
        refine tz_iconst (pc := 109) dX2_appliedPart_109 ?_
        refine tz_cV (pc := 110) (c_arg hl n _ _ _ (by omega) (by decide) (by omega)) vl_X2_48 dX2_appliedPart_110 o_6 rfl rfl (Nat.le_of_ble_eq_true rfl) ⟨(Nat.le_of_ble_eq_true rfl), (Nat.le_of_ble_eq_true rfl)⟩ rfl rfl (Nat.le_of_ble_eq_true rfl) (Nat.le_of_ble_eq_true rfl) (fun r9 J_110 hq9 => ?_)
        obtain ⟨z_110, rfl, hz_110, rfl, rfl⟩ := hq9
        refine tz_aload_n (pc := 113) dX2_appliedPart_113 rfl rfl ?_
        refine tz_iload_n (pc := 114) dX2_appliedPart_114 rfl rfl ?_
        refine tz_iload (pc := 115) dX2_appliedPart_115 rfl ?_
        refine tz_iconst (pc := 117) dX2_appliedPart_117 ?_
        refine tz_iadd (pc := 118) (v := 2) dX2_appliedPart_118 (by decide) ?_
        have b_119 := GR.arg q_88 C ht (i := 1) (by omega)
        have c_119 := (q_88).1
        refine tz_cV (pc := 119) (c_app140_2 hl n _ _ (by omega) m_88 (q_88).2.1 (q_88).2.2.1 (by omega) (GR.row q_88 rfl hr)) vl_X2_32 dX2_appliedPart_119 o_141 rfl rfl (Nat.le_of_ble_eq_true rfl) ⟨(Nat.le_of_ble_eq_true rfl), (Nat.le_of_ble_eq_true rfl)⟩ rfl rfl (Nat.le_of_ble_eq_true rfl) (Nat.le_of_ble_eq_true rfl) (fun r9 J_119 hq9 => ?_)
        obtain ⟨z_119, rfl, hz_119, m_119, g_119, hz_119⟩ := hq9
        have q_119 := GR.tr q_88 g_119
        have d_119 := q_119.1
        have e_119 := g_119.1
        refine tz_istore (pc := 122) (L2 := [_, _, _, _, _, _, _, _, _]) dX2_appliedPart_122 (by decide) rfl ?_
        refine tz_iload (pc := 124) dX2_appliedPart_124 rfl ?_
        refine tz_iconst (pc := 126) dX2_appliedPart_126 ?_
        refine tz_icmp_ge (pc := 127) (tgt := 134) dX2_appliedPart_127 (by decide) (by omega) (by decide) (fun h_127 => ?_) (fun h_127 => ?_)
        · refine tz_aload_n (pc := 134) dX2_appliedPart_134 rfl rfl ?_
          refine tz_aload_n (pc := 135) dX2_appliedPart_135 rfl rfl ?_
          refine tz_fR (pc := 136) dX2_appliedPart_136 fl_X2_28 r_141_0 ?_
          refine tz_iload_n (pc := 139) dX2_appliedPart_139 rfl rfl ?_
          refine tz_iconst (pc := 140) dX2_appliedPart_140 ?_
          refine tz_cV (pc := 141) (c_arg hl n _ _ _ (by omega) (by decide) (by omega)) vl_X2_48 dX2_appliedPart_141 o_6 rfl rfl (Nat.le_of_ble_eq_true rfl) ⟨(Nat.le_of_ble_eq_true rfl), (Nat.le_of_ble_eq_true rfl)⟩ rfl rfl (Nat.le_of_ble_eq_true rfl) (Nat.le_of_ble_eq_true rfl) (fun r9 J_141 hq9 => ?_)
          obtain ⟨z_141, rfl, hz_141, rfl, rfl⟩ := hq9
          refine tz_aload_n (pc := 144) dX2_appliedPart_144 rfl rfl ?_
          refine tz_iload_n (pc := 145) dX2_appliedPart_145 rfl rfl ?_
          refine tz_iload (pc := 146) dX2_appliedPart_146 rfl ?_
          refine tz_iconst (pc := 148) dX2_appliedPart_148 ?_
          refine tz_iadd (pc := 149) (v := 2) dX2_appliedPart_149 (by decide) ?_
          have b_150 := GR.arg q_119 C ht (i := 2) (by omega)
          have c_150 := (q_119).1
          refine tz_cV (pc := 150) (c_app140_2 hl n _ _ (by omega) m_119 (q_119).2.1 (q_119).2.2.1 (by omega) (GR.row q_119 rfl hr)) vl_X2_32 dX2_appliedPart_150 o_141 rfl rfl (Nat.le_of_ble_eq_true rfl) ⟨(Nat.le_of_ble_eq_true rfl), (Nat.le_of_ble_eq_true rfl)⟩ rfl rfl (Nat.le_of_ble_eq_true rfl) (Nat.le_of_ble_eq_true rfl) (fun r9 J_150 hq9 => ?_)
          obtain ⟨z_150, rfl, hz_150, m_150, g_150, hz_150⟩ := hq9
          have q_150 := GR.tr q_119 g_150
          have d_150 := q_150.1
          have e_150 := g_150.1
          refine tz_istore (pc := 153) (L2 := [_, _, _, _, _, _, _, _, _]) dX2_appliedPart_153 (by decide) rfl ?_
          refine tz_aload_n (pc := 155) dX2_appliedPart_155 rfl rfl ?_
          refine tz_fR (pc := 156) dX2_appliedPart_156 fl_X2_28 r_141_0 ?_
          refine tz_aload_n (pc := 159) dX2_appliedPart_159 rfl rfl ?_
          refine tz_fR (pc := 160) dX2_appliedPart_160 fl_X2_28 r_141_0 ?_
          refine tz_fR (pc := 163) dX2_appliedPart_163 fl_X2_42 r_6_1 ?_
          refine tz_iload_n (pc := 166) dX2_appliedPart_166 rfl rfl ?_
          refine tz_aL (pc := 167) (z := t) (v := (J_150 7 t)) dX2_appliedPart_167 a_7 rfl (by omega) rfl (fun r_167 => ?_)
          refine tz_iload (pc := 168) dX2_appliedPart_168 rfl ?_
          refine tz_iload (pc := 170) dX2_appliedPart_170 rfl ?_
          refine tz_iload (pc := 172) dX2_appliedPart_172 rfl ?_
          refine tz_cV (pc := 174) (c_made hl n _ _ _ _ _ (by omega) (by omega) (by omega) (by omega) m_150 (q_150).2.1 (q_150).2.2.1 (by have := (q_150).2.1.ar (t := t) (by omega) (by have := (q_150).1; omega); omega) (ltA_of (by omega) (by omega) (by omega))) vl_X2_52 dX2_appliedPart_174 o_6 rfl rfl (Nat.le_of_ble_eq_true rfl) ⟨(Nat.le_of_ble_eq_true rfl), (Nat.le_of_ble_eq_true rfl)⟩ rfl rfl (Nat.le_of_ble_eq_true rfl) (Nat.le_of_ble_eq_true rfl) (fun r9 J_174 hq9 => ?_)
          obtain ⟨z_174, rfl, hz_174, p_9⟩ := hq9
          obtain ⟨m9, g9, h9⟩ := GR.made p_9 (by omega)
          have q9 := GR.tr q_150 g9
          exact tz_iret (pc := 177) (z := z_174) dX2_appliedPart_177 rfl (Nat.le_of_ble_eq_true rfl) (Nat.le_of_ble_eq_true rfl) ⟨Nat.le_refl _, Nat.le_add_right _ _⟩ ⟨_, rfl, (by omega), (by first | exact ⟨m9, q9, h9⟩ | exact ⟨m, GR.rf C hm, Or.inr (by omega)⟩)⟩
        · refine tz_iconst (pc := 130) dX2_appliedPart_130 ?_
          refine tz_goto (pc := 131) (tgt := 153) dX2_appliedPart_131 (by decide) ?_
          refine tz_istore (pc := 153) (L2 := [_, _, _, _, _, _, _, _, _]) dX2_appliedPart_153 (by decide) rfl ?_
          refine tz_aload_n (pc := 155) dX2_appliedPart_155 rfl rfl ?_
          refine tz_fR (pc := 156) dX2_appliedPart_156 fl_X2_28 r_141_0 ?_
          refine tz_aload_n (pc := 159) dX2_appliedPart_159 rfl rfl ?_
          refine tz_fR (pc := 160) dX2_appliedPart_160 fl_X2_28 r_141_0 ?_
          refine tz_fR (pc := 163) dX2_appliedPart_163 fl_X2_42 r_6_1 ?_
          refine tz_iload_n (pc := 166) dX2_appliedPart_166 rfl rfl ?_
          refine tz_aL (pc := 167) (z := t) (v := (J_119 7 t)) dX2_appliedPart_167 a_7 rfl (by omega) rfl (fun r_167 => ?_)
          refine tz_iload (pc := 168) dX2_appliedPart_168 rfl ?_
          refine tz_iload (pc := 170) dX2_appliedPart_170 rfl ?_
          refine tz_iload (pc := 172) dX2_appliedPart_172 rfl ?_
          refine tz_cV (pc := 174) (c_made hl n _ _ _ _ _ (by omega) (by omega) (by omega) (by omega) m_119 (q_119).2.1 (q_119).2.2.1 (by have := (q_119).2.1.ar (t := t) (by omega) (by have := (q_119).1; omega); omega) (ltA_of (by omega) (by omega) (by omega))) vl_X2_52 dX2_appliedPart_174 o_6 rfl rfl (Nat.le_of_ble_eq_true rfl) ⟨(Nat.le_of_ble_eq_true rfl), (Nat.le_of_ble_eq_true rfl)⟩ rfl rfl (Nat.le_of_ble_eq_true rfl) (Nat.le_of_ble_eq_true rfl) (fun r9 J_174 hq9 => ?_)
          obtain ⟨z_174, rfl, hz_174, p_9⟩ := hq9
          obtain ⟨m9, g9, h9⟩ := GR.made p_9 (by omega)
          have q9 := GR.tr q_119 g9
          exact tz_iret (pc := 177) (z := z_174) dX2_appliedPart_177 rfl (Nat.le_of_ble_eq_true rfl) (Nat.le_of_ble_eq_true rfl) ⟨Nat.le_refl _, Nat.le_add_right _ _⟩ ⟨_, rfl, (by omega), (by first | exact ⟨m9, q9, h9⟩ | exact ⟨m, GR.rf C hm, Or.inr (by omega)⟩)⟩
      · refine tz_iconst (pc := 99) dX2_appliedPart_99 ?_
        refine tz_goto (pc := 100) (tgt := 122) dX2_appliedPart_100 (by decide) ?_
        refine tz_istore (pc := 122) (L2 := [_, _, _, _, _, _, _, _, _]) dX2_appliedPart_122 (by decide) rfl ?_
        refine tz_iload (pc := 124) dX2_appliedPart_124 rfl ?_
        refine tz_iconst (pc := 126) dX2_appliedPart_126 ?_
        refine tz_icmp_ge (pc := 127) (tgt := 134) dX2_appliedPart_127 (by decide) (by omega) (by decide) (fun h_127 => ?_) (fun h_127 => ?_)
        · refine tz_aload_n (pc := 134) dX2_appliedPart_134 rfl rfl ?_
          refine tz_aload_n (pc := 135) dX2_appliedPart_135 rfl rfl ?_
          refine tz_fR (pc := 136) dX2_appliedPart_136 fl_X2_28 r_141_0 ?_
          refine tz_iload_n (pc := 139) dX2_appliedPart_139 rfl rfl ?_
          refine tz_iconst (pc := 140) dX2_appliedPart_140 ?_
          refine tz_cV (pc := 141) (c_arg hl n _ _ _ (by omega) (by decide) (by omega)) vl_X2_48 dX2_appliedPart_141 o_6 rfl rfl (Nat.le_of_ble_eq_true rfl) ⟨(Nat.le_of_ble_eq_true rfl), (Nat.le_of_ble_eq_true rfl)⟩ rfl rfl (Nat.le_of_ble_eq_true rfl) (Nat.le_of_ble_eq_true rfl) (fun r9 J_141 hq9 => ?_)
          obtain ⟨z_141, rfl, hz_141, rfl, rfl⟩ := hq9
          refine tz_aload_n (pc := 144) dX2_appliedPart_144 rfl rfl ?_
          refine tz_iload_n (pc := 145) dX2_appliedPart_145 rfl rfl ?_
          refine tz_iload (pc := 146) dX2_appliedPart_146 rfl ?_
          refine tz_iconst (pc := 148) dX2_appliedPart_148 ?_
          refine tz_iadd (pc := 149) (v := 2) dX2_appliedPart_149 (by decide) ?_
          have b_150 := GR.arg q_88 C ht (i := 2) (by omega)
          have c_150 := (q_88).1
          refine tz_cV (pc := 150) (c_app140_2 hl n _ _ (by omega) m_88 (q_88).2.1 (q_88).2.2.1 (by omega) (GR.row q_88 rfl hr)) vl_X2_32 dX2_appliedPart_150 o_141 rfl rfl (Nat.le_of_ble_eq_true rfl) ⟨(Nat.le_of_ble_eq_true rfl), (Nat.le_of_ble_eq_true rfl)⟩ rfl rfl (Nat.le_of_ble_eq_true rfl) (Nat.le_of_ble_eq_true rfl) (fun r9 J_150 hq9 => ?_)
          obtain ⟨z_150, rfl, hz_150, m_150, g_150, hz_150⟩ := hq9
          have q_150 := GR.tr q_88 g_150
          have d_150 := q_150.1
          have e_150 := g_150.1
          refine tz_istore (pc := 153) (L2 := [_, _, _, _, _, _, _, _, _]) dX2_appliedPart_153 (by decide) rfl ?_
          refine tz_aload_n (pc := 155) dX2_appliedPart_155 rfl rfl ?_
          refine tz_fR (pc := 156) dX2_appliedPart_156 fl_X2_28 r_141_0 ?_
          refine tz_aload_n (pc := 159) dX2_appliedPart_159 rfl rfl ?_
          refine tz_fR (pc := 160) dX2_appliedPart_160 fl_X2_28 r_141_0 ?_
          refine tz_fR (pc := 163) dX2_appliedPart_163 fl_X2_42 r_6_1 ?_
          refine tz_iload_n (pc := 166) dX2_appliedPart_166 rfl rfl ?_
          refine tz_aL (pc := 167) (z := t) (v := (J_150 7 t)) dX2_appliedPart_167 a_7 rfl (by omega) rfl (fun r_167 => ?_)
          refine tz_iload (pc := 168) dX2_appliedPart_168 rfl ?_
          refine tz_iload (pc := 170) dX2_appliedPart_170 rfl ?_
          refine tz_iload (pc := 172) dX2_appliedPart_172 rfl ?_
          refine tz_cV (pc := 174) (c_made hl n _ _ _ _ _ (by omega) (by omega) (by omega) (by omega) m_150 (q_150).2.1 (q_150).2.2.1 (by have := (q_150).2.1.ar (t := t) (by omega) (by have := (q_150).1; omega); omega) (ltA_of (by omega) (by omega) (by omega))) vl_X2_52 dX2_appliedPart_174 o_6 rfl rfl (Nat.le_of_ble_eq_true rfl) ⟨(Nat.le_of_ble_eq_true rfl), (Nat.le_of_ble_eq_true rfl)⟩ rfl rfl (Nat.le_of_ble_eq_true rfl) (Nat.le_of_ble_eq_true rfl) (fun r9 J_174 hq9 => ?_)
          obtain ⟨z_174, rfl, hz_174, p_9⟩ := hq9
          obtain ⟨m9, g9, h9⟩ := GR.made p_9 (by omega)
          have q9 := GR.tr q_150 g9
          exact tz_iret (pc := 177) (z := z_174) dX2_appliedPart_177 rfl (Nat.le_of_ble_eq_true rfl) (Nat.le_of_ble_eq_true rfl) ⟨Nat.le_refl _, Nat.le_add_right _ _⟩ ⟨_, rfl, (by omega), (by first | exact ⟨m9, q9, h9⟩ | exact ⟨m, GR.rf C hm, Or.inr (by omega)⟩)⟩
        · refine tz_iconst (pc := 130) dX2_appliedPart_130 ?_
          refine tz_goto (pc := 131) (tgt := 153) dX2_appliedPart_131 (by decide) ?_
          refine tz_istore (pc := 153) (L2 := [_, _, _, _, _, _, _, _, _]) dX2_appliedPart_153 (by decide) rfl ?_
          refine tz_aload_n (pc := 155) dX2_appliedPart_155 rfl rfl ?_
          refine tz_fR (pc := 156) dX2_appliedPart_156 fl_X2_28 r_141_0 ?_
          refine tz_aload_n (pc := 159) dX2_appliedPart_159 rfl rfl ?_
          refine tz_fR (pc := 160) dX2_appliedPart_160 fl_X2_28 r_141_0 ?_
          refine tz_fR (pc := 163) dX2_appliedPart_163 fl_X2_42 r_6_1 ?_
          refine tz_iload_n (pc := 166) dX2_appliedPart_166 rfl rfl ?_
          refine tz_aL (pc := 167) (z := t) (v := (J_88 7 t)) dX2_appliedPart_167 a_7 rfl (by omega) rfl (fun r_167 => ?_)
          refine tz_iload (pc := 168) dX2_appliedPart_168 rfl ?_
          refine tz_iload (pc := 170) dX2_appliedPart_170 rfl ?_
          refine tz_iload (pc := 172) dX2_appliedPart_172 rfl ?_
          refine tz_cV (pc := 174) (c_made hl n _ _ _ _ _ (by omega) (by omega) (by omega) (by omega) m_88 (q_88).2.1 (q_88).2.2.1 (by have := (q_88).2.1.ar (t := t) (by omega) (by have := (q_88).1; omega); omega) (ltA_of (by omega) (by omega) (by omega))) vl_X2_52 dX2_appliedPart_174 o_6 rfl rfl (Nat.le_of_ble_eq_true rfl) ⟨(Nat.le_of_ble_eq_true rfl), (Nat.le_of_ble_eq_true rfl)⟩ rfl rfl (Nat.le_of_ble_eq_true rfl) (Nat.le_of_ble_eq_true rfl) (fun r9 J_174 hq9 => ?_)
          obtain ⟨z_174, rfl, hz_174, p_9⟩ := hq9
          obtain ⟨m9, g9, h9⟩ := GR.made p_9 (by omega)
          have q9 := GR.tr q_88 g9
          exact tz_iret (pc := 177) (z := z_174) dX2_appliedPart_177 rfl (Nat.le_of_ble_eq_true rfl) (Nat.le_of_ble_eq_true rfl) ⟨Nat.le_refl _, Nat.le_add_right _ _⟩ ⟨_, rfl, (by omega), (by first | exact ⟨m9, q9, h9⟩ | exact ⟨m, GR.rf C hm, Or.inr (by omega)⟩)⟩
    · refine tz_iconst (pc := 68) dX2_appliedPart_68 ?_
      refine tz_goto (pc := 69) (tgt := 91) dX2_appliedPart_69 (by decide) ?_
      refine tz_istore (pc := 91) (L2 := [_, _, _, _, _, _, _, _, _]) dX2_appliedPart_91 (by decide) rfl ?_
      refine tz_iload (pc := 93) dX2_appliedPart_93 rfl ?_
      refine tz_iconst (pc := 95) dX2_appliedPart_95 ?_
      refine tz_icmp_ge (pc := 96) (tgt := 103) dX2_appliedPart_96 (by decide) (by omega) (by decide) (fun h_96 => ?_) (fun h_96 => ?_)
      · refine tz_aload_n (pc := 103) dX2_appliedPart_103 rfl rfl ?_
        refine tz_aload_n (pc := 104) dX2_appliedPart_104 rfl rfl ?_
        refine tz_fR (pc := 105) dX2_appliedPart_105 fl_X2_28 r_141_0 ?_
        refine tz_iload_n (pc := 108) dX2_appliedPart_108 rfl rfl ?_
        refine tz_iconst (pc := 109) dX2_appliedPart_109 ?_
        refine tz_cV (pc := 110) (c_arg hl n _ _ _ (by omega) (by decide) (by omega)) vl_X2_48 dX2_appliedPart_110 o_6 rfl rfl (Nat.le_of_ble_eq_true rfl) ⟨(Nat.le_of_ble_eq_true rfl), (Nat.le_of_ble_eq_true rfl)⟩ rfl rfl (Nat.le_of_ble_eq_true rfl) (Nat.le_of_ble_eq_true rfl) (fun r9 J_110 hq9 => ?_)
        obtain ⟨z_110, rfl, hz_110, rfl, rfl⟩ := hq9
        refine tz_aload_n (pc := 113) dX2_appliedPart_113 rfl rfl ?_
        refine tz_iload_n (pc := 114) dX2_appliedPart_114 rfl rfl ?_
        refine tz_iload (pc := 115) dX2_appliedPart_115 rfl ?_
        refine tz_iconst (pc := 117) dX2_appliedPart_117 ?_
        refine tz_iadd (pc := 118) (v := 2) dX2_appliedPart_118 (by decide) ?_
        have b_119 := GR.arg (GR.rf C hm) C ht (i := 1) (by omega)
        have c_119 := ((GR.rf C hm)).1
        refine tz_cV (pc := 119) (c_app140_2 hl n _ _ (by omega) m ((GR.rf C hm)).2.1 ((GR.rf C hm)).2.2.1 (by omega) (GR.row (GR.rf C hm) rfl hr)) vl_X2_32 dX2_appliedPart_119 o_141 rfl rfl (Nat.le_of_ble_eq_true rfl) ⟨(Nat.le_of_ble_eq_true rfl), (Nat.le_of_ble_eq_true rfl)⟩ rfl rfl (Nat.le_of_ble_eq_true rfl) (Nat.le_of_ble_eq_true rfl) (fun r9 J_119 hq9 => ?_)
        obtain ⟨z_119, rfl, hz_119, m_119, g_119, hz_119⟩ := hq9
        have q_119 := GR.tr (GR.rf C hm) g_119
        have d_119 := q_119.1
        have e_119 := g_119.1
        refine tz_istore (pc := 122) (L2 := [_, _, _, _, _, _, _, _, _]) dX2_appliedPart_122 (by decide) rfl ?_
        refine tz_iload (pc := 124) dX2_appliedPart_124 rfl ?_
        refine tz_iconst (pc := 126) dX2_appliedPart_126 ?_
        refine tz_icmp_ge (pc := 127) (tgt := 134) dX2_appliedPart_127 (by decide) (by omega) (by decide) (fun h_127 => ?_) (fun h_127 => ?_)
        · refine tz_aload_n (pc := 134) dX2_appliedPart_134 rfl rfl ?_
          refine tz_aload_n (pc := 135) dX2_appliedPart_135 rfl rfl ?_
          refine tz_fR (pc := 136) dX2_appliedPart_136 fl_X2_28 r_141_0 ?_
          refine tz_iload_n (pc := 139) dX2_appliedPart_139 rfl rfl ?_
          refine tz_iconst (pc := 140) dX2_appliedPart_140 ?_
          refine tz_cV (pc := 141) (c_arg hl n _ _ _ (by omega) (by decide) (by omega)) vl_X2_48 dX2_appliedPart_141 o_6 rfl rfl (Nat.le_of_ble_eq_true rfl) ⟨(Nat.le_of_ble_eq_true rfl), (Nat.le_of_ble_eq_true rfl)⟩ rfl rfl (Nat.le_of_ble_eq_true rfl) (Nat.le_of_ble_eq_true rfl) (fun r9 J_141 hq9 => ?_)
          obtain ⟨z_141, rfl, hz_141, rfl, rfl⟩ := hq9
          refine tz_aload_n (pc := 144) dX2_appliedPart_144 rfl rfl ?_
          refine tz_iload_n (pc := 145) dX2_appliedPart_145 rfl rfl ?_
          refine tz_iload (pc := 146) dX2_appliedPart_146 rfl ?_
          refine tz_iconst (pc := 148) dX2_appliedPart_148 ?_
          refine tz_iadd (pc := 149) (v := 2) dX2_appliedPart_149 (by decide) ?_
          have b_150 := GR.arg q_119 C ht (i := 2) (by omega)
          have c_150 := (q_119).1
          refine tz_cV (pc := 150) (c_app140_2 hl n _ _ (by omega) m_119 (q_119).2.1 (q_119).2.2.1 (by omega) (GR.row q_119 rfl hr)) vl_X2_32 dX2_appliedPart_150 o_141 rfl rfl (Nat.le_of_ble_eq_true rfl) ⟨(Nat.le_of_ble_eq_true rfl), (Nat.le_of_ble_eq_true rfl)⟩ rfl rfl (Nat.le_of_ble_eq_true rfl) (Nat.le_of_ble_eq_true rfl) (fun r9 J_150 hq9 => ?_)
          obtain ⟨z_150, rfl, hz_150, m_150, g_150, hz_150⟩ := hq9
          have q_150 := GR.tr q_119 g_150
          have d_150 := q_150.1
          have e_150 := g_150.1
          refine tz_istore (pc := 153) (L2 := [_, _, _, _, _, _, _, _, _]) dX2_appliedPart_153 (by decide) rfl ?_
          refine tz_aload_n (pc := 155) dX2_appliedPart_155 rfl rfl ?_
          refine tz_fR (pc := 156) dX2_appliedPart_156 fl_X2_28 r_141_0 ?_
          refine tz_aload_n (pc := 159) dX2_appliedPart_159 rfl rfl ?_
          refine tz_fR (pc := 160) dX2_appliedPart_160 fl_X2_28 r_141_0 ?_
          refine tz_fR (pc := 163) dX2_appliedPart_163 fl_X2_42 r_6_1 ?_
          refine tz_iload_n (pc := 166) dX2_appliedPart_166 rfl rfl ?_
          refine tz_aL (pc := 167) (z := t) (v := (J_150 7 t)) dX2_appliedPart_167 a_7 rfl (by omega) rfl (fun r_167 => ?_)
          refine tz_iload (pc := 168) dX2_appliedPart_168 rfl ?_
          refine tz_iload (pc := 170) dX2_appliedPart_170 rfl ?_
          refine tz_iload (pc := 172) dX2_appliedPart_172 rfl ?_
          refine tz_cV (pc := 174) (c_made hl n _ _ _ _ _ (by omega) (by omega) (by omega) (by omega) m_150 (q_150).2.1 (q_150).2.2.1 (by have := (q_150).2.1.ar (t := t) (by omega) (by have := (q_150).1; omega); omega) (ltA_of (by omega) (by omega) (by omega))) vl_X2_52 dX2_appliedPart_174 o_6 rfl rfl (Nat.le_of_ble_eq_true rfl) ⟨(Nat.le_of_ble_eq_true rfl), (Nat.le_of_ble_eq_true rfl)⟩ rfl rfl (Nat.le_of_ble_eq_true rfl) (Nat.le_of_ble_eq_true rfl) (fun r9 J_174 hq9 => ?_)
          obtain ⟨z_174, rfl, hz_174, p_9⟩ := hq9
          obtain ⟨m9, g9, h9⟩ := GR.made p_9 (by omega)
          have q9 := GR.tr q_150 g9
          exact tz_iret (pc := 177) (z := z_174) dX2_appliedPart_177 rfl (Nat.le_of_ble_eq_true rfl) (Nat.le_of_ble_eq_true rfl) ⟨Nat.le_refl _, Nat.le_add_right _ _⟩ ⟨_, rfl, (by omega), (by first | exact ⟨m9, q9, h9⟩ | exact ⟨m, GR.rf C hm, Or.inr (by omega)⟩)⟩
        · refine tz_iconst (pc := 130) dX2_appliedPart_130 ?_
          refine tz_goto (pc := 131) (tgt := 153) dX2_appliedPart_131 (by decide) ?_
          refine tz_istore (pc := 153) (L2 := [_, _, _, _, _, _, _, _, _]) dX2_appliedPart_153 (by decide) rfl ?_
          refine tz_aload_n (pc := 155) dX2_appliedPart_155 rfl rfl ?_
          refine tz_fR (pc := 156) dX2_appliedPart_156 fl_X2_28 r_141_0 ?_
          refine tz_aload_n (pc := 159) dX2_appliedPart_159 rfl rfl ?_
          refine tz_fR (pc := 160) dX2_appliedPart_160 fl_X2_28 r_141_0 ?_
          refine tz_fR (pc := 163) dX2_appliedPart_163 fl_X2_42 r_6_1 ?_
          refine tz_iload_n (pc := 166) dX2_appliedPart_166 rfl rfl ?_
          refine tz_aL (pc := 167) (z := t) (v := (J_119 7 t)) dX2_appliedPart_167 a_7 rfl (by omega) rfl (fun r_167 => ?_)
          refine tz_iload (pc := 168) dX2_appliedPart_168 rfl ?_
          refine tz_iload (pc := 170) dX2_appliedPart_170 rfl ?_
          refine tz_iload (pc := 172) dX2_appliedPart_172 rfl ?_
          refine tz_cV (pc := 174) (c_made hl n _ _ _ _ _ (by omega) (by omega) (by omega) (by omega) m_119 (q_119).2.1 (q_119).2.2.1 (by have := (q_119).2.1.ar (t := t) (by omega) (by have := (q_119).1; omega); omega) (ltA_of (by omega) (by omega) (by omega))) vl_X2_52 dX2_appliedPart_174 o_6 rfl rfl (Nat.le_of_ble_eq_true rfl) ⟨(Nat.le_of_ble_eq_true rfl), (Nat.le_of_ble_eq_true rfl)⟩ rfl rfl (Nat.le_of_ble_eq_true rfl) (Nat.le_of_ble_eq_true rfl) (fun r9 J_174 hq9 => ?_)
          obtain ⟨z_174, rfl, hz_174, p_9⟩ := hq9
          obtain ⟨m9, g9, h9⟩ := GR.made p_9 (by omega)
          have q9 := GR.tr q_119 g9
          exact tz_iret (pc := 177) (z := z_174) dX2_appliedPart_177 rfl (Nat.le_of_ble_eq_true rfl) (Nat.le_of_ble_eq_true rfl) ⟨Nat.le_refl _, Nat.le_add_right _ _⟩ ⟨_, rfl, (by omega), (by first | exact ⟨m9, q9, h9⟩ | exact ⟨m, GR.rf C hm, Or.inr (by omega)⟩)⟩
      · refine tz_iconst (pc := 99) dX2_appliedPart_99 ?_
        refine tz_goto (pc := 100) (tgt := 122) dX2_appliedPart_100 (by decide) ?_
        refine tz_istore (pc := 122) (L2 := [_, _, _, _, _, _, _, _, _]) dX2_appliedPart_122 (by decide) rfl ?_
        refine tz_iload (pc := 124) dX2_appliedPart_124 rfl ?_
        refine tz_iconst (pc := 126) dX2_appliedPart_126 ?_
        refine tz_icmp_ge (pc := 127) (tgt := 134) dX2_appliedPart_127 (by decide) (by omega) (by decide) (fun h_127 => ?_) (fun h_127 => ?_)
        · refine tz_aload_n (pc := 134) dX2_appliedPart_134 rfl rfl ?_
          refine tz_aload_n (pc := 135) dX2_appliedPart_135 rfl rfl ?_
          refine tz_fR (pc := 136) dX2_appliedPart_136 fl_X2_28 r_141_0 ?_
          refine tz_iload_n (pc := 139) dX2_appliedPart_139 rfl rfl ?_
          refine tz_iconst (pc := 140) dX2_appliedPart_140 ?_
          refine tz_cV (pc := 141) (c_arg hl n _ _ _ (by omega) (by decide) (by omega)) vl_X2_48 dX2_appliedPart_141 o_6 rfl rfl (Nat.le_of_ble_eq_true rfl) ⟨(Nat.le_of_ble_eq_true rfl), (Nat.le_of_ble_eq_true rfl)⟩ rfl rfl (Nat.le_of_ble_eq_true rfl) (Nat.le_of_ble_eq_true rfl) (fun r9 J_141 hq9 => ?_)
          obtain ⟨z_141, rfl, hz_141, rfl, rfl⟩ := hq9
          refine tz_aload_n (pc := 144) dX2_appliedPart_144 rfl rfl ?_
          refine tz_iload_n (pc := 145) dX2_appliedPart_145 rfl rfl ?_
          refine tz_iload (pc := 146) dX2_appliedPart_146 rfl ?_
          refine tz_iconst (pc := 148) dX2_appliedPart_148 ?_
          refine tz_iadd (pc := 149) (v := 2) dX2_appliedPart_149 (by decide) ?_
          have b_150 := GR.arg (GR.rf C hm) C ht (i := 2) (by omega)
          have c_150 := ((GR.rf C hm)).1
          refine tz_cV (pc := 150) (c_app140_2 hl n _ _ (by omega) m ((GR.rf C hm)).2.1 ((GR.rf C hm)).2.2.1 (by omega) (GR.row (GR.rf C hm) rfl hr)) vl_X2_32 dX2_appliedPart_150 o_141 rfl rfl (Nat.le_of_ble_eq_true rfl) ⟨(Nat.le_of_ble_eq_true rfl), (Nat.le_of_ble_eq_true rfl)⟩ rfl rfl (Nat.le_of_ble_eq_true rfl) (Nat.le_of_ble_eq_true rfl) (fun r9 J_150 hq9 => ?_)
          obtain ⟨z_150, rfl, hz_150, m_150, g_150, hz_150⟩ := hq9
          have q_150 := GR.tr (GR.rf C hm) g_150
          have d_150 := q_150.1
          have e_150 := g_150.1
          refine tz_istore (pc := 153) (L2 := [_, _, _, _, _, _, _, _, _]) dX2_appliedPart_153 (by decide) rfl ?_
          refine tz_aload_n (pc := 155) dX2_appliedPart_155 rfl rfl ?_
          refine tz_fR (pc := 156) dX2_appliedPart_156 fl_X2_28 r_141_0 ?_
          refine tz_aload_n (pc := 159) dX2_appliedPart_159 rfl rfl ?_
          refine tz_fR (pc := 160) dX2_appliedPart_160 fl_X2_28 r_141_0 ?_
          refine tz_fR (pc := 163) dX2_appliedPart_163 fl_X2_42 r_6_1 ?_
          refine tz_iload_n (pc := 166) dX2_appliedPart_166 rfl rfl ?_
          refine tz_aL (pc := 167) (z := t) (v := (J_150 7 t)) dX2_appliedPart_167 a_7 rfl (by omega) rfl (fun r_167 => ?_)
          refine tz_iload (pc := 168) dX2_appliedPart_168 rfl ?_
          refine tz_iload (pc := 170) dX2_appliedPart_170 rfl ?_
          refine tz_iload (pc := 172) dX2_appliedPart_172 rfl ?_
          refine tz_cV (pc := 174) (c_made hl n _ _ _ _ _ (by omega) (by omega) (by omega) (by omega) m_150 (q_150).2.1 (q_150).2.2.1 (by have := (q_150).2.1.ar (t := t) (by omega) (by have := (q_150).1; omega); omega) (ltA_of (by omega) (by omega) (by omega))) vl_X2_52 dX2_appliedPart_174 o_6 rfl rfl (Nat.le_of_ble_eq_true rfl) ⟨(Nat.le_of_ble_eq_true rfl), (Nat.le_of_ble_eq_true rfl)⟩ rfl rfl (Nat.le_of_ble_eq_true rfl) (Nat.le_of_ble_eq_true rfl) (fun r9 J_174 hq9 => ?_)
          obtain ⟨z_174, rfl, hz_174, p_9⟩ := hq9
          obtain ⟨m9, g9, h9⟩ := GR.made p_9 (by omega)
          have q9 := GR.tr q_150 g9
          exact tz_iret (pc := 177) (z := z_174) dX2_appliedPart_177 rfl (Nat.le_of_ble_eq_true rfl) (Nat.le_of_ble_eq_true rfl) ⟨Nat.le_refl _, Nat.le_add_right _ _⟩ ⟨_, rfl, (by omega), (by first | exact ⟨m9, q9, h9⟩ | exact ⟨m, GR.rf C hm, Or.inr (by omega)⟩)⟩
        · refine tz_iconst (pc := 130) dX2_appliedPart_130 ?_
          refine tz_goto (pc := 131) (tgt := 153) dX2_appliedPart_131 (by decide) ?_
          refine tz_istore (pc := 153) (L2 := [_, _, _, _, _, _, _, _, _]) dX2_appliedPart_153 (by decide) rfl ?_
          refine tz_aload_n (pc := 155) dX2_appliedPart_155 rfl rfl ?_
          refine tz_fR (pc := 156) dX2_appliedPart_156 fl_X2_28 r_141_0 ?_
          refine tz_aload_n (pc := 159) dX2_appliedPart_159 rfl rfl ?_
          refine tz_fR (pc := 160) dX2_appliedPart_160 fl_X2_28 r_141_0 ?_
          refine tz_fR (pc := 163) dX2_appliedPart_163 fl_X2_42 r_6_1 ?_
          refine tz_iload_n (pc := 166) dX2_appliedPart_166 rfl rfl ?_
          refine tz_aL (pc := 167) (z := t) (v := (J 7 t)) dX2_appliedPart_167 a_7 rfl (by omega) rfl (fun r_167 => ?_)
          refine tz_iload (pc := 168) dX2_appliedPart_168 rfl ?_
          refine tz_iload (pc := 170) dX2_appliedPart_170 rfl ?_
          refine tz_iload (pc := 172) dX2_appliedPart_172 rfl ?_
          refine tz_cV (pc := 174) (c_made hl n _ _ _ _ _ (by omega) (by omega) (by omega) (by omega) m ((GR.rf C hm)).2.1 ((GR.rf C hm)).2.2.1 (by have := ((GR.rf C hm)).2.1.ar (t := t) (by omega) (by have := ((GR.rf C hm)).1; omega); omega) (ltA_of (by omega) (by omega) (by omega))) vl_X2_52 dX2_appliedPart_174 o_6 rfl rfl (Nat.le_of_ble_eq_true rfl) ⟨(Nat.le_of_ble_eq_true rfl), (Nat.le_of_ble_eq_true rfl)⟩ rfl rfl (Nat.le_of_ble_eq_true rfl) (Nat.le_of_ble_eq_true rfl) (fun r9 J_174 hq9 => ?_)
          obtain ⟨z_174, rfl, hz_174, p_9⟩ := hq9
          obtain ⟨m9, g9, h9⟩ := GR.made p_9 (by omega)
          have q9 := GR.tr (GR.rf C hm) g9
          exact tz_iret (pc := 177) (z := z_174) dX2_appliedPart_177 rfl (Nat.le_of_ble_eq_true rfl) (Nat.le_of_ble_eq_true rfl) ⟨Nat.le_refl _, Nat.le_add_right _ _⟩ ⟨_, rfl, (by omega), (by first | exact ⟨m9, q9, h9⟩ | exact ⟨m, GR.rf C hm, Or.inr (by omega)⟩)⟩

set_option maxHeartbeats 4000000 in
set_option maxRecDepth 100000 in
theorem c_applied140 {l : Launch} {G : tb_G} (hl : l.stackTraces = false) (n : Nat) (J : zJ) (t : Int) (hr_t : -2147483648 ≤ t ∧ t < 2147483648) (m : Int) (C : CT J m) (hm : J 6 12 = m) (ht : 0 ≤ t ∧ t < m) (hr : rOK J 140 0 m) : tz_Ok l G M_X2_applied 9 0 0 [.ref 141, zi t, .ref 140, zi 0] n J (zqi (fun z J' => ∃ m', GR J' J m m' ∧ (z = -3 ∨ (0 ≤ z ∧ z < m')))) zN := by
  refine tz_Ok.of hl (by decide +kernel) rfl (tb_c1 rfl) (Nat.le_of_ble_eq_true rfl) ?_
  show tz_At l G M_X2_applied (tb_rm 9 0 0) none (tb_ZM G 0 0 (zQ n 0 (zqi (fun z J' => ∃ m', GR J' J m m' ∧ (z = -3 ∨ (0 ≤ z ∧ z < m'))))) (zX n 0 zN)) 0 0 n J 0 [some (.ref 141), some (zi t), some (.ref 140), some (zi 0)] []
  refine tz_aload_n (pc := 0) dX2_applied_0 rfl rfl ?_
  refine tz_iload_n (pc := 1) dX2_applied_1 rfl rfl ?_
  refine tz_aload_n (pc := 2) dX2_applied_2 rfl rfl ?_
  refine tz_iload_n (pc := 3) dX2_applied_3 rfl rfl ?_
  refine tz_iconst (pc := 4) dX2_applied_4 ?_
  refine tz_cV (pc := 5) (c_app140_1 hl n _ _ (by omega) m C hm ht hr) vl_X2_32 dX2_applied_5 o_141 rfl rfl (Nat.le_of_ble_eq_true rfl) ⟨(Nat.le_of_ble_eq_true rfl), (Nat.le_of_ble_eq_true rfl)⟩ rfl rfl (Nat.le_of_ble_eq_true rfl) (Nat.le_of_ble_eq_true rfl) (fun r9 J_5 hq9 => ?_)
  obtain ⟨z_5, rfl, hz_5, m1, g1, h1⟩ := hq9
  exact tz_iret (pc := 8) (z := z_5) dX2_applied_8 rfl (Nat.le_of_ble_eq_true rfl) (Nat.le_of_ble_eq_true rfl) ⟨Nat.le_refl _, Nat.le_add_right _ _⟩ ⟨_, rfl, (by omega), ⟨m1, g1, h1⟩⟩

end
section
set_option maxHeartbeats 4000000 in
set_option maxRecDepth 100000 in
theorem c_drawOf {l : Launch} {G : tb_G} (hl : l.stackTraces = false) (n : Nat) (J : zJ) (k : Int) (hr_k : -2147483648 ≤ k ∧ k < 2147483648)  (h0 : 0 < k) : tz_Ok l G M_X2_drawOf 0 0 0 [.ref 141, zi k] n J (zqi (fun z J' => zup J 141 5 (zw (J 141 5 * 1103515245 + 12345)) = J' ∧ (0 ≤ z ∧ z < k) ∧ zand (zushr (zw (J 141 5 * 1103515245 + 12345)) 16) 32767 % k = z)) zN := by
  refine tz_Ok.of hl (by decide +kernel) rfl (tb_c1 rfl) (Nat.le_of_ble_eq_true rfl) ?_
  show tz_At l G M_X2_drawOf (tb_rm 0 0 0) none (tb_ZM G 0 0 (zQ n 0 (zqi (fun z J' => zup J 141 5 (zw (J 141 5 * 1103515245 + 12345)) = J' ∧ (0 ≤ z ∧ z < k) ∧ zand (zushr (zw (J 141 5 * 1103515245 + 12345)) 16) 32767 % k = z))) (zX n 0 zN)) 0 0 n J 0 [some (.ref 141), some (zi k)] []
  refine tz_aload_n (pc := 0) dX2_drawOf_0 rfl rfl ?_
  refine tz_aload_n (pc := 1) dX2_drawOf_1 rfl rfl ?_
  refine tz_fI (pc := 2) (kz := 5) (v := (J 141 5)) dX2_drawOf_2 fl_X2_25 i_141_5 rfl rfl (fun r_2 => ?_)
  refine tz_ldc (pc := 5) (z := 1103515245) dX2_drawOf_5 ct_X2_124 (by decide) ?_
  refine tz_imul (pc := 7) (v := (J 141 5) * 1103515245) dX2_drawOf_7 rfl ?_
  refine tz_sipush (pc := 8) dX2_drawOf_8 (by decide) ?_
  refine tz_iadd (pc := 11) (v := ((J 141 5) * 1103515245) + 12345) dX2_drawOf_11 rfl ?_
  refine tz_tw ?_
  have rw_12 := zw_rg (((J 141 5) * 1103515245) + 12345)
  refine tz_pI (pc := 12) (kz := 5) dX2_drawOf_12 fl_X2_25 i_141_5 rfl rfl (zw_rg _) ?_
  refine tz_iload_n (pc := 15) dX2_drawOf_15 rfl rfl ?_
  refine tz_if_leF (pc := 16) (tgt := 35) (by omega) dX2_drawOf_16 (by decide) (by omega) ?_
  refine tz_aload_n (pc := 19) dX2_drawOf_19 rfl rfl ?_
  refine tz_fI (pc := 20) (kz := 5) (v := (zw (((J 141 5) * 1103515245) + 12345))) dX2_drawOf_20 fl_X2_25 i_141_5 rfl rfl (fun r_20 => ?_)
  refine tz_bipush (pc := 23) dX2_drawOf_23 (by decide) ?_
  refine tz_iushr (pc := 25) (v := zushr (zw (((J 141 5) * 1103515245) + 12345)) 16) dX2_drawOf_25 rfl ?_
  refine tz_sipush (pc := 26) dX2_drawOf_26 (by decide) ?_
  refine tz_iand (pc := 29) (v := zand (zushr (zw (((J 141 5) * 1103515245) + 12345)) 16) 32767) dX2_drawOf_29 rfl ?_
  refine tz_iload_n (pc := 30) dX2_drawOf_30 rfl rfl ?_
  have ha9 := z_and (zushr (zw (J 141 5 * 1103515245 + 12345)) 16) (m := 32767) 15 (by decide) (by decide)
  refine tz_irem (pc := 31) (a := (zand (zushr (zw (((J 141 5) * 1103515245) + 12345)) 16) 32767)) (b := k) (v := ((zand (zushr (zw (((J 141 5) * 1103515245) + 12345)) 16) 32767) % k)) dX2_drawOf_31 (by omega) (by omega) rfl ?_
  refine tz_goto (pc := 32) (tgt := 36) dX2_drawOf_32 (by decide) ?_
  exact tz_iret (pc := 36) (z := ((zand (zushr (zw (((J 141 5) * 1103515245) + 12345)) 16) 32767) % k)) dX2_drawOf_36 rfl (Nat.le_of_ble_eq_true rfl) (Nat.le_of_ble_eq_true rfl) ⟨Nat.le_refl _, Nat.le_add_right _ _⟩ ⟨_, rfl, (by have := Int.emod_nonneg (zand (zushr (zw (J 141 5 * 1103515245 + 12345)) 16) 32767) (show k ≠ 0 by omega); have := Int.emod_lt_of_pos (zand (zushr (zw (J 141 5 * 1103515245 + 12345)) 16) 32767) h0; omega), ⟨rfl, ⟨Int.emod_nonneg _ (by omega), Int.emod_lt_of_pos _ h0⟩, rfl⟩⟩

set_option maxHeartbeats 4000000 in
set_option maxRecDepth 100000 in
theorem c_coupleOf {l : Launch} {G : tb_G} (hl : l.stackTraces = false) (n : Nat) (J : zJ) (s : Int) (t : Int) (hr_s : -2147483648 ≤ s ∧ s < 2147483648) (hr_t : -2147483648 ≤ t ∧ t < 2147483648)  (h0 : 0 ≤ J 141 4 ∧ J 141 4 ≤ 8) : tz_Ok l G M_X2_coupleOf 0 0 0 [.ref 141, zi s, zi t] n J (zqi (fun z J' => J = J' ∧ ((0 ≤ z ∧ z < J 141 4 ∧ (J 143 z = s ∧ J 144 z = t) ∧ ∀ i, 0 ≤ i → i < z → ¬ (J 143 i = s ∧ J 144 i = t)) ∨ (z = -1 ∧ ∀ i, 0 ≤ i → i < J 141 4 → ¬ (J 143 i = s ∧ J 144 i = t))))) zN := by
  refine tz_Ok.of hl (by decide +kernel) rfl (tb_c1 rfl) (Nat.le_of_ble_eq_true rfl) ?_
  show tz_At l G M_X2_coupleOf (tb_rm 0 0 0) none (tb_ZM G 0 0 (zQ n 0 (zqi (fun z J' => J = J' ∧ ((0 ≤ z ∧ z < J 141 4 ∧ (J 143 z = s ∧ J 144 z = t) ∧ ∀ i, 0 ≤ i → i < z → ¬ (J 143 i = s ∧ J 144 i = t)) ∨ (z = -1 ∧ ∀ i, 0 ≤ i → i < J 141 4 → ¬ (J 143 i = s ∧ J 144 i = t)))))) (zX n 0 zN)) 0 0 n J 0 [some (.ref 141), some (zi s), some (zi t), none] []
  refine tz_iconst (pc := 0) dX2_coupleOf_0 ?_
  refine tz_istore_n (pc := 1) (L2 := [_, _, _, _]) dX2_coupleOf_1 rfl (by decide) rfl ?_
  have loop2 : ∀ (f9 : Nat) (i : Int), ((J 141 4 - i).toNat) < f9 → (0 ≤ i ∧ i ≤ J 141 4) → (∀ q, 0 ≤ q → q < i → ¬ (J 143 q = s ∧ J 144 q = t)) → tz_At l G M_X2_coupleOf (tb_rm 0 0 0) none (tb_ZM G 0 0 (zQ n 0 (zqi (fun z J' => J = J' ∧ ((0 ≤ z ∧ z < J 141 4 ∧ (J 143 z = s ∧ J 144 z = t) ∧ ∀ i, 0 ≤ i → i < z → ¬ (J 143 i = s ∧ J 144 i = t)) ∨ (z = -1 ∧ ∀ i, 0 ≤ i → i < J 141 4 → ¬ (J 143 i = s ∧ J 144 i = t)))))) (zX n 0 zN)) 0 0 n J 2 [some (.ref 141), some (zi s), some (zi t), some (zi i)] [] := by
    intro f9
    induction f9 with
    | zero => intro i hm9; exact absurd hm9 (Nat.not_lt_zero _)
    | succ f9 ih2 =>
      intro i hm2 hi hn
      refine tz_iload_n (pc := 2) dX2_coupleOf_2 rfl rfl ?_
      refine tz_aload_n (pc := 3) dX2_coupleOf_3 rfl rfl ?_
      refine tz_fI (pc := 4) (kz := 4) (v := (J 141 4)) dX2_coupleOf_4 fl_X2_21 i_141_4 rfl rfl (fun r_4 => ?_)
      refine tz_icmp_ge (pc := 7) (tgt := 38) dX2_coupleOf_7 (by decide) (by omega) (by omega) (fun h_7 => ?_) (fun h_7 => ?_)
      · refine tz_iconst (pc := 38) dX2_coupleOf_38 ?_
        exact tz_iret (pc := 39) (z := (-1)) dX2_coupleOf_39 rfl (Nat.le_of_ble_eq_true rfl) (Nat.le_of_ble_eq_true rfl) ⟨Nat.le_refl _, Nat.le_add_right _ _⟩ ⟨_, rfl, (by decide), ⟨rfl, by first | exact Or.inl ⟨by omega, by omega, ⟨by omega, by omega⟩, hn⟩ | exact Or.inr ⟨rfl, fun q a b => hn q a (by omega)⟩⟩⟩
      · refine tz_aload_n (pc := 10) dX2_coupleOf_10 rfl rfl ?_
        refine tz_fR (pc := 11) dX2_coupleOf_11 fl_X2_15 r_141_2 ?_
        refine tz_iload_n (pc := 14) dX2_coupleOf_14 rfl rfl ?_
        refine tz_aL (pc := 15) (z := i) (v := (J 143 i)) dX2_coupleOf_15 a_143 rfl (by omega) rfl (fun r_15 => ?_)
        refine tz_iload_n (pc := 16) dX2_coupleOf_16 rfl rfl ?_
        refine tz_icmp_ne (pc := 17) (tgt := 32) dX2_coupleOf_17 (by decide) (by omega) (by omega) (fun h_17 => ?_) (fun h_17 => ?_)
        · refine tz_iinc (pc := 32) (z := i + 1) (L2 := [_, _, _, _]) dX2_coupleOf_32 rfl (by omega) rfl ?_
          refine tz_goto (pc := 35) (tgt := 2) dX2_coupleOf_35 (by decide) ?_
          exact ih2 (i + 1) (by omega) (by omega) (fun q a b => (Decidable.em (q = i)).elim (fun e => by rw [e]; omega) (fun e => hn q a (by omega)))
        · refine tz_aload_n (pc := 20) dX2_coupleOf_20 rfl rfl ?_
          refine tz_fR (pc := 21) dX2_coupleOf_21 fl_X2_18 r_141_3 ?_
          refine tz_iload_n (pc := 24) dX2_coupleOf_24 rfl rfl ?_
          refine tz_aL (pc := 25) (z := i) (v := (J 144 i)) dX2_coupleOf_25 a_144 rfl (by omega) rfl (fun r_25 => ?_)
          refine tz_iload_n (pc := 26) dX2_coupleOf_26 rfl rfl ?_
          refine tz_icmp_ne (pc := 27) (tgt := 32) dX2_coupleOf_27 (by decide) (by omega) (by omega) (fun h_27 => ?_) (fun h_27 => ?_)
          · refine tz_iinc (pc := 32) (z := i + 1) (L2 := [_, _, _, _]) dX2_coupleOf_32 rfl (by omega) rfl ?_
            refine tz_goto (pc := 35) (tgt := 2) dX2_coupleOf_35 (by decide) ?_
            exact ih2 (i + 1) (by omega) (by omega) (fun q a b => (Decidable.em (q = i)).elim (fun e => by rw [e]; omega) (fun e => hn q a (by omega)))
          · refine tz_iload_n (pc := 30) dX2_coupleOf_30 rfl rfl ?_
            exact tz_iret (pc := 31) (z := i) dX2_coupleOf_31 rfl (Nat.le_of_ble_eq_true rfl) (Nat.le_of_ble_eq_true rfl) ⟨Nat.le_refl _, Nat.le_add_right _ _⟩ ⟨_, rfl, (by omega), ⟨rfl, by first | exact Or.inl ⟨by omega, by omega, ⟨by omega, by omega⟩, hn⟩ | exact Or.inr ⟨rfl, fun q a b => hn q a (by omega)⟩⟩⟩
  exact loop2 _ 0 (Nat.lt_succ_self _) (by omega) (fun q a b => by omega)

set_option maxHeartbeats 4000000 in
set_option maxRecDepth 100000 in
theorem c_addCouple {l : Launch} {G : tb_G} (hl : l.stackTraces = false) (n : Nat) (J : zJ) (s : Int) (t : Int) (hr_s : -2147483648 ≤ s ∧ s < 2147483648) (hr_t : -2147483648 ≤ t ∧ t < 2147483648)  (h0 : 0 ≤ J 141 4 ∧ J 141 4 ≤ 8) : tz_Ok l G M_X2_addCouple 1 0 0 [.ref 141, zi s, zi t] n J (zqi (fun z J' => ((∃ i, (0 ≤ i ∧ i < J 141 4) ∧ J 143 i = s ∧ J 144 i = t) ∧ z = 1 ∧ J = J') ∨ ((∀ i, 0 ≤ i → i < J 141 4 → ¬ (J 143 i = s ∧ J 144 i = t)) ∧ ((J 141 4 = 8 ∧ z = 0 ∧ J = J') ∨ (J 141 4 < 8 ∧ z = 1 ∧ zup (zup (zup J 143 (J 141 4) s) 144 (J 141 4) t) 141 4 (J 141 4 + 1) = J'))))) zN := by
  refine tz_Ok.of hl (by decide +kernel) rfl (tb_c1 rfl) (Nat.le_of_ble_eq_true rfl) ?_
  show tz_At l G M_X2_addCouple (tb_rm 1 0 0) none (tb_ZM G 0 0 (zQ n 0 (zqi (fun z J' => ((∃ i, (0 ≤ i ∧ i < J 141 4) ∧ J 143 i = s ∧ J 144 i = t) ∧ z = 1 ∧ J = J') ∨ ((∀ i, 0 ≤ i → i < J 141 4 → ¬ (J 143 i = s ∧ J 144 i = t)) ∧ ((J 141 4 = 8 ∧ z = 0 ∧ J = J') ∨ (J 141 4 < 8 ∧ z = 1 ∧ zup (zup (zup J 143 (J 141 4) s) 144 (J 141 4) t) 141 4 (J 141 4 + 1) = J')))))) (zX n 0 zN)) 0 0 n J 0 [some (.ref 141), some (zi s), some (zi t)] []
  refine tz_aload_n (pc := 0) dX2_addCouple_0 rfl rfl ?_
  refine tz_iload_n (pc := 1) dX2_addCouple_1 rfl rfl ?_
  refine tz_iload_n (pc := 2) dX2_addCouple_2 rfl rfl ?_
  refine tz_cV (pc := 3) (c_coupleOf hl n _ _ _ (by omega) (by omega) h0) vl_X2_93 dX2_addCouple_3 o_141 rfl rfl (Nat.le_of_ble_eq_true rfl) ⟨(Nat.le_of_ble_eq_true rfl), (Nat.le_of_ble_eq_true rfl)⟩ rfl rfl (Nat.le_of_ble_eq_true rfl) (Nat.le_of_ble_eq_true rfl) (fun r9 J_3 hq9 => ?_)
  obtain ⟨z_3, rfl, hz_3, rfl, hz⟩ := hq9
  refine tz_iconst (pc := 6) dX2_addCouple_6 ?_
  refine tz_icmp_eq (pc := 7) (tgt := 12) dX2_addCouple_7 (by decide) (by omega) (by decide) (fun h_7 => ?_) (fun h_7 => ?_)
  · refine tz_aload_n (pc := 12) dX2_addCouple_12 rfl rfl ?_
    refine tz_fI (pc := 13) (kz := 4) (v := (J 141 4)) dX2_addCouple_13 fl_X2_21 i_141_4 rfl rfl (fun r_13 => ?_)
    refine tz_bipush (pc := 16) dX2_addCouple_16 (by decide) ?_
    refine tz_icmp_lt (pc := 18) (tgt := 23) dX2_addCouple_18 (by decide) (by omega) (by decide) (fun h_18 => ?_) (fun h_18 => ?_)
    · refine tz_aload_n (pc := 23) dX2_addCouple_23 rfl rfl ?_
      refine tz_fR (pc := 24) dX2_addCouple_24 fl_X2_15 r_141_2 ?_
      refine tz_aload_n (pc := 27) dX2_addCouple_27 rfl rfl ?_
      refine tz_fI (pc := 28) (kz := 4) (v := (J 141 4)) dX2_addCouple_28 fl_X2_21 i_141_4 rfl rfl (fun r_28 => ?_)
      refine tz_iload_n (pc := 31) dX2_addCouple_31 rfl rfl ?_
      refine tz_aS (pc := 32) (z := (J 141 4)) dX2_addCouple_32 a_143 rfl (by omega) (by omega) ?_
      refine tz_aload_n (pc := 33) dX2_addCouple_33 rfl rfl ?_
      refine tz_fR (pc := 34) dX2_addCouple_34 fl_X2_18 r_141_3 ?_
      refine tz_aload_n (pc := 37) dX2_addCouple_37 rfl rfl ?_
      refine tz_fI (pc := 38) (kz := 4) (v := (J 141 4)) dX2_addCouple_38 fl_X2_21 i_141_4 rfl rfl (fun r_38 => ?_)
      refine tz_iload_n (pc := 41) dX2_addCouple_41 rfl rfl ?_
      refine tz_aS (pc := 42) (z := (J 141 4)) dX2_addCouple_42 a_144 rfl (by omega) (by omega) ?_
      refine tz_aload_n (pc := 43) dX2_addCouple_43 rfl rfl ?_
      refine tz_dup (pc := 44) dX2_addCouple_44 rfl ?_
      refine tz_fI (pc := 45) (kz := 4) (v := (J 141 4)) dX2_addCouple_45 fl_X2_21 i_141_4 rfl rfl (fun r_45 => ?_)
      refine tz_iconst (pc := 48) dX2_addCouple_48 ?_
      refine tz_iadd (pc := 49) (v := (J 141 4) + 1) dX2_addCouple_49 rfl ?_
      refine tz_pI (pc := 50) (kz := 4) dX2_addCouple_50 fl_X2_21 i_141_4 rfl rfl (by omega) ?_
      refine tz_iconst (pc := 53) dX2_addCouple_53 ?_
      exact tz_zret (pc := 54) (z := 1) dX2_addCouple_54 rfl (Or.inr rfl) (Nat.le_of_ble_eq_true rfl) (Nat.le_of_ble_eq_true rfl) ⟨Nat.le_refl _, Nat.le_add_right _ _⟩ ⟨_, rfl, (by decide), (by rcases hz with ⟨z1, z2, z3, -⟩ | ⟨z1, z2⟩ <;> first | (exfalso; omega) | exact Or.inl ⟨⟨_, ⟨z1, z2⟩, z3⟩, rfl, rfl⟩ | exact Or.inr ⟨z2, Or.inl ⟨by omega, rfl, rfl⟩⟩ | exact Or.inr ⟨z2, Or.inr ⟨by omega, rfl, rfl⟩⟩)⟩
    · refine tz_iconst (pc := 21) dX2_addCouple_21 ?_
      exact tz_zret (pc := 22) (z := 0) dX2_addCouple_22 rfl (Or.inl rfl) (Nat.le_of_ble_eq_true rfl) (Nat.le_of_ble_eq_true rfl) ⟨Nat.le_refl _, Nat.le_add_right _ _⟩ ⟨_, rfl, (by decide), (by rcases hz with ⟨z1, z2, z3, -⟩ | ⟨z1, z2⟩ <;> first | (exfalso; omega) | exact Or.inl ⟨⟨_, ⟨z1, z2⟩, z3⟩, rfl, rfl⟩ | exact Or.inr ⟨z2, Or.inl ⟨by omega, rfl, rfl⟩⟩ | exact Or.inr ⟨z2, Or.inr ⟨by omega, rfl, rfl⟩⟩)⟩
  · refine tz_iconst (pc := 10) dX2_addCouple_10 ?_
    exact tz_zret (pc := 11) (z := 1) dX2_addCouple_11 rfl (Or.inr rfl) (Nat.le_of_ble_eq_true rfl) (Nat.le_of_ble_eq_true rfl) ⟨Nat.le_refl _, Nat.le_add_right _ _⟩ ⟨_, rfl, (by decide), (by rcases hz with ⟨z1, z2, z3, -⟩ | ⟨z1, z2⟩ <;> first | (exfalso; omega) | exact Or.inl ⟨⟨_, ⟨z1, z2⟩, z3⟩, rfl, rfl⟩ | exact Or.inr ⟨z2, Or.inl ⟨by omega, rfl, rfl⟩⟩ | exact Or.inr ⟨z2, Or.inr ⟨by omega, rfl, rfl⟩⟩)⟩

end
section
theorem GR.lt {J' J : zJ} {m m' t a b c : Int} (g : GR J' J m m') (ht : 0 ≤ t ∧ t < m) (ha : 0 < J 8 t → a < m') (hb : 1 < J 8 t → b < m') (hc : 2 < J 8 t → c < m') : ltA (arh (J' 3) (J' 7 t)) a b c m' := by
  have h1 := (g.2.1.2.1 t ht.1 (by have := g.1; omega)).1.1
  rw [← h1, (g.2.2.2.1.1 t ht.1 ht.2).2.1]
  exact ⟨ha, hb, hc⟩
end
section
/-- J' is J with its table grown from m to m' terms, and what it likes in the cells of X -/
def GX (X : List Nat) (J' J : zJ) (m m' : Int) : Prop := m ≤ m' ∧ CT J' m' ∧ J' 6 12 = m' ∧ zSU J' J m ∧ zOf (zbut (6 :: 7 :: 8 :: 9 :: 10 :: 11 :: 12 :: 13 :: 14 :: 15 :: 16 :: 17 :: X)) J' J
theorem zbut_sub {A B : List Nat} (h : ∀ c, c ∈ A → c ∈ B) : ∀ c, zbut B c = true → zbut A c = true := fun c hc => by
  simp only [zbut, Bool.not_eq_true', List.contains_eq_mem, decide_eq_false_iff_not] at hc ⊢
  exact fun q => hc (h c q)
theorem GX.rf {X : List Nat} {J : zJ} {m : Int} (C : CT J m) (hm : J 6 12 = m) : GX X J J m m := ⟨by omega, C, hm, zSU.rf, zOf.rf⟩
theorem GX.tr {X : List Nat} {J3 J2 J1 : zJ} {m1 m2 m3 : Int} (g : GX X J2 J1 m1 m2) (h : GX X J3 J2 m2 m3) : GX X J3 J1 m1 m3 := ⟨by have := g.1; have := h.1; omega, h.2.1, h.2.2.1, (h.2.2.2.1.cut g.1).tr g.2.2.2.1, h.2.2.2.2.tr g.2.2.2.2⟩
theorem GX.mono {X Y : List Nat} {J' J : zJ} {m m' : Int} (g : GX X J' J m m') (h : ∀ c, c ∈ X → c ∈ Y) : GX Y J' J m m' := ⟨g.1, g.2.1, g.2.2.1, g.2.2.2.1, g.2.2.2.2.mono (zbut_sub (fun c hc => by
  simp only [List.mem_cons] at hc ⊢
  rcases hc with h1 | h1 | h1 | h1 | h1 | h1 | h1 | h1 | h1 | h1 | h1 | h1 | h1 <;> first | (subst h1; simp; done) | simp [h c h1]))⟩
theorem GR.x {X : List Nat} {J' J : zJ} {m m' : Int} (g : GR J' J m m') : GX X J' J m m' := ⟨g.1, g.2.1, g.2.2.1, g.2.2.2.1, g.2.2.2.2.mono (zbut_sub (fun c hc => by
  simp only [List.mem_cons, List.not_mem_nil, or_false] at hc ⊢
  rcases hc with h1 | h1 | h1 | h1 | h1 | h1 | h1 | h1 | h1 | h1 | h1 | h1 <;> simp [h1]))⟩
/-- writes to cells of X alone -/
theorem GX.off {X : List Nat} {J3 J2 J1 : zJ} {m m' : Int} (g : GX X J2 J1 m m') (hX : (X.all fun c => decide (17 < c)) = true) (f : zOf (zbut X) J3 J2) : GX X J3 J1 m m' := by
  have hn : ∀ c, c ≤ 17 → J3 c = J2 c := fun c hc => f c (by
    simp only [zbut, Bool.not_eq_true', List.contains_eq_mem, decide_eq_false_iff_not]
    intro q
    have := of_decide_eq_true (List.all_eq_true.mp hX c q)
    omega)
  have hs : ∀ k, zSU J3 J2 k := fun k => ⟨fun t _ _ => ⟨congrFun (hn 7 (by omega)) t, congrFun (hn 8 (by omega)) t, congrFun (hn 10 (by omega)) t, congrFun (hn 11 (by omega)) t, congrFun (hn 12 (by omega)) t, congrFun (hn 13 (by omega)) t, congrFun (hn 14 (by omega)) t, congrFun (hn 15 (by omega)) t⟩, fun k _ _ => congrFun (hn 9 (by omega)) k⟩
  refine ⟨g.1, g.2.1.of (fun c hc => hn c (by omega)), (congrFun (hn 6 (by omega)) 12).trans g.2.2.1, (hs _).tr g.2.2.2.1, zOf.tr (f.mono (zbut_sub (fun c hc => ?_))) g.2.2.2.2⟩
  simp [hc]
theorem GX.arg {X : List Nat} {J' J : zJ} {m m' t i : Int} (g : GX X J' J m m') (C : CT J m) (ht : 0 ≤ t ∧ t < m) (hi : 0 ≤ i ∧ i < J 8 t) : (0 ≤ J' 9 (t * 3 + i) ∧ J' 9 (t * 3 + i) < m) ∧ J' 9 (t * 3 + i) = J 9 (t * 3 + i) := by
  have ha := C.ar ht.1 ht.2
  have h1 := C.arg ht.1 ht.2 hi.1 hi.2
  rw [g.2.2.2.1.2 (t * 3 + i) (by omega) (by omega)]
  omega
theorem GX.row {X : List Nat} {J' J : zJ} {m m' f : Int} {r : Nat} (g : GX X J' J m m') (hr : zbut (6 :: 7 :: 8 :: 9 :: 10 :: 11 :: 12 :: 13 :: 14 :: 15 :: 16 :: 17 :: X) r = true) (h : rOK J r f m) : rOK J' r f m' := fun v a b => by
  rw [g.2.2.2.2 r hr]
  have := h v a b
  have := g.1
  omega
theorem GX.lt {X : List Nat} {J' J : zJ} {m m' t a b c : Int} (g : GX X J' J m m') (ht : 0 ≤ t ∧ t < m) (ha : 0 < J 8 t → a < m') (hb : 1 < J 8 t → b < m') (hc : 2 < J 8 t → c < m') : ltA (arh (J' 3) (J' 7 t)) a b c m' := by
  have h1 := (g.2.1.2.1 t ht.1 (by have := g.1; omega)).1.1
  rw [← h1, (g.2.2.2.1.1 t ht.1 ht.2).2.1]
  exact ⟨ha, hb, hc⟩
end
section
def cOK (J : zJ) (m : Int) : Prop := ∀ v, 0 ≤ v → v < 8 → J 142 v = -1 ∨ J 142 v = -3 ∨ (0 ≤ J 142 v ∧ J 142 v < m)
theorem cOK.gx {X : List Nat} {J' J : zJ} {m m' : Int} (h : cOK J m) (g : GX X J' J m m') (hx : zbut (6 :: 7 :: 8 :: 9 :: 10 :: 11 :: 12 :: 13 :: 14 :: 15 :: 16 :: 17 :: X) 142 = true) : cOK J' m' := fun v a b => by
  rw [g.2.2.2.2 142 hx]
  have := h v a b
  have := g.1
  omega
theorem cOK.up {J : zJ} {m v z : Int} (h : cOK J m) (hz : z = -3 ∨ (0 ≤ z ∧ z < m)) : cOK (zup J 142 v z) m := fun u a b => by
  by_cases e : u = v
  · rw [e, zup_at]; omega
  · rw [zup_ne e]; exact h u a b
end
section
/-- a couple that is there -/
def inC (J : zJ) (s t : Int) : Prop := ∃ i, (0 ≤ i ∧ i < J 141 4) ∧ J 143 i = s ∧ J 144 i = t
/-- down to k levels: a couple, or one symbol and so on -/
def cpl (J : zJ) : Nat → Int → Int → Prop
  | 0, _, _ => True
  | k + 1, s, t => inC J s t ∨ (0 ≤ J 7 s ∧ J 7 s = J 7 t ∧ ∀ i, 0 ≤ i → i < J 8 s → cpl J k (J 9 (s * 3 + i)) (J 9 (t * 3 + i)))
theorem cpl.mono {J' J : zJ} {m : Int} (C : CT J m) (h7 : ∀ t, 0 ≤ t → t < m → J' 7 t = J 7 t ∧ J' 8 t = J 8 t) (h9 : ∀ k, 0 ≤ k → k < m * 3 → J' 9 k = J 9 k) (hi : ∀ s t, inC J s t → inC J' s t) : ∀ (k : Nat) (s t : Int), (0 ≤ s ∧ s < m) → (0 ≤ t ∧ t < m) → cpl J k s t → cpl J' k s t
  | 0, _, _, _, _, _ => trivial
  | k + 1, s, t, hs, ht, h => by
    rcases h with h | ⟨h1, h2, h3⟩
    · exact Or.inl (hi s t h)
    · obtain ⟨es7, es8⟩ := h7 s hs.1 hs.2
      obtain ⟨et7, et8⟩ := h7 t ht.1 ht.2
      refine Or.inr ⟨by omega, by omega, fun i a b => ?_⟩
      rw [es8] at b
      have ha := (C.ar hs.1 hs.2).1
      have hb := C.arh hs ht h2
      have hc := C.arg hs.1 hs.2 a b
      have hd := C.arg ht.1 ht.2 a (by omega)
      rw [h9 (s * 3 + i) (by omega) (by omega), h9 (t * 3 + i) (by omega) (by omega)]
      exact cpl.mono C h7 h9 hi k _ _ (by omega) (by omega) (h3 i a b)
theorem cpl.gx {X : List Nat} {J' J : zJ} {m m' : Int} (C : CT J m) (g : GX X J' J m m') (hX : zbut (6 :: 7 :: 8 :: 9 :: 10 :: 11 :: 12 :: 13 :: 14 :: 15 :: 16 :: 17 :: X) 141 = true ∧ zbut (6 :: 7 :: 8 :: 9 :: 10 :: 11 :: 12 :: 13 :: 14 :: 15 :: 16 :: 17 :: X) 143 = true ∧ zbut (6 :: 7 :: 8 :: 9 :: 10 :: 11 :: 12 :: 13 :: 14 :: 15 :: 16 :: 17 :: X) 144 = true) {k : Nat} {s t : Int} (hs : 0 ≤ s ∧ s < m) (ht : 0 ≤ t ∧ t < m) (h : cpl J k s t) : cpl J' k s t := by
  refine cpl.mono C (fun t a b => ⟨(g.2.2.2.1.1 t a b).1, (g.2.2.2.1.1 t a b).2.1⟩) g.2.2.2.1.2 (fun s t q => ?_) k s t hs ht h
  obtain ⟨i, a, b⟩ := q
  exact ⟨i, by rw [g.2.2.2.2 141 hX.1]; exact a, by rw [g.2.2.2.2 143 hX.2.1, g.2.2.2.2 144 hX.2.2]; exact b⟩
/-- more couples -/
def mC (J' J : zJ) : Prop := (0 ≤ J' 141 4 ∧ J' 141 4 ≤ 8) ∧ zOf (zbut [141, 143, 144]) J' J ∧ ∀ s t, inC J s t → inC J' s t
theorem mC.tr {J3 J2 J1 : zJ} (h : mC J3 J2) (g : mC J2 J1) : mC J3 J1 := ⟨h.1, h.2.1.tr g.2.1, fun s t q => h.2.2 s t (g.2.2 s t q)⟩
theorem mC.cpl {J' J : zJ} {m : Int} (C : CT J m) (h : mC J' J) {k : Nat} {s t : Int} (hs : 0 ≤ s ∧ s < m) (ht : 0 ≤ t ∧ t < m) (q : cpl J k s t) : cpl J' k s t :=
  cpl.mono C (fun t _ _ => ⟨congrFun (h.2.1 7 rfl) t, congrFun (h.2.1 8 rfl) t⟩) (fun k _ _ => congrFun (h.2.1 9 rfl) k) h.2.2 k s t hs ht q
theorem mC.add {J : zJ} {s t : Int} (h0 : 0 ≤ J 141 4 ∧ J 141 4 < 8) : mC (zup (zup (zup J 143 (J 141 4) s) 144 (J 141 4) t) 141 4 (J 141 4 + 1)) J ∧ inC (zup (zup (zup J 143 (J 141 4) s) 144 (J 141 4) t) 141 4 (J 141 4 + 1)) s t := by
  have e4 : zup (zup (zup J 143 (J 141 4) s) 144 (J 141 4) t) 141 4 (J 141 4 + 1) 141 4 = J 141 4 + 1 := zup_at
  have e3 : ∀ i, zup (zup (zup J 143 (J 141 4) s) 144 (J 141 4) t) 141 4 (J 141 4 + 1) 143 i = if i = J 141 4 then s else J 143 i := fun i => rfl
  have e2 : ∀ i, zup (zup (zup J 143 (J 141 4) s) 144 (J 141 4) t) 141 4 (J 141 4 + 1) 144 i = if i = J 141 4 then t else J 144 i := fun i => rfl
  refine ⟨⟨by rw [e4]; omega, zOf.up rfl (zOf.up rfl (zOf.up rfl zOf.rf)), fun s9 t9 q => ?_⟩, ⟨J 141 4, by rw [e4]; omega, by rw [e3, if_pos rfl], by rw [e2, if_pos rfl]⟩⟩
  obtain ⟨i, a, b, c⟩ := q
  exact ⟨i, by rw [e4]; omega, by rw [e3, if_neg (by omega)]; exact b, by rw [e2, if_neg (by omega)]; exact c⟩
theorem mC.ac {J J' : zJ} {s t z : Int} (h0 : 0 ≤ J 141 4 ∧ J 141 4 ≤ 8) (h : ((∃ i, (0 ≤ i ∧ i < J 141 4) ∧ J 143 i = s ∧ J 144 i = t) ∧ z = 1 ∧ J = J') ∨ ((∀ i, 0 ≤ i → i < J 141 4 → ¬ (J 143 i = s ∧ J 144 i = t)) ∧ ((J 141 4 = 8 ∧ z = 0 ∧ J = J') ∨ (J 141 4 < 8 ∧ z = 1 ∧ zup (zup (zup J 143 (J 141 4) s) 144 (J 141 4) t) 141 4 (J 141 4 + 1) = J')))) : mC J' J ∧ (z = 0 ∨ z = 1) ∧ (z = 1 → inC J' s t) := by
  rcases h with ⟨q, hz, rfl⟩ | ⟨-, ⟨h8, hz, rfl⟩ | ⟨h8, hz, rfl⟩⟩
  · exact ⟨⟨h0, zOf.rf, fun _ _ q => q⟩, Or.inr hz, fun _ => q⟩
  · exact ⟨⟨h0, zOf.rf, fun _ _ q => q⟩, Or.inl hz, fun e => by omega⟩
  · have := mC.add (J := J) (s := s) (t := t) (by omega)
    exact ⟨this.1, Or.inr hz, fun _ => this.2⟩
theorem cpl.s {J : zJ} {k : Int} {s t : Int} (hk : 1 ≤ k) (h : inC J s t ∨ (0 ≤ J 7 s ∧ J 7 s = J 7 t ∧ ∀ i, 0 ≤ i → i < J 8 s → cpl J (k - 1).toNat (J 9 (s * 3 + i)) (J 9 (t * 3 + i)))) : cpl J k.toNat s t := by
  have : k.toNat = (k - 1).toNat + 1 := by omega
  rw [this]
  exact h
theorem cpl.nx {J : zJ} {k : Int} {s t : Int} (hk : 1 ≤ k) (h : cpl J k.toNat s t) (hn : ¬ inC J s t) : 0 ≤ J 7 s ∧ J 7 s = J 7 t ∧ ∀ i, 0 ≤ i → i < J 8 s → cpl J (k - 1).toNat (J 9 (s * 3 + i)) (J 9 (t * 3 + i)) := by
  have : k.toNat = (k - 1).toNat + 1 := by omega
  rw [this] at h
  exact h.elim (fun q => absurd q hn) id
end
section
/-! ===== the unifier: a node is a term on one of two sides ===== -/
def nd (b m x : Int) : Prop := (0 ≤ x ∧ x < m) ∨ (b = 400 ∧ 400 ≤ x ∧ x < 400 + m)
def tm (x : Int) : Int := if x < 400 then x else x - 400
def sd (x : Int) : Int := if x < 400 then 0 else 400
theorem nd.ix {b m x : Int} (h : nd b m x) (hm : 0 ≤ m ∧ m ≤ 400) : 0 ≤ tm x ∧ tm x < m := by
  unfold tm
  unfold nd at h
  split <;> omega
theorem nd.rg {b m x : Int} (h : nd b m x) (hm : 0 ≤ m ∧ m ≤ 400) : 0 ≤ x ∧ x < 800 := by
  unfold nd at h
  omega
theorem nd.part {b m x y : Int} (h : nd b m x) (hm : 0 ≤ m ∧ m ≤ 400) (hy : 0 ≤ y ∧ y < m) : nd b m (y + sd x) := by
  unfold nd at h ⊢
  unfold sd
  split <;> omega
theorem sd_rg (x : Int) : 0 ≤ sd x ∧ sd x ≤ 400 := by unfold sd; split <;> omega
theorem nd.mono {b m m' x : Int} (h : nd b m x) (hm : m ≤ m') : nd b m' x := by
  unfold nd at h ⊢
  omega
def UN (J : zJ) (b m x : Int) : Prop := nd b m x ∧ (nd b m (J 147 x) ∧ J 146 (J 147 x) = J 145 10) ∧ (J 148 x = -1 ∨ nd b m (J 148 x)) ∧ nd b m (J 149 x) ∧ (J 150 x = -1 ∨ J 150 x = -3 ∨ (0 ≤ J 150 x ∧ J 150 x < m))
def UI (J : zJ) (b m : Int) : Prop := ∀ x, 0 ≤ x → x < 800 → J 146 x ≤ J 145 10 ∧ (J 146 x = J 145 10 → UN J b m x)
def UW (J' J : zJ) (b m : Int) : Prop := UI J' b m ∧ J' 145 10 = J 145 10 ∧ ∀ x, J 146 x = J 145 10 → J' 146 x = J 145 10
theorem UW.rf {J : zJ} {b m : Int} (h : UI J b m) : UW J J b m := ⟨h, rfl, fun _ q => q⟩
theorem UW.tr {J3 J2 J1 : zJ} {b m m1 : Int} (h : UW J3 J2 b m) (g : UW J2 J1 b m1) : UW J3 J1 b m := ⟨h.1, h.2.1.trans g.2.1, fun x q => by rw [← g.2.1]; exact h.2.2 x (by rw [g.2.1]; exact g.2.2 x q)⟩
theorem UN.cg {J' J : zJ} {b m m' x : Int} (h : UN J b m x) (hm : m ≤ m') (e0 : J' 145 10 = J 145 10) (e6 : J' 146 = J 146) (e7 : J' 147 x = J 147 x) (e8 : J' 148 x = J 148 x) (e9 : J' 149 x = J 149 x) (e5 : J' 150 x = J 150 x) : UN J' b m' x := by
  obtain ⟨h1, h2, h3, h4, h5⟩ := h
  unfold UN
  rw [e0, e6, e7, e8, e9, e5]
  exact ⟨h1.mono hm, ⟨h2.1.mono hm, h2.2⟩, h3.imp id (fun q => q.mono hm), h4.mono hm, by omega⟩
theorem UI.of {J' J : zJ} {b m m' : Int} (h : UI J b m) (hm : m ≤ m') (e0 : J' 145 10 = J 145 10) (e : ∀ c, 146 ≤ c ∧ c ≤ 150 → J' c = J c) : UI J' b m' := fun x a c => by
  have e6 := e 146 (by omega)
  obtain ⟨h1, h2⟩ := h x a c
  rw [e0, e6]
  exact ⟨h1, fun q => (h2 q).cg hm e0 e6 (congrFun (e 147 (by omega)) x) (congrFun (e 148 (by omega)) x) (congrFun (e 149 (by omega)) x) (congrFun (e 150 (by omega)) x)⟩
theorem UW.of {J2 J1 J : zJ} {b m m' : Int} (h : UW J1 J b m) (hm : m ≤ m') (e0 : J2 145 10 = J1 145 10) (e : ∀ c, 146 ≤ c ∧ c ≤ 150 → J2 c = J1 c) : UW J2 J b m' := ⟨h.1.of hm e0 e, e0.trans h.2.1, fun x q => by rw [e 146 (by omega)]; exact h.2.2 x q⟩
/-- a node is waked -/
theorem UI.wake {J : zJ} {b m x sv : Int} (h : UI J b m) (hx : nd b m x) (hs : sv = -1 ∨ sv = x) : UW (zup (zup (zup (zup (zup (zup J 146 x (J 145 10)) 147 x x) 148 x sv) 149 x x) 150 x (-1)) 154 x (-1)) J b m ∧ zup (zup (zup (zup (zup (zup J 146 x (J 145 10)) 147 x x) 148 x sv) 149 x x) 150 x (-1)) 154 x (-1) 146 x = J 145 10 := by
  have e6 : ∀ k, zup (zup (zup (zup (zup (zup J 146 x (J 145 10)) 147 x x) 148 x sv) 149 x x) 150 x (-1)) 154 x (-1) 146 k = if k = x then J 145 10 else J 146 k := fun k => rfl
  have e7 : ∀ k, zup (zup (zup (zup (zup (zup J 146 x (J 145 10)) 147 x x) 148 x sv) 149 x x) 150 x (-1)) 154 x (-1) 147 k = if k = x then x else J 147 k := fun k => rfl
  have e8 : ∀ k, zup (zup (zup (zup (zup (zup J 146 x (J 145 10)) 147 x x) 148 x sv) 149 x x) 150 x (-1)) 154 x (-1) 148 k = if k = x then sv else J 148 k := fun k => rfl
  have e9 : ∀ k, zup (zup (zup (zup (zup (zup J 146 x (J 145 10)) 147 x x) 148 x sv) 149 x x) 150 x (-1)) 154 x (-1) 149 k = if k = x then x else J 149 k := fun k => rfl
  have e5 : ∀ k, zup (zup (zup (zup (zup (zup J 146 x (J 145 10)) 147 x x) 148 x sv) 149 x x) 150 x (-1)) 154 x (-1) 150 k = if k = x then -1 else J 150 k := fun k => rfl
  have e0 : zup (zup (zup (zup (zup (zup J 146 x (J 145 10)) 147 x x) 148 x sv) 149 x x) 150 x (-1)) 154 x (-1) 145 10 = J 145 10 := rfl
  generalize zup (zup (zup (zup (zup (zup J 146 x (J 145 10)) 147 x x) 148 x sv) 149 x x) 150 x (-1)) 154 x (-1) = J9 at *
  have hw : ∀ k, J 146 k = J 145 10 → J9 146 k = J 145 10 := fun k q => by
    rw [e6]
    split
    · rfl
    · exact q
  refine ⟨⟨fun k a c => ?_, e0, hw⟩, by rw [e6, if_pos rfl]⟩
  rw [e0]
  by_cases e : k = x
  · subst e
    rw [e6, if_pos rfl]
    refine ⟨by omega, fun _ => ?_⟩
    unfold UN
    rw [e7, e8, e9, e5, if_pos rfl, if_pos rfl, if_pos rfl, if_pos rfl, e6, if_pos rfl, e0]
    refine ⟨hx, ⟨hx, rfl⟩, ?_, hx, Or.inl rfl⟩
    rcases hs with hs | hs
    · exact Or.inl hs
    · exact Or.inr (by rw [hs]; exact hx)
  · rw [e6, if_neg e]
    obtain ⟨h1, h2⟩ := h k a c
    refine ⟨h1, fun q => ?_⟩
    obtain ⟨g1, g2, g3, g4, g5⟩ := h2 q
    unfold UN
    rw [e7, e8, e9, e5, if_neg e, if_neg e, if_neg e, if_neg e, e0]
    exact ⟨g1, ⟨g2.1, hw _ g2.2⟩, g3, g4, g5⟩
theorem UI.p7 {J : zJ} {b m x v : Int} (h : UI J b m) (hv : nd b m v) (ha : J 146 v = J 145 10) : UI (zup J 147 x v) b m := fun k a c => by
  refine ⟨(h k a c).1, fun q => ?_⟩
  obtain ⟨g1, g2, g3, g4, g5⟩ := (h k a c).2 q
  refine ⟨g1, ?_, g3, g4, g5⟩
  have e7 : zup J 147 x v 147 k = if k = x then v else J 147 k := rfl
  rw [e7]
  show (nd b m _ ∧ J 146 _ = J 145 10)
  split
  · exact ⟨hv, ha⟩
  · exact g2
theorem UI.p8 {J : zJ} {b m x v : Int} (h : UI J b m) (hv : v = -1 ∨ nd b m v) : UI (zup J 148 x v) b m := fun k a c => by
  refine ⟨(h k a c).1, fun q => ?_⟩
  obtain ⟨g1, g2, g3, g4, g5⟩ := (h k a c).2 q
  refine ⟨g1, g2, ?_, g4, g5⟩
  have e7 : zup J 148 x v 148 k = if k = x then v else J 148 k := rfl
  rw [e7]
  split
  · exact hv
  · exact g3
theorem UI.p9 {J : zJ} {b m x v : Int} (h : UI J b m) (hv : nd b m v) : UI (zup J 149 x v) b m := fun k a c => by
  refine ⟨(h k a c).1, fun q => ?_⟩
  obtain ⟨g1, g2, g3, g4, g5⟩ := (h k a c).2 q
  refine ⟨g1, g2, g3, ?_, g5⟩
  have e7 : zup J 149 x v 149 k = if k = x then v else J 149 k := rfl
  rw [e7]
  split
  · exact hv
  · exact g4
theorem UI.p5 {J : zJ} {b m x v : Int} (h : UI J b m) (hv : v = -1 ∨ v = -3 ∨ (0 ≤ v ∧ v < m)) : UI (zup J 150 x v) b m := fun k a c => by
  refine ⟨(h k a c).1, fun q => ?_⟩
  obtain ⟨g1, g2, g3, g4, g5⟩ := (h k a c).2 q
  refine ⟨g1, g2, g3, g4, ?_⟩
  have e7 : zup J 150 x v 150 k = if k = x then v else J 150 k := rfl
  rw [e7]
  split
  · exact hv
  · exact g5
theorem UW.p7 {J1 J : zJ} {b m x v : Int} (h : UW J1 J b m) (hv : nd b m v) (ha : J1 146 v = J 145 10) : UW (zup J1 147 x v) J b m := ⟨h.1.p7 hv (by rw [h.2.1]; exact ha), h.2.1, h.2.2⟩
theorem UW.p8 {J1 J : zJ} {b m x v : Int} (h : UW J1 J b m) (hv : v = -1 ∨ nd b m v) : UW (zup J1 148 x v) J b m := ⟨h.1.p8 hv, h.2.1, h.2.2⟩
theorem UW.p9 {J1 J : zJ} {b m x v : Int} (h : UW J1 J b m) (hv : nd b m v) : UW (zup J1 149 x v) J b m := ⟨h.1.p9 hv, h.2.1, h.2.2⟩
theorem UW.p5 {J1 J : zJ} {b m x v : Int} (h : UW J1 J b m) (hv : v = -1 ∨ v = -3 ∨ (0 ≤ v ∧ v < m)) : UW (zup J1 150 x v) J b m := ⟨h.1.p5 hv, h.2.1, h.2.2⟩
theorem UW.at {J1 J : zJ} {b m x : Int} (h : UW J1 J b m) (hm : 0 ≤ m ∧ m ≤ 400) (hx : nd b m x) (ha : J1 146 x = J 145 10) : UN J1 b m x := (h.1 x (hx.rg hm).1 (hx.rg hm).2).2 (by rw [h.2.1]; exact ha)
/-- the pairs that wait -/
def PI (J : zJ) (b m : Int) : Prop := (0 ≤ J 145 11 ∧ J 145 11 ≤ 2401) ∧ ∀ k, 0 ≤ k → k < J 145 11 → nd b m (J 151 k) ∧ nd b m (J 152 k)
theorem PI.of {J' J : zJ} {b m : Int} (h : PI J b m) (e5 : J' 145 11 = J 145 11) (e1 : J' 151 = J 151) (e2 : J' 152 = J 152) : PI J' b m := by
  unfold PI
  rw [e5, e1, e2]
  exact h
theorem PI.push {J : zJ} {b m x y : Int} (h : PI J b m) (hx : nd b m x) (hy : nd b m y) (h9 : J 145 11 < 2401) : PI (zup (zup (zup J 151 (J 145 11) x) 152 (J 145 11) y) 145 11 (J 145 11 + 1)) b m := by
  have e0 : zup (zup (zup J 151 (J 145 11) x) 152 (J 145 11) y) 145 11 (J 145 11 + 1) 145 11 = J 145 11 + 1 := zup_at
  have e1 : ∀ k, zup (zup (zup J 151 (J 145 11) x) 152 (J 145 11) y) 145 11 (J 145 11 + 1) 151 k = if k = J 145 11 then x else J 151 k := fun k => rfl
  have e2 : ∀ k, zup (zup (zup J 151 (J 145 11) x) 152 (J 145 11) y) 145 11 (J 145 11 + 1) 152 k = if k = J 145 11 then y else J 152 k := fun k => rfl
  unfold PI
  refine ⟨by rw [e0]; have := h.1; omega, fun k a c => ?_⟩
  rw [e0] at c
  rw [e1, e2]
  by_cases e : k = J 145 11
  · rw [if_pos e, if_pos e]
    exact ⟨hx, hy⟩
  · rw [if_neg e, if_neg e]
    exact h.2 k a (by omega)
/-- what is listed -/
def lsI (J1 J : zJ) (b m f : Int) : Prop := (0 ≤ f ∧ f ≤ 800) ∧ ∀ k, 0 ≤ k → k < f → nd b m (J1 153 k) ∧ J1 146 (J1 153 k) = J 145 10
theorem lsI.of {J2 J1 J : zJ} {b m f : Int} (h : lsI J1 J b m f) (e3 : J2 153 = J1 153) (e6 : ∀ x, J1 146 x = J 145 10 → J2 146 x = J 145 10) : lsI J2 J b m f := ⟨h.1, fun k a c => by rw [e3]; exact ⟨(h.2 k a c).1, e6 _ (h.2 k a c).2⟩⟩
theorem lsI.push {J1 J : zJ} {b m f z : Int} (h : lsI J1 J b m f) (hf : f < 800) (hz : nd b m z) (ha : J1 146 z = J 145 10) : lsI (zup J1 153 f z) J b m (f + 1) := by
  refine ⟨by have := h.1; omega, fun k a c => ?_⟩
  have e3 : zup J1 153 f z 153 k = if k = f then z else J1 153 k := rfl
  rw [e3]
  show nd b m _ ∧ J1 146 _ = J 145 10
  by_cases e : k = f
  · rw [if_pos e]
    exact ⟨hz, ha⟩
  · rw [if_neg e]
    exact h.2 k a (by omega)
/-- at rest -/
def RU (J : zJ) : Prop := 0 ≤ J 145 10 ∧ ∀ x, 0 ≤ x → x < 800 → J 146 x ≤ J 145 10
theorem RU.start {J J' : zJ} (h : RU J) {b m : Int} (e0 : J' 145 10 = J 145 10 + 1) (e6 : J' 146 = J 146) : UI J' b m := fun x a c => by
  have := h.2 x a c
  rw [e0, e6]
  exact ⟨by omega, fun q => by omega⟩
theorem UI.rest {J : zJ} {b m : Int} (h : UI J b m) (h0 : 0 ≤ J 145 10) : RU J := ⟨h0, fun x a c => (h x a c).1⟩
theorem RU.of {J' J : zJ} (h : RU J) (e5 : J' 145 = J 145) (e6 : J' 146 = J 146) : RU J' := by
  unfold RU
  rw [e5, e6]
  exact h
end
