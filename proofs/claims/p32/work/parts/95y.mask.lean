section
/-! ===== the reference: a question leaves what is told alone ===== -/
set_option maxHeartbeats 4000000 in
set_option maxRecDepth 100000 in
theorem k_fault {l : Launch} {G : tb_G} (hl : l.stackTraces = false) (n : Nat) (J : zJ)   (m : Int) (pn : Int) (RR : Int → Int → Int) (hI : MI J m) (u9 : MUr J pn RR)  : tz_Ok l G M_X12_fault 0 0 0 [.ref 164] n J (zqi (fun z J' => MQr J' J ∧ MFI J' J ∧ MBT J' (tbz J) ∧ MUr J' pn RR ∧ J 164 20 = z)) zN := by
  refine tz_Ok.of hl (by decide +kernel) rfl (tb_c1 rfl) (Nat.le_of_ble_eq_true rfl) ?_
  show tz_At l G M_X12_fault (tb_rm 0 0 0) none (tb_ZM G 0 0 (zQ n 0 (zqi (fun z J' => MQr J' J ∧ MFI J' J ∧ MBT J' (tbz J) ∧ MUr J' pn RR ∧ J 164 20 = z))) (zX n 0 zN)) 0 0 n J 0 [some (.ref 164)] []
  have hT := hI.told
  have hW := hI.row
  have hM := hI.1
  have hL := hI.2.1
  refine tz_aload_n (pc := 0) dX12_fault_0 rfl rfl ?_
  refine tz_iconst (pc := 1) dX12_fault_1 ?_
  refine tz_pI (pc := 2) (kz := 8) dX12_fault_2 fl_X12_68 i_164_8 rfl rfl (by decide) ?_
  refine tz_aload_n (pc := 5) dX12_fault_5 rfl rfl ?_
  refine tz_fI (pc := 6) (kz := 20) (v := (J 164 20)) dX12_fault_6 fl_X12_37 i_164_20 rfl rfl (fun r_6 => ?_)
  exact tz_iret (pc := 9) (z := (J 164 20)) dX12_fault_9 rfl (Nat.le_of_ble_eq_true rfl) (Nat.le_of_ble_eq_true rfl) ⟨Nat.le_refl _, Nat.le_add_right _ _⟩ ⟨_, rfl, (by omega), ⟨MQr.z hI (MZ.up (k := 8) MZ.rf (by decide)), MFI.z (MZ.up (k := 8) MZ.rf (by decide)), MBT.z hI (MZ.up (k := 8) MZ.rf (by decide)), u9.z (MZ.up (k := 8) MZ.rf (by decide)), rfl⟩⟩

set_option maxHeartbeats 4000000 in
set_option maxRecDepth 100000 in
theorem k_count {l : Launch} {G : tb_G} (hl : l.stackTraces = false) (n : Nat) (J : zJ) (x : Int) (hr_x : -2147483648 ≤ x ∧ x < 2147483648) (m : Int) (pn : Int) (RR : Int → Int → Int) (hI : MI J m) (u9 : MUr J pn RR)  : tz_Ok l G M_X12_count 810 0 0 [.ref 164, zi x] n J (zqi (fun z J' => MQr J' J ∧ MFI J' J ∧ MBT J' (tbz J) ∧ MUr J' pn RR)) zN := by
  refine tz_Ok.of hl (by decide +kernel) rfl (tb_c1 rfl) (Nat.le_of_ble_eq_true rfl) ?_
  show tz_At l G M_X12_count (tb_rm 810 0 0) none (tb_ZM G 0 0 (zQ n 0 (zqi (fun z J' => MQr J' J ∧ MFI J' J ∧ MBT J' (tbz J) ∧ MUr J' pn RR))) (zX n 0 zN)) 0 0 n J 0 [some (.ref 164), some (zi x)] []
  have hT := hI.told
  have hW := hI.row
  have hM := hI.1
  have hL := hI.2.1
  refine tz_aload_n (pc := 0) dX12_count_0 rfl rfl ?_
  refine tz_iconst (pc := 1) dX12_count_1 ?_
  refine tz_pI (pc := 2) (kz := 8) dX12_count_2 fl_X12_68 i_164_8 rfl rfl (by decide) ?_
  refine tz_aload_n (pc := 5) dX12_count_5 rfl rfl ?_
  refine tz_iload_n (pc := 6) dX12_count_6 rfl rfl ?_
  refine tz_iconst (pc := 7) dX12_count_7 ?_
  refine tz_bipush (pc := 8) dX12_count_8 (by decide) ?_
  refine tz_cS (pc := 10) (m_within hl n _ _ _ _ (by omega) (by decide) (by decide)) sl_X12_283 dX12_count_10 rfl rfl (Nat.le_of_ble_eq_true rfl) ⟨(Nat.le_of_ble_eq_true rfl), (Nat.le_of_ble_eq_true rfl)⟩ rfl rfl (Nat.le_of_ble_eq_true rfl) (Nat.le_of_ble_eq_true rfl) (fun r9 J_10 hq9 => ?_)
  obtain ⟨z_10, rfl, hz_10, rfl, hw_10⟩ := hq9
  refine tz_iconst (pc := 13) dX12_count_13 ?_
  refine tz_cV (pc := 14) (m_right hl n _ _ _ (by omega) (by decide) (by decide)) vl_X12_334 dX12_count_14 o_164 rfl rfl (Nat.le_of_ble_eq_true rfl) ⟨(Nat.le_of_ble_eq_true rfl), (Nat.le_of_ble_eq_true rfl)⟩ rfl rfl (Nat.le_of_ble_eq_true rfl) (Nat.le_of_ble_eq_true rfl) (fun r9 J_14 hq9 => ?_)
  obtain ⟨z_14, rfl, hz_14, f_14, b_14, c_14⟩ := hq9
  have x_14 : MZ J_14 (zup J 164 8 0) := MZ.f f_14 (by decide) (by decide)
  have y_14 := MZ.tr (MZ.up (k := 8) MZ.rf (by decide)) x_14
  have e_14 : z_14 = 1 → ¬ z_10 = 0 := fun q9 => (c_14 q9).2.2.resolve_right (by decide)
  refine tz_if_ne (pc := 17) (tgt := 22) dX12_count_17 (by decide) (by omega) (fun h_17 => ?_) (fun h_17 => ?_)
  · refine tz_iload_n (pc := 22) dX12_count_22 rfl rfl ?_
    by_cases hs_23 : x < 0 ∨ 12 < x
    · refine tz_tabOut (pc := 23) (tgt := 179) dX12_count_23 (by omega) hs_23 (by decide) ?_
      refine tz_aload_n (pc := 179) dX12_count_179 rfl rfl ?_
      refine tz_fR (pc := 180) dX12_count_180 fl_X12_31 r_164_7 ?_
      refine tz_iload_n (pc := 183) dX12_count_183 rfl rfl ?_
      refine tz_bipush (pc := 184) dX12_count_184 (by decide) ?_
      refine tz_isub (pc := 186) (v := x - 13) dX12_count_186 rfl ?_
      refine tz_aL (pc := 187) (z := (x - 13)) (v := (J_14 172 (x - 13))) dX12_count_187 a_172 rfl (by omega) rfl (fun r_187 => ?_)
      exact tz_iret (pc := 188) (z := (J_14 172 (x - 13))) dX12_count_188 rfl (Nat.le_of_ble_eq_true rfl) (Nat.le_of_ble_eq_true rfl) ⟨Nat.le_refl _, Nat.le_add_right _ _⟩ ⟨_, rfl, (by omega), ⟨MQr.z hI y_14, MFI.z y_14, MBT.z hI y_14, u9.z y_14⟩⟩
    · have hs9 : x = 0 ∨ x = 1 ∨ x = 2 ∨ x = 3 ∨ x = 4 ∨ x = 5 ∨ x = 6 ∨ x = 7 ∨ x = 8 ∨ x = 9 ∨ x = 10 ∨ x = 11 ∨ x = 12 := by omega
      rcases hs9 with hc_23 | hc_23 | hc_23 | hc_23 | hc_23 | hc_23 | hc_23 | hc_23 | hc_23 | hc_23 | hc_23 | hc_23 | hc_23
      · refine tz_tabIn (pc := 23) (tgt := 88) 0 dX12_count_23 hc_23 (by decide) rfl (by decide) ?_
        refine tz_aload_n (pc := 88) dX12_count_88 rfl rfl ?_
        refine tz_fI (pc := 89) (kz := 9) (v := (J 164 9)) dX12_count_89 fl_X12_347 i_164_9 rfl (Eq.trans (x_14.2 9 (by decide) (by decide)) rfl) (fun r_89 => ?_)
        exact tz_iret (pc := 92) (z := (J 164 9)) dX12_count_92 rfl (Nat.le_of_ble_eq_true rfl) (Nat.le_of_ble_eq_true rfl) ⟨Nat.le_refl _, Nat.le_add_right _ _⟩ ⟨_, rfl, (by omega), ⟨MQr.z hI y_14, MFI.z y_14, MBT.z hI y_14, u9.z y_14⟩⟩
      · refine tz_tabIn (pc := 23) (tgt := 93) 1 dX12_count_23 hc_23 (by decide) rfl (by decide) ?_
        refine tz_aload_n (pc := 93) dX12_count_93 rfl rfl ?_
        refine tz_fR (pc := 94) dX12_count_94 fl_X12_9 r_164_0 ?_
        refine tz_iconst (pc := 97) dX12_count_97 ?_
        refine tz_aL (pc := 98) (z := 0) (v := (J 165 0)) dX12_count_98 a_165 rfl (by decide) (Eq.trans (congrFun (x_14.1 165 rfl) 0) rfl) (fun r_98 => ?_)
        exact tz_iret (pc := 99) (z := (J 165 0)) dX12_count_99 rfl (Nat.le_of_ble_eq_true rfl) (Nat.le_of_ble_eq_true rfl) ⟨Nat.le_refl _, Nat.le_add_right _ _⟩ ⟨_, rfl, (by omega), ⟨MQr.z hI y_14, MFI.z y_14, MBT.z hI y_14, u9.z y_14⟩⟩
      · refine tz_tabIn (pc := 23) (tgt := 100) 2 dX12_count_23 hc_23 (by decide) rfl (by decide) ?_
        refine tz_aload_n (pc := 100) dX12_count_100 rfl rfl ?_
        refine tz_fR (pc := 101) dX12_count_101 fl_X12_9 r_164_0 ?_
        refine tz_bipush (pc := 104) dX12_count_104 (by decide) ?_
        refine tz_aL (pc := 106) (z := 9) (v := (J 165 9)) dX12_count_106 a_165 rfl (by decide) (Eq.trans (congrFun (x_14.1 165 rfl) 9) rfl) (fun r_106 => ?_)
        exact tz_iret (pc := 107) (z := (J 165 9)) dX12_count_107 rfl (Nat.le_of_ble_eq_true rfl) (Nat.le_of_ble_eq_true rfl) ⟨Nat.le_refl _, Nat.le_add_right _ _⟩ ⟨_, rfl, (by omega), ⟨MQr.z hI y_14, MFI.z y_14, MBT.z hI y_14, u9.z y_14⟩⟩
      · refine tz_tabIn (pc := 23) (tgt := 108) 3 dX12_count_23 hc_23 (by decide) rfl (by decide) ?_
        refine tz_aload_n (pc := 108) dX12_count_108 rfl rfl ?_
        refine tz_fR (pc := 109) dX12_count_109 fl_X12_9 r_164_0 ?_
        refine tz_bipush (pc := 112) dX12_count_112 (by decide) ?_
        refine tz_aL (pc := 114) (z := 26) (v := (J 165 26)) dX12_count_114 a_165 rfl (by decide) (Eq.trans (congrFun (x_14.1 165 rfl) 26) rfl) (fun r_114 => ?_)
        exact tz_iret (pc := 115) (z := (J 165 26)) dX12_count_115 rfl (Nat.le_of_ble_eq_true rfl) (Nat.le_of_ble_eq_true rfl) ⟨Nat.le_refl _, Nat.le_add_right _ _⟩ ⟨_, rfl, (by omega), ⟨MQr.z hI y_14, MFI.z y_14, MBT.z hI y_14, u9.z y_14⟩⟩
      · refine tz_tabIn (pc := 23) (tgt := 116) 4 dX12_count_23 hc_23 (by decide) rfl (by decide) ?_
        refine tz_aload_n (pc := 116) dX12_count_116 rfl rfl ?_
        refine tz_fR (pc := 117) dX12_count_117 fl_X12_9 r_164_0 ?_
        refine tz_bipush (pc := 120) dX12_count_120 (by decide) ?_
        refine tz_aL (pc := 122) (z := 39) (v := (J 165 39)) dX12_count_122 a_165 rfl (by decide) (Eq.trans (congrFun (x_14.1 165 rfl) 39) rfl) (fun r_122 => ?_)
        exact tz_iret (pc := 123) (z := (J 165 39)) dX12_count_123 rfl (Nat.le_of_ble_eq_true rfl) (Nat.le_of_ble_eq_true rfl) ⟨Nat.le_refl _, Nat.le_add_right _ _⟩ ⟨_, rfl, (by omega), ⟨MQr.z hI y_14, MFI.z y_14, MBT.z hI y_14, u9.z y_14⟩⟩
      · refine tz_tabIn (pc := 23) (tgt := 124) 5 dX12_count_23 hc_23 (by decide) rfl (by decide) ?_
        refine tz_aload_n (pc := 124) dX12_count_124 rfl rfl ?_
        refine tz_fR (pc := 125) dX12_count_125 fl_X12_9 r_164_0 ?_
        refine tz_bipush (pc := 128) dX12_count_128 (by decide) ?_
        refine tz_aL (pc := 130) (z := 40) (v := (J 165 40)) dX12_count_130 a_165 rfl (by decide) (Eq.trans (congrFun (x_14.1 165 rfl) 40) rfl) (fun r_130 => ?_)
        exact tz_iret (pc := 131) (z := (J 165 40)) dX12_count_131 rfl (Nat.le_of_ble_eq_true rfl) (Nat.le_of_ble_eq_true rfl) ⟨Nat.le_refl _, Nat.le_add_right _ _⟩ ⟨_, rfl, (by omega), ⟨MQr.z hI y_14, MFI.z y_14, MBT.z hI y_14, u9.z y_14⟩⟩
      · refine tz_tabIn (pc := 23) (tgt := 132) 6 dX12_count_23 hc_23 (by decide) rfl (by decide) ?_
        refine tz_aload_n (pc := 132) dX12_count_132 rfl rfl ?_
        refine tz_fR (pc := 133) dX12_count_133 fl_X12_9 r_164_0 ?_
        refine tz_bipush (pc := 136) dX12_count_136 (by decide) ?_
        refine tz_aL (pc := 138) (z := 61) (v := (J 165 61)) dX12_count_138 a_165 rfl (by decide) (Eq.trans (congrFun (x_14.1 165 rfl) 61) rfl) (fun r_138 => ?_)
        exact tz_iret (pc := 139) (z := (J 165 61)) dX12_count_139 rfl (Nat.le_of_ble_eq_true rfl) (Nat.le_of_ble_eq_true rfl) ⟨Nat.le_refl _, Nat.le_add_right _ _⟩ ⟨_, rfl, (by omega), ⟨MQr.z hI y_14, MFI.z y_14, MBT.z hI y_14, u9.z y_14⟩⟩
      · refine tz_tabIn (pc := 23) (tgt := 140) 7 dX12_count_23 hc_23 (by decide) rfl (by decide) ?_
        refine tz_aload_n (pc := 140) dX12_count_140 rfl rfl ?_
        refine tz_fR (pc := 141) dX12_count_141 fl_X12_9 r_164_0 ?_
        refine tz_bipush (pc := 144) dX12_count_144 (by decide) ?_
        refine tz_aL (pc := 146) (z := 62) (v := (J 165 62)) dX12_count_146 a_165 rfl (by decide) (Eq.trans (congrFun (x_14.1 165 rfl) 62) rfl) (fun r_146 => ?_)
        exact tz_iret (pc := 147) (z := (J 165 62)) dX12_count_147 rfl (Nat.le_of_ble_eq_true rfl) (Nat.le_of_ble_eq_true rfl) ⟨Nat.le_refl _, Nat.le_add_right _ _⟩ ⟨_, rfl, (by omega), ⟨MQr.z hI y_14, MFI.z y_14, MBT.z hI y_14, u9.z y_14⟩⟩
      · refine tz_tabIn (pc := 23) (tgt := 148) 8 dX12_count_23 hc_23 (by decide) rfl (by decide) ?_
        refine tz_aload_n (pc := 148) dX12_count_148 rfl rfl ?_
        refine tz_cV (pc := 149) (m_shapes hl n _   0 0 0 (J 164 9) m (hM.z y_14)  ) vl_X12_362 dX12_count_149 o_164 rfl rfl (Nat.le_of_ble_eq_true rfl) ⟨(Nat.le_of_ble_eq_true rfl), (Nat.le_of_ble_eq_true rfl)⟩ rfl rfl (Nat.le_of_ble_eq_true rfl) (Nat.le_of_ble_eq_true rfl) (fun r9 J_149 hq9 => ?_)
        obtain ⟨z_149, rfl, hz_149, rfl⟩ := hq9
        exact tz_iret (pc := 152) (z := z_149) dX12_count_152 rfl (Nat.le_of_ble_eq_true rfl) (Nat.le_of_ble_eq_true rfl) ⟨Nat.le_refl _, Nat.le_add_right _ _⟩ ⟨_, rfl, (by omega), ⟨MQr.z hI y_14, MFI.z y_14, MBT.z hI y_14, u9.z y_14⟩⟩
      · refine tz_tabIn (pc := 23) (tgt := 153) 9 dX12_count_23 hc_23 (by decide) rfl (by decide) ?_
        refine tz_aload_n (pc := 153) dX12_count_153 rfl rfl ?_
        refine tz_iload_n (pc := 154) dX12_count_154 rfl rfl ?_
        refine tz_bipush (pc := 155) dX12_count_155 (by decide) ?_
        refine tz_icmp_ne (pc := 157) (tgt := 164) dX12_count_157 (by decide) (by omega) (by decide) (fun h_157 => ?_) (fun h_157 => ?_)
        · refine tz_iconst (pc := 164) dX12_count_164 ?_
          refine tz_cV (pc := 165) (m_meet hl n _ _ (by decide) 0 0 0 (J 164 9) m (hM.z y_14) (MR.z hL.1 y_14)) vl_X12_365 dX12_count_165 o_164 rfl rfl (Nat.le_of_ble_eq_true rfl) ⟨(Nat.le_of_ble_eq_true rfl), (Nat.le_of_ble_eq_true rfl)⟩ rfl rfl (Nat.le_of_ble_eq_true rfl) (Nat.le_of_ble_eq_true rfl) (fun r9 J_165 hq9 => ?_)
          obtain ⟨z_165, rfl, hz_165, f_165⟩ := hq9
          have x_165 : MZ J_165 J_14 := MZ.f f_165 (by decide) (by decide)
          have y_165 := MZ.tr y_14 x_165
          exact tz_iret (pc := 168) (z := z_165) dX12_count_168 rfl (Nat.le_of_ble_eq_true rfl) (Nat.le_of_ble_eq_true rfl) ⟨Nat.le_refl _, Nat.le_add_right _ _⟩ ⟨_, rfl, (by omega), ⟨MQr.z hI y_165, MFI.z y_165, MBT.z hI y_165, u9.z y_165⟩⟩
        · refine tz_iconst (pc := 160) dX12_count_160 ?_
          refine tz_goto (pc := 161) (tgt := 165) dX12_count_161 (by decide) ?_
          refine tz_cV (pc := 165) (m_meet hl n _ _ (by decide) 0 0 0 (J 164 9) m (hM.z y_14) (MR.z hL.1 y_14)) vl_X12_365 dX12_count_165 o_164 rfl rfl (Nat.le_of_ble_eq_true rfl) ⟨(Nat.le_of_ble_eq_true rfl), (Nat.le_of_ble_eq_true rfl)⟩ rfl rfl (Nat.le_of_ble_eq_true rfl) (Nat.le_of_ble_eq_true rfl) (fun r9 J_165 hq9 => ?_)
          obtain ⟨z_165, rfl, hz_165, f_165⟩ := hq9
          have x_165 : MZ J_165 J_14 := MZ.f f_165 (by decide) (by decide)
          have y_165 := MZ.tr y_14 x_165
          exact tz_iret (pc := 168) (z := z_165) dX12_count_168 rfl (Nat.le_of_ble_eq_true rfl) (Nat.le_of_ble_eq_true rfl) ⟨Nat.le_refl _, Nat.le_add_right _ _⟩ ⟨_, rfl, (by omega), ⟨MQr.z hI y_165, MFI.z y_165, MBT.z hI y_165, u9.z y_165⟩⟩
      · refine tz_tabIn (pc := 23) (tgt := 153) 10 dX12_count_23 hc_23 (by decide) rfl (by decide) ?_
        refine tz_aload_n (pc := 153) dX12_count_153 rfl rfl ?_
        refine tz_iload_n (pc := 154) dX12_count_154 rfl rfl ?_
        refine tz_bipush (pc := 155) dX12_count_155 (by decide) ?_
        refine tz_icmp_ne (pc := 157) (tgt := 164) dX12_count_157 (by decide) (by omega) (by decide) (fun h_157 => ?_) (fun h_157 => ?_)
        · refine tz_iconst (pc := 164) dX12_count_164 ?_
          refine tz_cV (pc := 165) (m_meet hl n _ _ (by decide) 0 0 0 (J 164 9) m (hM.z y_14) (MR.z hL.1 y_14)) vl_X12_365 dX12_count_165 o_164 rfl rfl (Nat.le_of_ble_eq_true rfl) ⟨(Nat.le_of_ble_eq_true rfl), (Nat.le_of_ble_eq_true rfl)⟩ rfl rfl (Nat.le_of_ble_eq_true rfl) (Nat.le_of_ble_eq_true rfl) (fun r9 J_165 hq9 => ?_)
          obtain ⟨z_165, rfl, hz_165, f_165⟩ := hq9
          have x_165 : MZ J_165 J_14 := MZ.f f_165 (by decide) (by decide)
          have y_165 := MZ.tr y_14 x_165
          exact tz_iret (pc := 168) (z := z_165) dX12_count_168 rfl (Nat.le_of_ble_eq_true rfl) (Nat.le_of_ble_eq_true rfl) ⟨Nat.le_refl _, Nat.le_add_right _ _⟩ ⟨_, rfl, (by omega), ⟨MQr.z hI y_165, MFI.z y_165, MBT.z hI y_165, u9.z y_165⟩⟩
        · refine tz_iconst (pc := 160) dX12_count_160 ?_
          refine tz_goto (pc := 161) (tgt := 165) dX12_count_161 (by decide) ?_
          refine tz_cV (pc := 165) (m_meet hl n _ _ (by decide) 0 0 0 (J 164 9) m (hM.z y_14) (MR.z hL.1 y_14)) vl_X12_365 dX12_count_165 o_164 rfl rfl (Nat.le_of_ble_eq_true rfl) ⟨(Nat.le_of_ble_eq_true rfl), (Nat.le_of_ble_eq_true rfl)⟩ rfl rfl (Nat.le_of_ble_eq_true rfl) (Nat.le_of_ble_eq_true rfl) (fun r9 J_165 hq9 => ?_)
          obtain ⟨z_165, rfl, hz_165, f_165⟩ := hq9
          have x_165 : MZ J_165 J_14 := MZ.f f_165 (by decide) (by decide)
          have y_165 := MZ.tr y_14 x_165
          exact tz_iret (pc := 168) (z := z_165) dX12_count_168 rfl (Nat.le_of_ble_eq_true rfl) (Nat.le_of_ble_eq_true rfl) ⟨Nat.le_refl _, Nat.le_add_right _ _⟩ ⟨_, rfl, (by omega), ⟨MQr.z hI y_165, MFI.z y_165, MBT.z hI y_165, u9.z y_165⟩⟩
      · refine tz_tabIn (pc := 23) (tgt := 169) 11 dX12_count_23 hc_23 (by decide) rfl (by decide) ?_
        refine tz_aload_n (pc := 169) dX12_count_169 rfl rfl ?_
        refine tz_fI (pc := 170) (kz := 10) (v := (J 164 10)) dX12_count_170 fl_X12_356 i_164_10 rfl (Eq.trans (x_14.2 10 (by decide) (by decide)) rfl) (fun r_170 => ?_)
        exact tz_iret (pc := 173) (z := (J 164 10)) dX12_count_173 rfl (Nat.le_of_ble_eq_true rfl) (Nat.le_of_ble_eq_true rfl) ⟨Nat.le_refl _, Nat.le_add_right _ _⟩ ⟨_, rfl, (by omega), ⟨MQr.z hI y_14, MFI.z y_14, MBT.z hI y_14, u9.z y_14⟩⟩
      · refine tz_tabIn (pc := 23) (tgt := 174) 12 dX12_count_23 hc_23 (by decide) rfl (by decide) ?_
        refine tz_aload_n (pc := 174) dX12_count_174 rfl rfl ?_
        refine tz_fI (pc := 175) (kz := 19) (v := (J 164 19)) dX12_count_175 fl_X12_328 i_164_19 rfl (Eq.trans (x_14.2 19 (by decide) (by decide)) rfl) (fun r_175 => ?_)
        exact tz_iret (pc := 178) (z := (J 164 19)) dX12_count_178 rfl (Nat.le_of_ble_eq_true rfl) (Nat.le_of_ble_eq_true rfl) ⟨Nat.le_refl _, Nat.le_add_right _ _⟩ ⟨_, rfl, (by omega), ⟨MQr.z hI y_14, MFI.z y_14, MBT.z hI y_14, u9.z y_14⟩⟩
  · refine tz_iconst (pc := 20) dX12_count_20 ?_
    exact tz_iret (pc := 21) (z := 0) dX12_count_21 rfl (Nat.le_of_ble_eq_true rfl) (Nat.le_of_ble_eq_true rfl) ⟨Nat.le_refl _, Nat.le_add_right _ _⟩ ⟨_, rfl, (by decide), ⟨MQr.z hI y_14, MFI.z y_14, MBT.z hI y_14, u9.z y_14⟩⟩

set_option maxHeartbeats 4000000 in
set_option maxRecDepth 100000 in
theorem k_symbol {l : Launch} {G : tb_G} (hl : l.stackTraces = false) (n : Nat) (J : zJ) (x : Int) (y : Int) (hr_x : -2147483648 ≤ x ∧ x < 2147483648) (hr_y : -2147483648 ≤ y ∧ y < 2147483648) (m : Int) (pn : Int) (RR : Int → Int → Int) (hI : MI J m) (u9 : MUr J pn RR)  : tz_Ok l G M_X12_symbol 21 0 0 [.ref 164, zi x, zi y] n J (zqi (fun z J' => MQr J' J ∧ MFI J' J ∧ MBT J' (tbz J) ∧ MUr J' pn RR)) zN := by
  refine tz_Ok.of hl (by decide +kernel) rfl (tb_c1 rfl) (Nat.le_of_ble_eq_true rfl) ?_
  show tz_At l G M_X12_symbol (tb_rm 21 0 0) none (tb_ZM G 0 0 (zQ n 0 (zqi (fun z J' => MQr J' J ∧ MFI J' J ∧ MBT J' (tbz J) ∧ MUr J' pn RR))) (zX n 0 zN)) 0 0 n J 0 [some (.ref 164), some (zi x), some (zi y)] []
  have hT := hI.told
  have hW := hI.row
  have hM := hI.1
  have hL := hI.2.1
  refine tz_aload_n (pc := 0) dX12_symbol_0 rfl rfl ?_
  refine tz_iconst (pc := 1) dX12_symbol_1 ?_
  refine tz_pI (pc := 2) (kz := 8) dX12_symbol_2 fl_X12_68 i_164_8 rfl rfl (by decide) ?_
  refine tz_aload_n (pc := 5) dX12_symbol_5 rfl rfl ?_
  refine tz_aload_n (pc := 6) dX12_symbol_6 rfl rfl ?_
  refine tz_iload_n (pc := 7) dX12_symbol_7 rfl rfl ?_
  refine tz_cV (pc := 8) (m_isSym hl n _ _ (by omega) (by rw [(show ((zup J 164 8 0) : zJ) 164 9 = (J 164 9) from rfl)]; omega)) vl_X12_369 dX12_symbol_8 o_164 rfl rfl (Nat.le_of_ble_eq_true rfl) ⟨(Nat.le_of_ble_eq_true rfl), (Nat.le_of_ble_eq_true rfl)⟩ rfl rfl (Nat.le_of_ble_eq_true rfl) (Nat.le_of_ble_eq_true rfl) (fun r9 J_8 hq9 => ?_)
  obtain ⟨z_8, rfl, hz_8, rfl, ht_8⟩ := hq9
  rw [(show ((zup J 164 8 0) : zJ) 164 9 = (J 164 9) from rfl)] at ht_8
  refine tz_if_eq (pc := 11) (tgt := 27) dX12_symbol_11 (by decide) (by omega) (fun h_11 => ?_) (fun h_11 => ?_)
  · refine tz_iconst (pc := 27) dX12_symbol_27 ?_
    refine tz_iconst (pc := 28) dX12_symbol_28 ?_
    refine tz_cV (pc := 29) (m_right hl n _ _ _ (by decide) (by decide) (by decide)) vl_X12_334 dX12_symbol_29 o_164 rfl rfl (Nat.le_of_ble_eq_true rfl) ⟨(Nat.le_of_ble_eq_true rfl), (Nat.le_of_ble_eq_true rfl)⟩ rfl rfl (Nat.le_of_ble_eq_true rfl) (Nat.le_of_ble_eq_true rfl) (fun r9 J_29 hq9 => ?_)
    obtain ⟨z_29, rfl, hz_29, f_29, b_29, c_29⟩ := hq9
    have x_29 : MZ J_29 (zup J 164 8 0) := MZ.f f_29 (by decide) (by decide)
    have y_29 := MZ.tr (MZ.up (k := 8) MZ.rf (by decide)) x_29
    obtain rfl : z_29 = 0 := by rcases b_29 with e9 | e9; exact e9; exact absurd (c_29 e9).2.2 (by decide)
    refine tz_if_neF (pc := 32) (tgt := 37) (by decide) dX12_symbol_32 (by decide) (by decide) ?_
    refine tz_iconst (pc := 35) dX12_symbol_35 ?_
    exact tz_iret (pc := 36) (z := 0) dX12_symbol_36 rfl (Nat.le_of_ble_eq_true rfl) (Nat.le_of_ble_eq_true rfl) ⟨Nat.le_refl _, Nat.le_add_right _ _⟩ ⟨_, rfl, (by decide), ⟨MQr.z hI y_29, MFI.z y_29, MBT.z hI y_29, u9.z y_29⟩⟩
  · refine tz_iload_n (pc := 14) dX12_symbol_14 rfl rfl ?_
    refine tz_iconst (pc := 15) dX12_symbol_15 ?_
    refine tz_iconst (pc := 16) dX12_symbol_16 ?_
    refine tz_cS (pc := 17) (m_within hl n _ _ _ _ (by omega) (by decide) (by decide)) sl_X12_283 dX12_symbol_17 rfl rfl (Nat.le_of_ble_eq_true rfl) ⟨(Nat.le_of_ble_eq_true rfl), (Nat.le_of_ble_eq_true rfl)⟩ rfl rfl (Nat.le_of_ble_eq_true rfl) (Nat.le_of_ble_eq_true rfl) (fun r9 J_17 hq9 => ?_)
    obtain ⟨z_17, rfl, hz_17, rfl, hw_17⟩ := hq9
    refine tz_if_eq (pc := 20) (tgt := 27) dX12_symbol_20 (by decide) (by omega) (fun h_20 => ?_) (fun h_20 => ?_)
    · refine tz_iconst (pc := 27) dX12_symbol_27 ?_
      refine tz_iconst (pc := 28) dX12_symbol_28 ?_
      refine tz_cV (pc := 29) (m_right hl n _ _ _ (by decide) (by decide) (by decide)) vl_X12_334 dX12_symbol_29 o_164 rfl rfl (Nat.le_of_ble_eq_true rfl) ⟨(Nat.le_of_ble_eq_true rfl), (Nat.le_of_ble_eq_true rfl)⟩ rfl rfl (Nat.le_of_ble_eq_true rfl) (Nat.le_of_ble_eq_true rfl) (fun r9 J_29 hq9 => ?_)
      obtain ⟨z_29, rfl, hz_29, f_29, b_29, c_29⟩ := hq9
      have x_29 : MZ J_29 (zup J 164 8 0) := MZ.f f_29 (by decide) (by decide)
      have y_29 := MZ.tr (MZ.up (k := 8) MZ.rf (by decide)) x_29
      obtain rfl : z_29 = 0 := by rcases b_29 with e9 | e9; exact e9; exact absurd (c_29 e9).2.2 (by decide)
      refine tz_if_neF (pc := 32) (tgt := 37) (by decide) dX12_symbol_32 (by decide) (by decide) ?_
      refine tz_iconst (pc := 35) dX12_symbol_35 ?_
      exact tz_iret (pc := 36) (z := 0) dX12_symbol_36 rfl (Nat.le_of_ble_eq_true rfl) (Nat.le_of_ble_eq_true rfl) ⟨Nat.le_refl _, Nat.le_add_right _ _⟩ ⟨_, rfl, (by decide), ⟨MQr.z hI y_29, MFI.z y_29, MBT.z hI y_29, u9.z y_29⟩⟩
    · refine tz_iconst (pc := 23) dX12_symbol_23 ?_
      refine tz_goto (pc := 24) (tgt := 28) dX12_symbol_24 (by decide) ?_
      refine tz_iconst (pc := 28) dX12_symbol_28 ?_
      refine tz_cV (pc := 29) (m_right hl n _ _ _ (by decide) (by decide) (by decide)) vl_X12_334 dX12_symbol_29 o_164 rfl rfl (Nat.le_of_ble_eq_true rfl) ⟨(Nat.le_of_ble_eq_true rfl), (Nat.le_of_ble_eq_true rfl)⟩ rfl rfl (Nat.le_of_ble_eq_true rfl) (Nat.le_of_ble_eq_true rfl) (fun r9 J_29 hq9 => ?_)
      obtain ⟨z_29, rfl, hz_29, f_29, b_29, c_29⟩ := hq9
      have x_29 : MZ J_29 (zup J 164 8 0) := MZ.f f_29 (by decide) (by decide)
      have y_29 := MZ.tr (MZ.up (k := 8) MZ.rf (by decide)) x_29
      refine tz_if_ne (pc := 32) (tgt := 37) dX12_symbol_32 (by decide) (by omega) (fun h_32 => ?_) (fun h_32 => ?_)
      · refine tz_iload_n (pc := 37) dX12_symbol_37 rfl rfl ?_
        refine tz_if_ne (pc := 38) (tgt := 50) dX12_symbol_38 (by decide) (by omega) (fun h_38 => ?_) (fun h_38 => ?_)
        · refine tz_iload_n (pc := 50) dX12_symbol_50 rfl rfl ?_
          refine tz_iconst (pc := 51) dX12_symbol_51 ?_
          refine tz_icmp_ne (pc := 52) (tgt := 64) dX12_symbol_52 (by decide) (by omega) (by decide) (fun h_52 => ?_) (fun h_52 => ?_)
          · refine tz_iload_n (pc := 64) dX12_symbol_64 rfl rfl ?_
            refine tz_iconst (pc := 65) dX12_symbol_65 ?_
            refine tz_icmp_ne (pc := 66) (tgt := 78) dX12_symbol_66 (by decide) (by omega) (by decide) (fun h_66 => ?_) (fun h_66 => ?_)
            · refine tz_aload_n (pc := 78) dX12_symbol_78 rfl rfl ?_
              refine tz_iload_n (pc := 79) dX12_symbol_79 rfl rfl ?_
              refine tz_iload_n (pc := 80) dX12_symbol_80 rfl rfl ?_
              refine tz_iconst (pc := 81) dX12_symbol_81 ?_
              refine tz_icmp_ne (pc := 82) (tgt := 89) dX12_symbol_82 (by decide) (by omega) (by decide) (fun h_82 => ?_) (fun h_82 => ?_)
              · refine tz_iconst (pc := 89) dX12_symbol_89 ?_
                refine tz_cV (pc := 90) (m_fits hl n _ _ _ (by omega) (by decide) 0 0 0 (J 164 9) m (hM.z y_29) (MR.z hL.1 y_29) (by omega)) vl_X12_372 dX12_symbol_90 o_164 rfl rfl (Nat.le_of_ble_eq_true rfl) ⟨(Nat.le_of_ble_eq_true rfl), (Nat.le_of_ble_eq_true rfl)⟩ rfl rfl (Nat.le_of_ble_eq_true rfl) (Nat.le_of_ble_eq_true rfl) (fun r9 J_90 hq9 => ?_)
                obtain ⟨z_90, rfl, hz_90, rfl⟩ := hq9
                exact tz_iret (pc := 93) (z := z_90) dX12_symbol_93 rfl (Nat.le_of_ble_eq_true rfl) (Nat.le_of_ble_eq_true rfl) ⟨Nat.le_refl _, Nat.le_add_right _ _⟩ ⟨_, rfl, (by omega), ⟨MQr.z hI y_29, MFI.z y_29, MBT.z hI y_29, u9.z y_29⟩⟩
              · refine tz_iconst (pc := 85) dX12_symbol_85 ?_
                refine tz_goto (pc := 86) (tgt := 90) dX12_symbol_86 (by decide) ?_
                refine tz_cV (pc := 90) (m_fits hl n _ _ _ (by omega) (by decide) 0 0 0 (J 164 9) m (hM.z y_29) (MR.z hL.1 y_29) (by omega)) vl_X12_372 dX12_symbol_90 o_164 rfl rfl (Nat.le_of_ble_eq_true rfl) ⟨(Nat.le_of_ble_eq_true rfl), (Nat.le_of_ble_eq_true rfl)⟩ rfl rfl (Nat.le_of_ble_eq_true rfl) (Nat.le_of_ble_eq_true rfl) (fun r9 J_90 hq9 => ?_)
                obtain ⟨z_90, rfl, hz_90, rfl⟩ := hq9
                exact tz_iret (pc := 93) (z := z_90) dX12_symbol_93 rfl (Nat.le_of_ble_eq_true rfl) (Nat.le_of_ble_eq_true rfl) ⟨Nat.le_refl _, Nat.le_add_right _ _⟩ ⟨_, rfl, (by omega), ⟨MQr.z hI y_29, MFI.z y_29, MBT.z hI y_29, u9.z y_29⟩⟩
            · refine tz_aload_n (pc := 69) dX12_symbol_69 rfl rfl ?_
              refine tz_fR (pc := 70) dX12_symbol_70 fl_X12_28 r_164_6 ?_
              refine tz_iload_n (pc := 73) dX12_symbol_73 rfl rfl ?_
              refine tz_aL (pc := 74) (z := x) (v := (J 171 x)) dX12_symbol_74 a_171 rfl (by omega) (Eq.trans (congrFun (x_29.1 171 rfl) x) rfl) (fun r_74 => ?_)
              refine tz_goto (pc := 75) (tgt := 93) dX12_symbol_75 (by decide) ?_
              exact tz_iret (pc := 93) (z := (J 171 x)) dX12_symbol_93 rfl (Nat.le_of_ble_eq_true rfl) (Nat.le_of_ble_eq_true rfl) ⟨Nat.le_refl _, Nat.le_add_right _ _⟩ ⟨_, rfl, (by omega), ⟨MQr.z hI y_29, MFI.z y_29, MBT.z hI y_29, u9.z y_29⟩⟩
          · refine tz_aload_n (pc := 55) dX12_symbol_55 rfl rfl ?_
            refine tz_fR (pc := 56) dX12_symbol_56 fl_X12_25 r_164_5 ?_
            refine tz_iload_n (pc := 59) dX12_symbol_59 rfl rfl ?_
            refine tz_aL (pc := 60) (z := x) (v := (J 170 x)) dX12_symbol_60 a_170 rfl (by omega) (Eq.trans (congrFun (x_29.1 170 rfl) x) rfl) (fun r_60 => ?_)
            refine tz_goto (pc := 61) (tgt := 93) dX12_symbol_61 (by decide) ?_
            exact tz_iret (pc := 93) (z := (J 170 x)) dX12_symbol_93 rfl (Nat.le_of_ble_eq_true rfl) (Nat.le_of_ble_eq_true rfl) ⟨Nat.le_refl _, Nat.le_add_right _ _⟩ ⟨_, rfl, (by omega), ⟨MQr.z hI y_29, MFI.z y_29, MBT.z hI y_29, u9.z y_29⟩⟩
        · refine tz_aload_n (pc := 41) dX12_symbol_41 rfl rfl ?_
          refine tz_fR (pc := 42) dX12_symbol_42 fl_X12_22 r_164_4 ?_
          refine tz_iload_n (pc := 45) dX12_symbol_45 rfl rfl ?_
          refine tz_aL (pc := 46) (z := x) (v := (J 169 x)) dX12_symbol_46 a_169 rfl (by omega) (Eq.trans (congrFun (x_29.1 169 rfl) x) rfl) (fun r_46 => ?_)
          refine tz_goto (pc := 47) (tgt := 93) dX12_symbol_47 (by decide) ?_
          exact tz_iret (pc := 93) (z := (J 169 x)) dX12_symbol_93 rfl (Nat.le_of_ble_eq_true rfl) (Nat.le_of_ble_eq_true rfl) ⟨Nat.le_refl _, Nat.le_add_right _ _⟩ ⟨_, rfl, (by omega), ⟨MQr.z hI y_29, MFI.z y_29, MBT.z hI y_29, u9.z y_29⟩⟩
      · refine tz_iconst (pc := 35) dX12_symbol_35 ?_
        exact tz_iret (pc := 36) (z := 0) dX12_symbol_36 rfl (Nat.le_of_ble_eq_true rfl) (Nat.le_of_ble_eq_true rfl) ⟨Nat.le_refl _, Nat.le_add_right _ _⟩ ⟨_, rfl, (by decide), ⟨MQr.z hI y_29, MFI.z y_29, MBT.z hI y_29, u9.z y_29⟩⟩

set_option maxHeartbeats 4000000 in
set_option maxRecDepth 100000 in
theorem k_rule {l : Launch} {G : tb_G} (hl : l.stackTraces = false) (n : Nat) (J : zJ) (x : Int) (y : Int) (hr_x : -2147483648 ≤ x ∧ x < 2147483648) (hr_y : -2147483648 ≤ y ∧ y < 2147483648) (m : Int) (pn : Int) (RR : Int → Int → Int) (hI : MI J m) (u9 : MUr J pn RR)  : tz_Ok l G M_X12_rule 1 0 0 [.ref 164, zi x, zi y] n J (zqi (fun z J' => MQr J' J ∧ MFI J' J ∧ MBT J' (tbz J) ∧ MUr J' pn RR)) zN := by
  refine tz_Ok.of hl (by decide +kernel) rfl (tb_c1 rfl) (Nat.le_of_ble_eq_true rfl) ?_
  show tz_At l G M_X12_rule (tb_rm 1 0 0) none (tb_ZM G 0 0 (zQ n 0 (zqi (fun z J' => MQr J' J ∧ MFI J' J ∧ MBT J' (tbz J) ∧ MUr J' pn RR))) (zX n 0 zN)) 0 0 n J 0 [some (.ref 164), some (zi x), some (zi y)] []
  have hT := hI.told
  have hW := hI.row
  have hM := hI.1
  have hL := hI.2.1
  refine tz_aload_n (pc := 0) dX12_rule_0 rfl rfl ?_
  refine tz_iconst (pc := 1) dX12_rule_1 ?_
  refine tz_pI (pc := 2) (kz := 8) dX12_rule_2 fl_X12_68 i_164_8 rfl rfl (by decide) ?_
  refine tz_aload_n (pc := 5) dX12_rule_5 rfl rfl ?_
  refine tz_iload_n (pc := 6) dX12_rule_6 rfl rfl ?_
  refine tz_iconst (pc := 7) dX12_rule_7 ?_
  refine tz_aload_n (pc := 8) dX12_rule_8 rfl rfl ?_
  refine tz_fR (pc := 9) dX12_rule_9 fl_X12_9 r_164_0 ?_
  refine tz_bipush (pc := 12) dX12_rule_12 (by decide) ?_
  refine tz_aL (pc := 14) (z := 9) (v := (J 165 9)) dX12_rule_14 a_165 rfl (by decide) rfl (fun r_14 => ?_)
  refine tz_iconst (pc := 15) dX12_rule_15 ?_
  refine tz_isub (pc := 16) (v := (J 165 9) - 1) dX12_rule_16 rfl ?_
  refine tz_cS (pc := 17) (m_within hl n _ _ _ _ (by omega) (by decide) (by omega)) sl_X12_283 dX12_rule_17 rfl rfl (Nat.le_of_ble_eq_true rfl) ⟨(Nat.le_of_ble_eq_true rfl), (Nat.le_of_ble_eq_true rfl)⟩ rfl rfl (Nat.le_of_ble_eq_true rfl) (Nat.le_of_ble_eq_true rfl) (fun r9 J_17 hq9 => ?_)
  obtain ⟨z_17, rfl, hz_17, rfl, hw_17⟩ := hq9
  refine tz_if_eq (pc := 20) (tgt := 36) dX12_rule_20 (by decide) (by omega) (fun h_20 => ?_) (fun h_20 => ?_)
  · refine tz_iconst (pc := 36) dX12_rule_36 ?_
    refine tz_iconst (pc := 37) dX12_rule_37 ?_
    refine tz_cV (pc := 38) (m_right hl n _ _ _ (by decide) (by decide) (by decide)) vl_X12_334 dX12_rule_38 o_164 rfl rfl (Nat.le_of_ble_eq_true rfl) ⟨(Nat.le_of_ble_eq_true rfl), (Nat.le_of_ble_eq_true rfl)⟩ rfl rfl (Nat.le_of_ble_eq_true rfl) (Nat.le_of_ble_eq_true rfl) (fun r9 J_38 hq9 => ?_)
    obtain ⟨z_38, rfl, hz_38, f_38, b_38, c_38⟩ := hq9
    have x_38 : MZ J_38 (zup J 164 8 0) := MZ.f f_38 (by decide) (by decide)
    have y_38 := MZ.tr (MZ.up (k := 8) MZ.rf (by decide)) x_38
    obtain rfl : z_38 = 0 := by rcases b_38 with e9 | e9; exact e9; exact absurd (c_38 e9).2.2 (by decide)
    refine tz_if_eqT (pc := 41) (tgt := 60) (by decide) dX12_rule_41 (by decide) (by decide) ?_
    refine tz_iconst (pc := 60) dX12_rule_60 ?_
    exact tz_iret (pc := 61) (z := 0) dX12_rule_61 rfl (Nat.le_of_ble_eq_true rfl) (Nat.le_of_ble_eq_true rfl) ⟨Nat.le_refl _, Nat.le_add_right _ _⟩ ⟨_, rfl, (by decide), ⟨MQr.z hI y_38, MFI.z y_38, MBT.z hI y_38, u9.z y_38⟩⟩
  · refine tz_iload_n (pc := 23) dX12_rule_23 rfl rfl ?_
    refine tz_iconst (pc := 24) dX12_rule_24 ?_
    refine tz_iconst (pc := 25) dX12_rule_25 ?_
    refine tz_cS (pc := 26) (m_within hl n _ _ _ _ (by omega) (by decide) (by decide)) sl_X12_283 dX12_rule_26 rfl rfl (Nat.le_of_ble_eq_true rfl) ⟨(Nat.le_of_ble_eq_true rfl), (Nat.le_of_ble_eq_true rfl)⟩ rfl rfl (Nat.le_of_ble_eq_true rfl) (Nat.le_of_ble_eq_true rfl) (fun r9 J_26 hq9 => ?_)
    obtain ⟨z_26, rfl, hz_26, rfl, hw_26⟩ := hq9
    refine tz_if_eq (pc := 29) (tgt := 36) dX12_rule_29 (by decide) (by omega) (fun h_29 => ?_) (fun h_29 => ?_)
    · refine tz_iconst (pc := 36) dX12_rule_36 ?_
      refine tz_iconst (pc := 37) dX12_rule_37 ?_
      refine tz_cV (pc := 38) (m_right hl n _ _ _ (by decide) (by decide) (by decide)) vl_X12_334 dX12_rule_38 o_164 rfl rfl (Nat.le_of_ble_eq_true rfl) ⟨(Nat.le_of_ble_eq_true rfl), (Nat.le_of_ble_eq_true rfl)⟩ rfl rfl (Nat.le_of_ble_eq_true rfl) (Nat.le_of_ble_eq_true rfl) (fun r9 J_38 hq9 => ?_)
      obtain ⟨z_38, rfl, hz_38, f_38, b_38, c_38⟩ := hq9
      have x_38 : MZ J_38 (zup J 164 8 0) := MZ.f f_38 (by decide) (by decide)
      have y_38 := MZ.tr (MZ.up (k := 8) MZ.rf (by decide)) x_38
      obtain rfl : z_38 = 0 := by rcases b_38 with e9 | e9; exact e9; exact absurd (c_38 e9).2.2 (by decide)
      refine tz_if_eqT (pc := 41) (tgt := 60) (by decide) dX12_rule_41 (by decide) (by decide) ?_
      refine tz_iconst (pc := 60) dX12_rule_60 ?_
      exact tz_iret (pc := 61) (z := 0) dX12_rule_61 rfl (Nat.le_of_ble_eq_true rfl) (Nat.le_of_ble_eq_true rfl) ⟨Nat.le_refl _, Nat.le_add_right _ _⟩ ⟨_, rfl, (by decide), ⟨MQr.z hI y_38, MFI.z y_38, MBT.z hI y_38, u9.z y_38⟩⟩
    · refine tz_iconst (pc := 32) dX12_rule_32 ?_
      refine tz_goto (pc := 33) (tgt := 37) dX12_rule_33 (by decide) ?_
      refine tz_iconst (pc := 37) dX12_rule_37 ?_
      refine tz_cV (pc := 38) (m_right hl n _ _ _ (by decide) (by decide) (by decide)) vl_X12_334 dX12_rule_38 o_164 rfl rfl (Nat.le_of_ble_eq_true rfl) ⟨(Nat.le_of_ble_eq_true rfl), (Nat.le_of_ble_eq_true rfl)⟩ rfl rfl (Nat.le_of_ble_eq_true rfl) (Nat.le_of_ble_eq_true rfl) (fun r9 J_38 hq9 => ?_)
      obtain ⟨z_38, rfl, hz_38, f_38, b_38, c_38⟩ := hq9
      have x_38 : MZ J_38 (zup J 164 8 0) := MZ.f f_38 (by decide) (by decide)
      have y_38 := MZ.tr (MZ.up (k := 8) MZ.rf (by decide)) x_38
      refine tz_if_eq (pc := 41) (tgt := 60) dX12_rule_41 (by decide) (by omega) (fun h_41 => ?_) (fun h_41 => ?_)
      · refine tz_iconst (pc := 60) dX12_rule_60 ?_
        exact tz_iret (pc := 61) (z := 0) dX12_rule_61 rfl (Nat.le_of_ble_eq_true rfl) (Nat.le_of_ble_eq_true rfl) ⟨Nat.le_refl _, Nat.le_add_right _ _⟩ ⟨_, rfl, (by decide), ⟨MQr.z hI y_38, MFI.z y_38, MBT.z hI y_38, u9.z y_38⟩⟩
      · refine tz_aload_n (pc := 44) dX12_rule_44 rfl rfl ?_
        refine tz_fR (pc := 45) dX12_rule_45 fl_X12_9 r_164_0 ?_
        refine tz_bipush (pc := 48) dX12_rule_48 (by decide) ?_
        refine tz_iconst (pc := 50) dX12_rule_50 ?_
        refine tz_iload_n (pc := 51) dX12_rule_51 rfl rfl ?_
        refine tz_imul (pc := 52) (v := 2 * x) dX12_rule_52 rfl ?_
        refine tz_iadd (pc := 53) (v := 10 + (2 * x)) dX12_rule_53 rfl ?_
        refine tz_iload_n (pc := 54) dX12_rule_54 rfl rfl ?_
        refine tz_iadd (pc := 55) (v := (10 + (2 * x)) + y) dX12_rule_55 rfl ?_
        refine tz_aL (pc := 56) (z := ((10 + (2 * x)) + y)) (v := (J 165 ((10 + (2 * x)) + y))) dX12_rule_56 a_165 rfl (by omega) (Eq.trans (congrFun (x_38.1 165 rfl) ((10 + (2 * x)) + y)) rfl) (fun r_56 => ?_)
        refine tz_goto (pc := 57) (tgt := 61) dX12_rule_57 (by decide) ?_
        exact tz_iret (pc := 61) (z := (J 165 ((10 + (2 * x)) + y))) dX12_rule_61 rfl (Nat.le_of_ble_eq_true rfl) (Nat.le_of_ble_eq_true rfl) ⟨Nat.le_refl _, Nat.le_add_right _ _⟩ ⟨_, rfl, (by omega), ⟨MQr.z hI y_38, MFI.z y_38, MBT.z hI y_38, u9.z y_38⟩⟩

set_option maxHeartbeats 4000000 in
set_option maxRecDepth 100000 in
theorem k_entry {l : Launch} {G : tb_G} (hl : l.stackTraces = false) (n : Nat) (J : zJ) (x : Int) (hr_x : -2147483648 ≤ x ∧ x < 2147483648) (m : Int) (pn : Int) (RR : Int → Int → Int) (hI : MI J m) (u9 : MUr J pn RR)  : tz_Ok l G M_X12_entry 1 0 0 [.ref 164, zi x] n J (zqi (fun z J' => MQr J' J ∧ MFI J' J ∧ MBT J' (tbz J) ∧ MUr J' pn RR)) zN := by
  refine tz_Ok.of hl (by decide +kernel) rfl (tb_c1 rfl) (Nat.le_of_ble_eq_true rfl) ?_
  show tz_At l G M_X12_entry (tb_rm 1 0 0) none (tb_ZM G 0 0 (zQ n 0 (zqi (fun z J' => MQr J' J ∧ MFI J' J ∧ MBT J' (tbz J) ∧ MUr J' pn RR))) (zX n 0 zN)) 0 0 n J 0 [some (.ref 164), some (zi x)] []
  have hT := hI.told
  have hW := hI.row
  have hM := hI.1
  have hL := hI.2.1
  refine tz_aload_n (pc := 0) dX12_entry_0 rfl rfl ?_
  refine tz_iconst (pc := 1) dX12_entry_1 ?_
  refine tz_pI (pc := 2) (kz := 8) dX12_entry_2 fl_X12_68 i_164_8 rfl rfl (by decide) ?_
  refine tz_aload_n (pc := 5) dX12_entry_5 rfl rfl ?_
  refine tz_iload_n (pc := 6) dX12_entry_6 rfl rfl ?_
  refine tz_iconst (pc := 7) dX12_entry_7 ?_
  refine tz_aload_n (pc := 8) dX12_entry_8 rfl rfl ?_
  refine tz_fR (pc := 9) dX12_entry_9 fl_X12_9 r_164_0 ?_
  refine tz_bipush (pc := 12) dX12_entry_12 (by decide) ?_
  refine tz_aL (pc := 14) (z := 26) (v := (J 165 26)) dX12_entry_14 a_165 rfl (by decide) rfl (fun r_14 => ?_)
  refine tz_iconst (pc := 15) dX12_entry_15 ?_
  refine tz_isub (pc := 16) (v := (J 165 26) - 1) dX12_entry_16 rfl ?_
  refine tz_cS (pc := 17) (m_within hl n _ _ _ _ (by omega) (by decide) (by omega)) sl_X12_283 dX12_entry_17 rfl rfl (Nat.le_of_ble_eq_true rfl) ⟨(Nat.le_of_ble_eq_true rfl), (Nat.le_of_ble_eq_true rfl)⟩ rfl rfl (Nat.le_of_ble_eq_true rfl) (Nat.le_of_ble_eq_true rfl) (fun r9 J_17 hq9 => ?_)
  obtain ⟨z_17, rfl, hz_17, rfl, hw_17⟩ := hq9
  refine tz_iconst (pc := 20) dX12_entry_20 ?_
  refine tz_cV (pc := 21) (m_right hl n _ _ _ (by omega) (by decide) (by decide)) vl_X12_334 dX12_entry_21 o_164 rfl rfl (Nat.le_of_ble_eq_true rfl) ⟨(Nat.le_of_ble_eq_true rfl), (Nat.le_of_ble_eq_true rfl)⟩ rfl rfl (Nat.le_of_ble_eq_true rfl) (Nat.le_of_ble_eq_true rfl) (fun r9 J_21 hq9 => ?_)
  obtain ⟨z_21, rfl, hz_21, f_21, b_21, c_21⟩ := hq9
  have x_21 : MZ J_21 (zup J 164 8 0) := MZ.f f_21 (by decide) (by decide)
  have y_21 := MZ.tr (MZ.up (k := 8) MZ.rf (by decide)) x_21
  have e_21 : z_21 = 1 → ¬ z_17 = 0 := fun q9 => (c_21 q9).2.2.resolve_right (by decide)
  refine tz_if_eq (pc := 24) (tgt := 39) dX12_entry_24 (by decide) (by omega) (fun h_24 => ?_) (fun h_24 => ?_)
  · refine tz_iconst (pc := 39) dX12_entry_39 ?_
    exact tz_iret (pc := 40) (z := 0) dX12_entry_40 rfl (Nat.le_of_ble_eq_true rfl) (Nat.le_of_ble_eq_true rfl) ⟨Nat.le_refl _, Nat.le_add_right _ _⟩ ⟨_, rfl, (by decide), ⟨MQr.z hI y_21, MFI.z y_21, MBT.z hI y_21, u9.z y_21⟩⟩
  · refine tz_aload_n (pc := 27) dX12_entry_27 rfl rfl ?_
    refine tz_fR (pc := 28) dX12_entry_28 fl_X12_9 r_164_0 ?_
    refine tz_bipush (pc := 31) dX12_entry_31 (by decide) ?_
    refine tz_iload_n (pc := 33) dX12_entry_33 rfl rfl ?_
    refine tz_iadd (pc := 34) (v := 27 + x) dX12_entry_34 rfl ?_
    refine tz_aL (pc := 35) (z := (27 + x)) (v := (J 165 (27 + x))) dX12_entry_35 a_165 rfl (by omega) (Eq.trans (congrFun (x_21.1 165 rfl) (27 + x)) rfl) (fun r_35 => ?_)
    refine tz_goto (pc := 36) (tgt := 40) dX12_entry_36 (by decide) ?_
    exact tz_iret (pc := 40) (z := (J 165 (27 + x))) dX12_entry_40 rfl (Nat.le_of_ble_eq_true rfl) (Nat.le_of_ble_eq_true rfl) ⟨Nat.le_refl _, Nat.le_add_right _ _⟩ ⟨_, rfl, (by omega), ⟨MQr.z hI y_21, MFI.z y_21, MBT.z hI y_21, u9.z y_21⟩⟩

set_option maxHeartbeats 4000000 in
set_option maxRecDepth 100000 in
theorem k_memo {l : Launch} {G : tb_G} (hl : l.stackTraces = false) (n : Nat) (J : zJ) (x : Int) (y : Int) (hr_x : -2147483648 ≤ x ∧ x < 2147483648) (hr_y : -2147483648 ≤ y ∧ y < 2147483648) (m : Int) (pn : Int) (RR : Int → Int → Int) (hI : MI J m) (u9 : MUr J pn RR)  : tz_Ok l G M_X12_memo 1 0 0 [.ref 164, zi x, zi y] n J (zqi (fun z J' => MQr J' J ∧ MFI J' J ∧ MBT J' (tbz J) ∧ MUr J' pn RR)) zN := by
  refine tz_Ok.of hl (by decide +kernel) rfl (tb_c1 rfl) (Nat.le_of_ble_eq_true rfl) ?_
  show tz_At l G M_X12_memo (tb_rm 1 0 0) none (tb_ZM G 0 0 (zQ n 0 (zqi (fun z J' => MQr J' J ∧ MFI J' J ∧ MBT J' (tbz J) ∧ MUr J' pn RR))) (zX n 0 zN)) 0 0 n J 0 [some (.ref 164), some (zi x), some (zi y)] []
  have hT := hI.told
  have hW := hI.row
  have hM := hI.1
  have hL := hI.2.1
  refine tz_aload_n (pc := 0) dX12_memo_0 rfl rfl ?_
  refine tz_iconst (pc := 1) dX12_memo_1 ?_
  refine tz_pI (pc := 2) (kz := 8) dX12_memo_2 fl_X12_68 i_164_8 rfl rfl (by decide) ?_
  refine tz_aload_n (pc := 5) dX12_memo_5 rfl rfl ?_
  refine tz_iload_n (pc := 6) dX12_memo_6 rfl rfl ?_
  refine tz_iconst (pc := 7) dX12_memo_7 ?_
  refine tz_aload_n (pc := 8) dX12_memo_8 rfl rfl ?_
  refine tz_fR (pc := 9) dX12_memo_9 fl_X12_9 r_164_0 ?_
  refine tz_bipush (pc := 12) dX12_memo_12 (by decide) ?_
  refine tz_aL (pc := 14) (z := 40) (v := (J 165 40)) dX12_memo_14 a_165 rfl (by decide) rfl (fun r_14 => ?_)
  refine tz_iconst (pc := 15) dX12_memo_15 ?_
  refine tz_isub (pc := 16) (v := (J 165 40) - 1) dX12_memo_16 rfl ?_
  refine tz_cS (pc := 17) (m_within hl n _ _ _ _ (by omega) (by decide) (by omega)) sl_X12_283 dX12_memo_17 rfl rfl (Nat.le_of_ble_eq_true rfl) ⟨(Nat.le_of_ble_eq_true rfl), (Nat.le_of_ble_eq_true rfl)⟩ rfl rfl (Nat.le_of_ble_eq_true rfl) (Nat.le_of_ble_eq_true rfl) (fun r9 J_17 hq9 => ?_)
  obtain ⟨z_17, rfl, hz_17, rfl, hw_17⟩ := hq9
  refine tz_if_eq (pc := 20) (tgt := 36) dX12_memo_20 (by decide) (by omega) (fun h_20 => ?_) (fun h_20 => ?_)
  · refine tz_iconst (pc := 36) dX12_memo_36 ?_
    refine tz_iconst (pc := 37) dX12_memo_37 ?_
    refine tz_cV (pc := 38) (m_right hl n _ _ _ (by decide) (by decide) (by decide)) vl_X12_334 dX12_memo_38 o_164 rfl rfl (Nat.le_of_ble_eq_true rfl) ⟨(Nat.le_of_ble_eq_true rfl), (Nat.le_of_ble_eq_true rfl)⟩ rfl rfl (Nat.le_of_ble_eq_true rfl) (Nat.le_of_ble_eq_true rfl) (fun r9 J_38 hq9 => ?_)
    obtain ⟨z_38, rfl, hz_38, f_38, b_38, c_38⟩ := hq9
    have x_38 : MZ J_38 (zup J 164 8 0) := MZ.f f_38 (by decide) (by decide)
    have y_38 := MZ.tr (MZ.up (k := 8) MZ.rf (by decide)) x_38
    obtain rfl : z_38 = 0 := by rcases b_38 with e9 | e9; exact e9; exact absurd (c_38 e9).2.2 (by decide)
    refine tz_if_eqT (pc := 41) (tgt := 60) (by decide) dX12_memo_41 (by decide) (by decide) ?_
    refine tz_iconst (pc := 60) dX12_memo_60 ?_
    exact tz_iret (pc := 61) (z := 0) dX12_memo_61 rfl (Nat.le_of_ble_eq_true rfl) (Nat.le_of_ble_eq_true rfl) ⟨Nat.le_refl _, Nat.le_add_right _ _⟩ ⟨_, rfl, (by decide), ⟨MQr.z hI y_38, MFI.z y_38, MBT.z hI y_38, u9.z y_38⟩⟩
  · refine tz_iload_n (pc := 23) dX12_memo_23 rfl rfl ?_
    refine tz_iconst (pc := 24) dX12_memo_24 ?_
    refine tz_iconst (pc := 25) dX12_memo_25 ?_
    refine tz_cS (pc := 26) (m_within hl n _ _ _ _ (by omega) (by decide) (by decide)) sl_X12_283 dX12_memo_26 rfl rfl (Nat.le_of_ble_eq_true rfl) ⟨(Nat.le_of_ble_eq_true rfl), (Nat.le_of_ble_eq_true rfl)⟩ rfl rfl (Nat.le_of_ble_eq_true rfl) (Nat.le_of_ble_eq_true rfl) (fun r9 J_26 hq9 => ?_)
    obtain ⟨z_26, rfl, hz_26, rfl, hw_26⟩ := hq9
    refine tz_if_eq (pc := 29) (tgt := 36) dX12_memo_29 (by decide) (by omega) (fun h_29 => ?_) (fun h_29 => ?_)
    · refine tz_iconst (pc := 36) dX12_memo_36 ?_
      refine tz_iconst (pc := 37) dX12_memo_37 ?_
      refine tz_cV (pc := 38) (m_right hl n _ _ _ (by decide) (by decide) (by decide)) vl_X12_334 dX12_memo_38 o_164 rfl rfl (Nat.le_of_ble_eq_true rfl) ⟨(Nat.le_of_ble_eq_true rfl), (Nat.le_of_ble_eq_true rfl)⟩ rfl rfl (Nat.le_of_ble_eq_true rfl) (Nat.le_of_ble_eq_true rfl) (fun r9 J_38 hq9 => ?_)
      obtain ⟨z_38, rfl, hz_38, f_38, b_38, c_38⟩ := hq9
      have x_38 : MZ J_38 (zup J 164 8 0) := MZ.f f_38 (by decide) (by decide)
      have y_38 := MZ.tr (MZ.up (k := 8) MZ.rf (by decide)) x_38
      obtain rfl : z_38 = 0 := by rcases b_38 with e9 | e9; exact e9; exact absurd (c_38 e9).2.2 (by decide)
      refine tz_if_eqT (pc := 41) (tgt := 60) (by decide) dX12_memo_41 (by decide) (by decide) ?_
      refine tz_iconst (pc := 60) dX12_memo_60 ?_
      exact tz_iret (pc := 61) (z := 0) dX12_memo_61 rfl (Nat.le_of_ble_eq_true rfl) (Nat.le_of_ble_eq_true rfl) ⟨Nat.le_refl _, Nat.le_add_right _ _⟩ ⟨_, rfl, (by decide), ⟨MQr.z hI y_38, MFI.z y_38, MBT.z hI y_38, u9.z y_38⟩⟩
    · refine tz_iconst (pc := 32) dX12_memo_32 ?_
      refine tz_goto (pc := 33) (tgt := 37) dX12_memo_33 (by decide) ?_
      refine tz_iconst (pc := 37) dX12_memo_37 ?_
      refine tz_cV (pc := 38) (m_right hl n _ _ _ (by decide) (by decide) (by decide)) vl_X12_334 dX12_memo_38 o_164 rfl rfl (Nat.le_of_ble_eq_true rfl) ⟨(Nat.le_of_ble_eq_true rfl), (Nat.le_of_ble_eq_true rfl)⟩ rfl rfl (Nat.le_of_ble_eq_true rfl) (Nat.le_of_ble_eq_true rfl) (fun r9 J_38 hq9 => ?_)
      obtain ⟨z_38, rfl, hz_38, f_38, b_38, c_38⟩ := hq9
      have x_38 : MZ J_38 (zup J 164 8 0) := MZ.f f_38 (by decide) (by decide)
      have y_38 := MZ.tr (MZ.up (k := 8) MZ.rf (by decide)) x_38
      refine tz_if_eq (pc := 41) (tgt := 60) dX12_memo_41 (by decide) (by omega) (fun h_41 => ?_) (fun h_41 => ?_)
      · refine tz_iconst (pc := 60) dX12_memo_60 ?_
        exact tz_iret (pc := 61) (z := 0) dX12_memo_61 rfl (Nat.le_of_ble_eq_true rfl) (Nat.le_of_ble_eq_true rfl) ⟨Nat.le_refl _, Nat.le_add_right _ _⟩ ⟨_, rfl, (by decide), ⟨MQr.z hI y_38, MFI.z y_38, MBT.z hI y_38, u9.z y_38⟩⟩
      · refine tz_aload_n (pc := 44) dX12_memo_44 rfl rfl ?_
        refine tz_fR (pc := 45) dX12_memo_45 fl_X12_9 r_164_0 ?_
        refine tz_bipush (pc := 48) dX12_memo_48 (by decide) ?_
        refine tz_iconst (pc := 50) dX12_memo_50 ?_
        refine tz_iload_n (pc := 51) dX12_memo_51 rfl rfl ?_
        refine tz_imul (pc := 52) (v := 2 * x) dX12_memo_52 rfl ?_
        refine tz_iadd (pc := 53) (v := 41 + (2 * x)) dX12_memo_53 rfl ?_
        refine tz_iload_n (pc := 54) dX12_memo_54 rfl rfl ?_
        refine tz_iadd (pc := 55) (v := (41 + (2 * x)) + y) dX12_memo_55 rfl ?_
        refine tz_aL (pc := 56) (z := ((41 + (2 * x)) + y)) (v := (J 165 ((41 + (2 * x)) + y))) dX12_memo_56 a_165 rfl (by omega) (Eq.trans (congrFun (x_38.1 165 rfl) ((41 + (2 * x)) + y)) rfl) (fun r_56 => ?_)
        refine tz_goto (pc := 57) (tgt := 61) dX12_memo_57 (by decide) ?_
        exact tz_iret (pc := 61) (z := (J 165 ((41 + (2 * x)) + y))) dX12_memo_61 rfl (Nat.le_of_ble_eq_true rfl) (Nat.le_of_ble_eq_true rfl) ⟨Nat.le_refl _, Nat.le_add_right _ _⟩ ⟨_, rfl, (by omega), ⟨MQr.z hI y_38, MFI.z y_38, MBT.z hI y_38, u9.z y_38⟩⟩

set_option maxHeartbeats 4000000 in
set_option maxRecDepth 100000 in
theorem k_bound {l : Launch} {G : tb_G} (hl : l.stackTraces = false) (n : Nat) (J : zJ) (x : Int) (hr_x : -2147483648 ≤ x ∧ x < 2147483648) (m : Int) (pn : Int) (RR : Int → Int → Int) (hI : MI J m) (u9 : MUr J pn RR)  : tz_Ok l G M_X12_bound 1 0 0 [.ref 164, zi x] n J (zqi (fun z J' => MQr J' J ∧ MFI J' J ∧ MBT J' (tbz J) ∧ MUr J' pn RR)) zN := by
  refine tz_Ok.of hl (by decide +kernel) rfl (tb_c1 rfl) (Nat.le_of_ble_eq_true rfl) ?_
  show tz_At l G M_X12_bound (tb_rm 1 0 0) none (tb_ZM G 0 0 (zQ n 0 (zqi (fun z J' => MQr J' J ∧ MFI J' J ∧ MBT J' (tbz J) ∧ MUr J' pn RR))) (zX n 0 zN)) 0 0 n J 0 [some (.ref 164), some (zi x)] []
  have hT := hI.told
  have hW := hI.row
  have hM := hI.1
  have hL := hI.2.1
  have hB := hL.2.2.2
  refine tz_aload_n (pc := 0) dX12_bound_0 rfl rfl ?_
  refine tz_iconst (pc := 1) dX12_bound_1 ?_
  refine tz_pI (pc := 2) (kz := 8) dX12_bound_2 fl_X12_68 i_164_8 rfl rfl (by decide) ?_
  refine tz_aload_n (pc := 5) dX12_bound_5 rfl rfl ?_
  refine tz_iload_n (pc := 6) dX12_bound_6 rfl rfl ?_
  refine tz_iconst (pc := 7) dX12_bound_7 ?_
  refine tz_bipush (pc := 8) dX12_bound_8 (by decide) ?_
  refine tz_cS (pc := 10) (m_within hl n _ _ _ _ (by omega) (by decide) (by decide)) sl_X12_283 dX12_bound_10 rfl rfl (Nat.le_of_ble_eq_true rfl) ⟨(Nat.le_of_ble_eq_true rfl), (Nat.le_of_ble_eq_true rfl)⟩ rfl rfl (Nat.le_of_ble_eq_true rfl) (Nat.le_of_ble_eq_true rfl) (fun r9 J_10 hq9 => ?_)
  obtain ⟨z_10, rfl, hz_10, rfl, hw_10⟩ := hq9
  refine tz_iconst (pc := 13) dX12_bound_13 ?_
  refine tz_cV (pc := 14) (m_right hl n _ _ _ (by omega) (by decide) (by decide)) vl_X12_334 dX12_bound_14 o_164 rfl rfl (Nat.le_of_ble_eq_true rfl) ⟨(Nat.le_of_ble_eq_true rfl), (Nat.le_of_ble_eq_true rfl)⟩ rfl rfl (Nat.le_of_ble_eq_true rfl) (Nat.le_of_ble_eq_true rfl) (fun r9 J_14 hq9 => ?_)
  obtain ⟨z_14, rfl, hz_14, f_14, b_14, c_14⟩ := hq9
  have x_14 : MZ J_14 (zup J 164 8 0) := MZ.f f_14 (by decide) (by decide)
  have y_14 := MZ.tr (MZ.up (k := 8) MZ.rf (by decide)) x_14
  have e_14 : z_14 = 1 → ¬ z_10 = 0 := fun q9 => (c_14 q9).2.2.resolve_right (by decide)
  refine tz_if_eq (pc := 17) (tgt := 33) dX12_bound_17 (by decide) (by omega) (fun h_17 => ?_) (fun h_17 => ?_)
  · refine tz_iconst (pc := 33) dX12_bound_33 ?_
    exact tz_iret (pc := 34) (z := 0) dX12_bound_34 rfl (Nat.le_of_ble_eq_true rfl) (Nat.le_of_ble_eq_true rfl) ⟨Nat.le_refl _, Nat.le_add_right _ _⟩ ⟨_, rfl, (by decide), ⟨MQr.z hI y_14, MFI.z y_14, MBT.z hI y_14, u9.z y_14⟩⟩
  · refine tz_aload_n (pc := 20) dX12_bound_20 rfl rfl ?_
    refine tz_fR (pc := 21) dX12_bound_21 fl_X12_9 r_164_0 ?_
    refine tz_iconst (pc := 24) dX12_bound_24 ?_
    refine tz_iload_n (pc := 25) dX12_bound_25 rfl rfl ?_
    refine tz_iadd (pc := 26) (v := 1 + x) dX12_bound_26 rfl ?_
    refine tz_aL (pc := 27) (z := (1 + x)) (v := (J 165 (1 + x))) dX12_bound_27 a_165 rfl (by omega) (Eq.trans (congrFun (x_14.1 165 rfl) (1 + x)) rfl) (fun r_27 => ?_)
    refine tz_iconst (pc := 28) dX12_bound_28 ?_
    refine tz_isub (pc := 29) (v := (J 165 (1 + x)) - 1) dX12_bound_29 rfl ?_
    refine tz_goto (pc := 30) (tgt := 34) dX12_bound_30 (by decide) ?_
    refine tz_tw ?_
    have rw_34 := zw_rg ((J 165 (1 + x)) - 1)
    exact tz_iret (pc := 34) (z := (zw ((J 165 (1 + x)) - 1))) dX12_bound_34 rfl (Nat.le_of_ble_eq_true rfl) (Nat.le_of_ble_eq_true rfl) ⟨Nat.le_refl _, Nat.le_add_right _ _⟩ ⟨_, rfl, (zw_rg _), ⟨MQr.z hI y_14, MFI.z y_14, MBT.z hI y_14, u9.z y_14⟩⟩

set_option maxHeartbeats 4000000 in
set_option maxRecDepth 100000 in
theorem k_term {l : Launch} {G : tb_G} (hl : l.stackTraces = false) (n : Nat) (J : zJ) (x : Int) (y : Int) (hr_x : -2147483648 ≤ x ∧ x < 2147483648) (hr_y : -2147483648 ≤ y ∧ y < 2147483648) (m : Int) (pn : Int) (RR : Int → Int → Int) (hI : MI J m) (u9 : MUr J pn RR)  : tz_Ok l G M_X12_term 20 0 0 [.ref 164, zi x, zi y] n J (zqi (fun z J' => MQr J' J ∧ MFI J' J ∧ MBT J' (tbz J) ∧ MUr J' pn RR)) zN := by
  refine tz_Ok.of hl (by decide +kernel) rfl (tb_c1 rfl) (Nat.le_of_ble_eq_true rfl) ?_
  show tz_At l G M_X12_term (tb_rm 20 0 0) none (tb_ZM G 0 0 (zQ n 0 (zqi (fun z J' => MQr J' J ∧ MFI J' J ∧ MBT J' (tbz J) ∧ MUr J' pn RR))) (zX n 0 zN)) 0 0 n J 0 [some (.ref 164), some (zi x), some (zi y)] []
  have hT := hI.told
  have hW := hI.row
  have hM := hI.1
  have hL := hI.2.1
  refine tz_aload_n (pc := 0) dX12_term_0 rfl rfl ?_
  refine tz_iconst (pc := 1) dX12_term_1 ?_
  refine tz_pI (pc := 2) (kz := 8) dX12_term_2 fl_X12_68 i_164_8 rfl rfl (by decide) ?_
  refine tz_aload_n (pc := 5) dX12_term_5 rfl rfl ?_
  refine tz_iload_n (pc := 6) dX12_term_6 rfl rfl ?_
  refine tz_cV (pc := 7) (m_isTermNow hl n _ _ (by omega) (by rw [(show ((zup J 164 8 0) : zJ) 165 0 = (J 165 0) from rfl)]; omega)) vl_X12_379 dX12_term_7 o_164 rfl rfl (Nat.le_of_ble_eq_true rfl) ⟨(Nat.le_of_ble_eq_true rfl), (Nat.le_of_ble_eq_true rfl)⟩ rfl rfl (Nat.le_of_ble_eq_true rfl) (Nat.le_of_ble_eq_true rfl) (fun r9 J_7 hq9 => ?_)
  obtain ⟨z_7, rfl, hz_7, f_7, b_7, c_7⟩ := hq9
  have x_7 : MZ J_7 (zup J 164 8 0) := MZ.f f_7 (by decide) (by decide)
  have y_7 := MZ.tr (MZ.up (k := 8) MZ.rf (by decide)) x_7
  rw [(show ((zup J 164 8 0) : zJ) 165 0 = (J 165 0) from rfl)] at c_7
  refine tz_if_eq (pc := 10) (tgt := 28) dX12_term_10 (by decide) (by omega) (fun h_10 => ?_) (fun h_10 => ?_)
  · refine tz_iconst (pc := 28) dX12_term_28 ?_
    exact tz_iret (pc := 29) (z := 0) dX12_term_29 rfl (Nat.le_of_ble_eq_true rfl) (Nat.le_of_ble_eq_true rfl) ⟨Nat.le_refl _, Nat.le_add_right _ _⟩ ⟨_, rfl, (by decide), ⟨MQr.z hI y_7, MFI.z y_7, MBT.z hI y_7, u9.z y_7⟩⟩
  · refine tz_aload_n (pc := 13) dX12_term_13 rfl rfl ?_
    refine tz_iload_n (pc := 14) dX12_term_14 rfl rfl ?_
    refine tz_iconst (pc := 15) dX12_term_15 ?_
    refine tz_bipush (pc := 16) dX12_term_16 (by decide) ?_
    refine tz_cS (pc := 18) (m_within hl n _ _ _ _ (by omega) (by decide) (by decide)) sl_X12_283 dX12_term_18 rfl rfl (Nat.le_of_ble_eq_true rfl) ⟨(Nat.le_of_ble_eq_true rfl), (Nat.le_of_ble_eq_true rfl)⟩ rfl rfl (Nat.le_of_ble_eq_true rfl) (Nat.le_of_ble_eq_true rfl) (fun r9 J_18 hq9 => ?_)
    obtain ⟨z_18, rfl, hz_18, rfl, hw_18⟩ := hq9
    refine tz_iconst (pc := 21) dX12_term_21 ?_
    refine tz_cV (pc := 22) (m_right hl n _ _ _ (by omega) (by decide) (by decide)) vl_X12_334 dX12_term_22 o_164 rfl rfl (Nat.le_of_ble_eq_true rfl) ⟨(Nat.le_of_ble_eq_true rfl), (Nat.le_of_ble_eq_true rfl)⟩ rfl rfl (Nat.le_of_ble_eq_true rfl) (Nat.le_of_ble_eq_true rfl) (fun r9 J_22 hq9 => ?_)
    obtain ⟨z_22, rfl, hz_22, f_22, b_22, c_22⟩ := hq9
    have x_22 : MZ J_22 J_7 := MZ.f f_22 (by decide) (by decide)
    have y_22 := MZ.tr y_7 x_22
    have e_22 : z_22 = 1 → ¬ z_18 = 0 := fun q9 => (c_22 q9).2.2.resolve_right (by decide)
    refine tz_if_ne (pc := 25) (tgt := 30) dX12_term_25 (by decide) (by omega) (fun h_25 => ?_) (fun h_25 => ?_)
    · refine tz_iload_n (pc := 30) dX12_term_30 rfl rfl ?_
      by_cases hs_31 : y < 0 ∨ 8 < y
      · refine tz_tabOut (pc := 31) (tgt := 159) dX12_term_31 (by omega) hs_31 (by decide) ?_
        refine tz_aload_n (pc := 159) dX12_term_159 rfl rfl ?_
        refine tz_iload_n (pc := 160) dX12_term_160 rfl rfl ?_
        refine tz_cV (pc := 161) (m_settled hl n _ _ (by omega) 0 0 0 (J 164 9) m (hM.z y_22) (MR.z hL.1 y_22) (by omega)) vl_X12_230 dX12_term_161 o_164 rfl rfl (Nat.le_of_ble_eq_true rfl) ⟨(Nat.le_of_ble_eq_true rfl), (Nat.le_of_ble_eq_true rfl)⟩ rfl rfl (Nat.le_of_ble_eq_true rfl) (Nat.le_of_ble_eq_true rfl) (fun r9 J_161 hq9 => ?_)
        obtain ⟨z_161, rfl, hz_161, b_161, f_161⟩ := hq9
        have x_161 : MZ J_161 J_22 := MZ.c f_161 (by decide)
        have y_161 := MZ.tr y_22 x_161
        refine tz_if_eq (pc := 164) (tgt := 171) dX12_term_164 (by decide) (by omega) (fun h_164 => ?_) (fun h_164 => ?_)
        · refine tz_iconst (pc := 171) dX12_term_171 ?_
          exact tz_iret (pc := 172) (z := 0) dX12_term_172 rfl (Nat.le_of_ble_eq_true rfl) (Nat.le_of_ble_eq_true rfl) ⟨Nat.le_refl _, Nat.le_add_right _ _⟩ ⟨_, rfl, (by decide), ⟨MQr.z hI y_161, MFI.z y_161, MBT.z hI y_161, u9.z y_161⟩⟩
        · refine tz_iconst (pc := 167) dX12_term_167 ?_
          refine tz_goto (pc := 168) (tgt := 172) dX12_term_168 (by decide) ?_
          exact tz_iret (pc := 172) (z := 1) dX12_term_172 rfl (Nat.le_of_ble_eq_true rfl) (Nat.le_of_ble_eq_true rfl) ⟨Nat.le_refl _, Nat.le_add_right _ _⟩ ⟨_, rfl, (by decide), ⟨MQr.z hI y_161, MFI.z y_161, MBT.z hI y_161, u9.z y_161⟩⟩
      · have hs9 : y = 0 ∨ y = 1 ∨ y = 2 ∨ y = 3 ∨ y = 4 ∨ y = 5 ∨ y = 6 ∨ y = 7 ∨ y = 8 := by omega
        rcases hs9 with hc_31 | hc_31 | hc_31 | hc_31 | hc_31 | hc_31 | hc_31 | hc_31 | hc_31
        · refine tz_tabIn (pc := 31) (tgt := 80) 0 dX12_term_31 hc_31 (by decide) rfl (by decide) ?_
          refine tz_aload_n (pc := 80) dX12_term_80 rfl rfl ?_
          refine tz_iload_n (pc := 81) dX12_term_81 rfl rfl ?_
          refine tz_cV (pc := 82) (m_isVar hl n _ _ (by omega) 0 0 0 (J 164 9) m (hM.z y_22) (by omega) ) vl_X12_78 dX12_term_82 o_164 rfl rfl (Nat.le_of_ble_eq_true rfl) ⟨(Nat.le_of_ble_eq_true rfl), (Nat.le_of_ble_eq_true rfl)⟩ rfl rfl (Nat.le_of_ble_eq_true rfl) (Nat.le_of_ble_eq_true rfl) (fun r9 J_82 hq9 => ?_)
          obtain ⟨z_82, rfl, hz_82, rfl, hv_82⟩ := hq9
          refine tz_if_eq (pc := 85) (tgt := 92) dX12_term_85 (by decide) (by omega) (fun h_85 => ?_) (fun h_85 => ?_)
          · refine tz_aload_n (pc := 92) dX12_term_92 rfl rfl ?_
            refine tz_iload_n (pc := 93) dX12_term_93 rfl rfl ?_
            refine tz_cV (pc := 94) (m_head hl n _ _ (by omega) 0 0 0 (J 164 9) m (hM.z y_22) (by omega) ) vl_X12_74 dX12_term_94 o_164 rfl rfl (Nat.le_of_ble_eq_true rfl) ⟨(Nat.le_of_ble_eq_true rfl), (Nat.le_of_ble_eq_true rfl)⟩ rfl rfl (Nat.le_of_ble_eq_true rfl) (Nat.le_of_ble_eq_true rfl) (fun r9 J_94 hq9 => ?_)
            obtain ⟨z_94, rfl, hz_94, rfl, hh_94⟩ := hq9
            exact tz_iret (pc := 97) (z := z_94) dX12_term_97 rfl (Nat.le_of_ble_eq_true rfl) (Nat.le_of_ble_eq_true rfl) ⟨Nat.le_refl _, Nat.le_add_right _ _⟩ ⟨_, rfl, (by omega), ⟨MQr.z hI y_22, MFI.z y_22, MBT.z hI y_22, u9.z y_22⟩⟩
          · refine tz_iconst (pc := 88) dX12_term_88 ?_
            refine tz_goto (pc := 89) (tgt := 97) dX12_term_89 (by decide) ?_
            exact tz_iret (pc := 97) (z := (-1)) dX12_term_97 rfl (Nat.le_of_ble_eq_true rfl) (Nat.le_of_ble_eq_true rfl) ⟨Nat.le_refl _, Nat.le_add_right _ _⟩ ⟨_, rfl, (by decide), ⟨MQr.z hI y_22, MFI.z y_22, MBT.z hI y_22, u9.z y_22⟩⟩
        · refine tz_tabIn (pc := 31) (tgt := 98) 1 dX12_term_31 hc_31 (by decide) rfl (by decide) ?_
          refine tz_aload_n (pc := 98) dX12_term_98 rfl rfl ?_
          refine tz_iload_n (pc := 99) dX12_term_99 rfl rfl ?_
          refine tz_cV (pc := 100) (m_isVar hl n _ _ (by omega) 0 0 0 (J 164 9) m (hM.z y_22) (by omega) ) vl_X12_78 dX12_term_100 o_164 rfl rfl (Nat.le_of_ble_eq_true rfl) ⟨(Nat.le_of_ble_eq_true rfl), (Nat.le_of_ble_eq_true rfl)⟩ rfl rfl (Nat.le_of_ble_eq_true rfl) (Nat.le_of_ble_eq_true rfl) (fun r9 J_100 hq9 => ?_)
          obtain ⟨z_100, rfl, hz_100, rfl, hv_100⟩ := hq9
          refine tz_if_eq (pc := 103) (tgt := 114) dX12_term_103 (by decide) (by omega) (fun h_103 => ?_) (fun h_103 => ?_)
          · refine tz_iconst (pc := 114) dX12_term_114 ?_
            exact tz_iret (pc := 115) (z := (-1)) dX12_term_115 rfl (Nat.le_of_ble_eq_true rfl) (Nat.le_of_ble_eq_true rfl) ⟨Nat.le_refl _, Nat.le_add_right _ _⟩ ⟨_, rfl, (by decide), ⟨MQr.z hI y_22, MFI.z y_22, MBT.z hI y_22, u9.z y_22⟩⟩
          · refine tz_aload_n (pc := 106) dX12_term_106 rfl rfl ?_
            refine tz_iload_n (pc := 107) dX12_term_107 rfl rfl ?_
            refine tz_cV (pc := 108) (m_varOf hl n _ _ (by omega) 0 0 0 (J 164 9) m (hM.z y_22) (by omega) ) vl_X12_123 dX12_term_108 o_164 rfl rfl (Nat.le_of_ble_eq_true rfl) ⟨(Nat.le_of_ble_eq_true rfl), (Nat.le_of_ble_eq_true rfl)⟩ rfl rfl (Nat.le_of_ble_eq_true rfl) (Nat.le_of_ble_eq_true rfl) (fun r9 J_108 hq9 => ?_)
            obtain ⟨z_108, rfl, hz_108, rfl, hh_108⟩ := hq9
            refine tz_goto (pc := 111) (tgt := 115) dX12_term_111 (by decide) ?_
            exact tz_iret (pc := 115) (z := z_108) dX12_term_115 rfl (Nat.le_of_ble_eq_true rfl) (Nat.le_of_ble_eq_true rfl) ⟨Nat.le_refl _, Nat.le_add_right _ _⟩ ⟨_, rfl, (by omega), ⟨MQr.z hI y_22, MFI.z y_22, MBT.z hI y_22, u9.z y_22⟩⟩
        · refine tz_tabIn (pc := 31) (tgt := 116) 2 dX12_term_31 hc_31 (by decide) rfl (by decide) ?_
          refine tz_aload_n (pc := 116) dX12_term_116 rfl rfl ?_
          refine tz_iload_n (pc := 117) dX12_term_117 rfl rfl ?_
          refine tz_cV (pc := 118) (m_size hl n _ _ (by omega) 0 0 0 (J 164 9) m (hM.z y_22) (by omega) ) vl_X12_114 dX12_term_118 o_164 rfl rfl (Nat.le_of_ble_eq_true rfl) ⟨(Nat.le_of_ble_eq_true rfl), (Nat.le_of_ble_eq_true rfl)⟩ rfl rfl (Nat.le_of_ble_eq_true rfl) (Nat.le_of_ble_eq_true rfl) (fun r9 J_118 hq9 => ?_)
          obtain ⟨z_118, rfl, hz_118, rfl, hh_118⟩ := hq9
          exact tz_iret (pc := 121) (z := z_118) dX12_term_121 rfl (Nat.le_of_ble_eq_true rfl) (Nat.le_of_ble_eq_true rfl) ⟨Nat.le_refl _, Nat.le_add_right _ _⟩ ⟨_, rfl, (by omega), ⟨MQr.z hI y_22, MFI.z y_22, MBT.z hI y_22, u9.z y_22⟩⟩
        · refine tz_tabIn (pc := 31) (tgt := 122) 3 dX12_term_31 hc_31 (by decide) rfl (by decide) ?_
          refine tz_aload_n (pc := 122) dX12_term_122 rfl rfl ?_
          refine tz_iload_n (pc := 123) dX12_term_123 rfl rfl ?_
          refine tz_cV (pc := 124) (m_shared hl n _ _ (by omega) 0 0 0 (J 164 9) m (hM.z y_22) (by omega) ) vl_X12_382 dX12_term_124 o_164 rfl rfl (Nat.le_of_ble_eq_true rfl) ⟨(Nat.le_of_ble_eq_true rfl), (Nat.le_of_ble_eq_true rfl)⟩ rfl rfl (Nat.le_of_ble_eq_true rfl) (Nat.le_of_ble_eq_true rfl) (fun r9 J_124 hq9 => ?_)
          obtain ⟨z_124, rfl, hz_124, rfl⟩ := hq9
          exact tz_iret (pc := 127) (z := z_124) dX12_term_127 rfl (Nat.le_of_ble_eq_true rfl) (Nat.le_of_ble_eq_true rfl) ⟨Nat.le_refl _, Nat.le_add_right _ _⟩ ⟨_, rfl, (by omega), ⟨MQr.z hI y_22, MFI.z y_22, MBT.z hI y_22, u9.z y_22⟩⟩
        · refine tz_tabIn (pc := 31) (tgt := 128) 4 dX12_term_31 hc_31 (by decide) rfl (by decide) ?_
          refine tz_aload_n (pc := 128) dX12_term_128 rfl rfl ?_
          refine tz_fR (pc := 129) dX12_term_129 fl_X12_19 r_164_3 ?_
          refine tz_iload_n (pc := 132) dX12_term_132 rfl rfl ?_
          refine tz_aL (pc := 133) (z := x) (v := (J 168 x)) dX12_term_133 a_168 rfl (by omega) (Eq.trans (congrFun (x_22.1 168 rfl) x) (Eq.trans (congrFun (x_7.1 168 rfl) x) rfl)) (fun r_133 => ?_)
          exact tz_iret (pc := 134) (z := (J 168 x)) dX12_term_134 rfl (Nat.le_of_ble_eq_true rfl) (Nat.le_of_ble_eq_true rfl) ⟨Nat.le_refl _, Nat.le_add_right _ _⟩ ⟨_, rfl, (by omega), ⟨MQr.z hI y_22, MFI.z y_22, MBT.z hI y_22, u9.z y_22⟩⟩
        · refine tz_tabIn (pc := 31) (tgt := 135) 5 dX12_term_31 hc_31 (by decide) rfl (by decide) ?_
          refine tz_aload_n (pc := 135) dX12_term_135 rfl rfl ?_
          refine tz_iload_n (pc := 136) dX12_term_136 rfl rfl ?_
          refine tz_cV (pc := 137) (m_weight hl n _ _ (by omega) 0 0 0 (J 164 9) m (hM.z y_22) (by omega) ) vl_X12_120 dX12_term_137 o_164 rfl rfl (Nat.le_of_ble_eq_true rfl) ⟨(Nat.le_of_ble_eq_true rfl), (Nat.le_of_ble_eq_true rfl)⟩ rfl rfl (Nat.le_of_ble_eq_true rfl) (Nat.le_of_ble_eq_true rfl) (fun r9 J_137 hq9 => ?_)
          obtain ⟨z_137, rfl, hz_137, rfl⟩ := hq9
          exact tz_iret (pc := 140) (z := z_137) dX12_term_140 rfl (Nat.le_of_ble_eq_true rfl) (Nat.le_of_ble_eq_true rfl) ⟨Nat.le_refl _, Nat.le_add_right _ _⟩ ⟨_, rfl, (by omega), ⟨MQr.z hI y_22, MFI.z y_22, MBT.z hI y_22, u9.z y_22⟩⟩
        · refine tz_tabIn (pc := 31) (tgt := 141) 6 dX12_term_31 hc_31 (by decide) rfl (by decide) ?_
          refine tz_aload_n (pc := 141) dX12_term_141 rfl rfl ?_
          refine tz_iload_n (pc := 142) dX12_term_142 rfl rfl ?_
          refine tz_cV (pc := 143) (m_vars hl n _ _ (by omega) 0 0 0 (J 164 9) m (hM.z y_22) (by omega) ) vl_X12_126 dX12_term_143 o_164 rfl rfl (Nat.le_of_ble_eq_true rfl) ⟨(Nat.le_of_ble_eq_true rfl), (Nat.le_of_ble_eq_true rfl)⟩ rfl rfl (Nat.le_of_ble_eq_true rfl) (Nat.le_of_ble_eq_true rfl) (fun r9 J_143 hq9 => ?_)
          obtain ⟨z_143, rfl, hz_143, rfl⟩ := hq9
          exact tz_iret (pc := 146) (z := z_143) dX12_term_146 rfl (Nat.le_of_ble_eq_true rfl) (Nat.le_of_ble_eq_true rfl) ⟨Nat.le_refl _, Nat.le_add_right _ _⟩ ⟨_, rfl, (by omega), ⟨MQr.z hI y_22, MFI.z y_22, MBT.z hI y_22, u9.z y_22⟩⟩
        · refine tz_tabIn (pc := 31) (tgt := 147) 7 dX12_term_31 hc_31 (by decide) rfl (by decide) ?_
          refine tz_aload_n (pc := 147) dX12_term_147 rfl rfl ?_
          refine tz_iload_n (pc := 148) dX12_term_148 rfl rfl ?_
          refine tz_cV (pc := 149) (m_uses hl n _ _ (by omega) 0 0 0 (J 164 9) m (hM.z y_22)  ) vl_X12_385 dX12_term_149 o_164 rfl rfl (Nat.le_of_ble_eq_true rfl) ⟨(Nat.le_of_ble_eq_true rfl), (Nat.le_of_ble_eq_true rfl)⟩ rfl rfl (Nat.le_of_ble_eq_true rfl) (Nat.le_of_ble_eq_true rfl) (fun r9 J_149 hq9 => ?_)
          obtain ⟨z_149, rfl, hz_149, rfl, hh_149⟩ := hq9
          exact tz_iret (pc := 152) (z := z_149) dX12_term_152 rfl (Nat.le_of_ble_eq_true rfl) (Nat.le_of_ble_eq_true rfl) ⟨Nat.le_refl _, Nat.le_add_right _ _⟩ ⟨_, rfl, (by omega), ⟨MQr.z hI y_22, MFI.z y_22, MBT.z hI y_22, u9.z y_22⟩⟩
        · refine tz_tabIn (pc := 31) (tgt := 153) 8 dX12_term_31 hc_31 (by decide) rfl (by decide) ?_
          refine tz_aload_n (pc := 153) dX12_term_153 rfl rfl ?_
          refine tz_iload_n (pc := 154) dX12_term_154 rfl rfl ?_
          have h16_155 : (J_22 : zJ) 164 16 = 0 := (show (J_22 : zJ) 164 16 = (J 164 16) from (Eq.trans (x_22.2 16 (by decide) (by decide)) (Eq.trans (x_7.2 16 (by decide) (by decide)) rfl))).trans hT.2.2.2.1.2.1
          have h26_155 : (J_22 : zJ) 165 (0 + 26) = J 165 26 := by rw [Int.zero_add]; exact (show (J_22 : zJ) 165 26 = (J 165 26) from (Eq.trans (congrFun (x_22.1 165 rfl) 26) (Eq.trans (congrFun (x_7.1 165 rfl) 26) rfl)))
          refine tz_cV (pc := 155) (m_entryOf hl n _ _ (by omega) (by rw [h16_155]; decide) (by rw [h16_155, h26_155]; omega)) vl_X12_307 dX12_term_155 o_164 rfl rfl (Nat.le_of_ble_eq_true rfl) ⟨(Nat.le_of_ble_eq_true rfl), (Nat.le_of_ble_eq_true rfl)⟩ rfl rfl (Nat.le_of_ble_eq_true rfl) (Nat.le_of_ble_eq_true rfl) (fun r9 J_155 hq9 => ?_)
          obtain ⟨z_155, rfl, hz_155, rfl, he_155⟩ := hq9
          rw [h16_155, h26_155] at he_155
          exact tz_iret (pc := 158) (z := z_155) dX12_term_158 rfl (Nat.le_of_ble_eq_true rfl) (Nat.le_of_ble_eq_true rfl) ⟨Nat.le_refl _, Nat.le_add_right _ _⟩ ⟨_, rfl, (by omega), ⟨MQr.z hI y_22, MFI.z y_22, MBT.z hI y_22, u9.z y_22⟩⟩
    · refine tz_iconst (pc := 28) dX12_term_28 ?_
      exact tz_iret (pc := 29) (z := 0) dX12_term_29 rfl (Nat.le_of_ble_eq_true rfl) (Nat.le_of_ble_eq_true rfl) ⟨Nat.le_refl _, Nat.le_add_right _ _⟩ ⟨_, rfl, (by decide), ⟨MQr.z hI y_22, MFI.z y_22, MBT.z hI y_22, u9.z y_22⟩⟩

set_option maxHeartbeats 4000000 in
set_option maxRecDepth 100000 in
theorem k_argument {l : Launch} {G : tb_G} (hl : l.stackTraces = false) (n : Nat) (J : zJ) (x : Int) (y : Int) (hr_x : -2147483648 ≤ x ∧ x < 2147483648) (hr_y : -2147483648 ≤ y ∧ y < 2147483648) (m : Int) (pn : Int) (RR : Int → Int → Int) (hI : MI J m) (u9 : MUr J pn RR)  : tz_Ok l G M_X12_argument 3 0 0 [.ref 164, zi x, zi y] n J (zqi (fun z J' => MQr J' J ∧ MFI J' J ∧ MBT J' (tbz J) ∧ MUr J' pn RR)) zN := by
  refine tz_Ok.of hl (by decide +kernel) rfl (tb_c1 rfl) (Nat.le_of_ble_eq_true rfl) ?_
  show tz_At l G M_X12_argument (tb_rm 3 0 0) none (tb_ZM G 0 0 (zQ n 0 (zqi (fun z J' => MQr J' J ∧ MFI J' J ∧ MBT J' (tbz J) ∧ MUr J' pn RR))) (zX n 0 zN)) 0 0 n J 0 [some (.ref 164), some (zi x), some (zi y)] []
  have hT := hI.told
  have hW := hI.row
  have hM := hI.1
  have hL := hI.2.1
  refine tz_aload_n (pc := 0) dX12_argument_0 rfl rfl ?_
  refine tz_iconst (pc := 1) dX12_argument_1 ?_
  refine tz_pI (pc := 2) (kz := 8) dX12_argument_2 fl_X12_68 i_164_8 rfl rfl (by decide) ?_
  refine tz_aload_n (pc := 5) dX12_argument_5 rfl rfl ?_
  refine tz_iload_n (pc := 6) dX12_argument_6 rfl rfl ?_
  refine tz_cV (pc := 7) (m_isTermNow hl n _ _ (by omega) (by rw [(show ((zup J 164 8 0) : zJ) 165 0 = (J 165 0) from rfl)]; omega)) vl_X12_379 dX12_argument_7 o_164 rfl rfl (Nat.le_of_ble_eq_true rfl) ⟨(Nat.le_of_ble_eq_true rfl), (Nat.le_of_ble_eq_true rfl)⟩ rfl rfl (Nat.le_of_ble_eq_true rfl) (Nat.le_of_ble_eq_true rfl) (fun r9 J_7 hq9 => ?_)
  obtain ⟨z_7, rfl, hz_7, f_7, b_7, c_7⟩ := hq9
  have x_7 : MZ J_7 (zup J 164 8 0) := MZ.f f_7 (by decide) (by decide)
  have y_7 := MZ.tr (MZ.up (k := 8) MZ.rf (by decide)) x_7
  rw [(show ((zup J 164 8 0) : zJ) 165 0 = (J 165 0) from rfl)] at c_7
  refine tz_if_eq (pc := 10) (tgt := 42) dX12_argument_10 (by decide) (by omega) (fun h_10 => ?_) (fun h_10 => ?_)
  · refine tz_iconst (pc := 42) dX12_argument_42 ?_
    exact tz_iret (pc := 43) (z := 0) dX12_argument_43 rfl (Nat.le_of_ble_eq_true rfl) (Nat.le_of_ble_eq_true rfl) ⟨Nat.le_refl _, Nat.le_add_right _ _⟩ ⟨_, rfl, (by decide), ⟨MQr.z hI y_7, MFI.z y_7, MBT.z hI y_7, u9.z y_7⟩⟩
  · refine tz_aload_n (pc := 13) dX12_argument_13 rfl rfl ?_
    refine tz_iload_n (pc := 14) dX12_argument_14 rfl rfl ?_
    refine tz_iconst (pc := 15) dX12_argument_15 ?_
    refine tz_aload_n (pc := 16) dX12_argument_16 rfl rfl ?_
    refine tz_iload_n (pc := 17) dX12_argument_17 rfl rfl ?_
    refine tz_cV (pc := 18) (m_arity hl n _ _ (by omega) 0 0 0 (J 164 9) m (hM.z y_7) (by omega) ) vl_X12_111 dX12_argument_18 o_164 rfl rfl (Nat.le_of_ble_eq_true rfl) ⟨(Nat.le_of_ble_eq_true rfl), (Nat.le_of_ble_eq_true rfl)⟩ rfl rfl (Nat.le_of_ble_eq_true rfl) (Nat.le_of_ble_eq_true rfl) (fun r9 J_18 hq9 => ?_)
    obtain ⟨z_18, rfl, hz_18, rfl, hh_18⟩ := hq9
    have ha_18 := ((hM.z y_7).ar (t := x) (by omega)).1
    rw [hh_18] at ha_18
    refine tz_iconst (pc := 21) dX12_argument_21 ?_
    refine tz_isub (pc := 22) (v := z_18 - 1) dX12_argument_22 rfl ?_
    refine tz_cS (pc := 23) (m_within hl n _ _ _ _ (by omega) (by decide) (by omega)) sl_X12_283 dX12_argument_23 rfl rfl (Nat.le_of_ble_eq_true rfl) ⟨(Nat.le_of_ble_eq_true rfl), (Nat.le_of_ble_eq_true rfl)⟩ rfl rfl (Nat.le_of_ble_eq_true rfl) (Nat.le_of_ble_eq_true rfl) (fun r9 J_23 hq9 => ?_)
    obtain ⟨z_23, rfl, hz_23, rfl, hw_23⟩ := hq9
    refine tz_iconst (pc := 26) dX12_argument_26 ?_
    refine tz_cV (pc := 27) (m_right hl n _ _ _ (by omega) (by decide) (by decide)) vl_X12_334 dX12_argument_27 o_164 rfl rfl (Nat.le_of_ble_eq_true rfl) ⟨(Nat.le_of_ble_eq_true rfl), (Nat.le_of_ble_eq_true rfl)⟩ rfl rfl (Nat.le_of_ble_eq_true rfl) (Nat.le_of_ble_eq_true rfl) (fun r9 J_27 hq9 => ?_)
    obtain ⟨z_27, rfl, hz_27, f_27, b_27, c_27⟩ := hq9
    have x_27 : MZ J_27 J_7 := MZ.f f_27 (by decide) (by decide)
    have y_27 := MZ.tr y_7 x_27
    have e_27 : z_27 = 1 → ¬ z_23 = 0 := fun q9 => (c_27 q9).2.2.resolve_right (by decide)
    refine tz_if_eq (pc := 30) (tgt := 42) dX12_argument_30 (by decide) (by omega) (fun h_30 => ?_) (fun h_30 => ?_)
    · refine tz_iconst (pc := 42) dX12_argument_42 ?_
      exact tz_iret (pc := 43) (z := 0) dX12_argument_43 rfl (Nat.le_of_ble_eq_true rfl) (Nat.le_of_ble_eq_true rfl) ⟨Nat.le_refl _, Nat.le_add_right _ _⟩ ⟨_, rfl, (by decide), ⟨MQr.z hI y_27, MFI.z y_27, MBT.z hI y_27, u9.z y_27⟩⟩
    · refine tz_aload_n (pc := 33) dX12_argument_33 rfl rfl ?_
      refine tz_iload_n (pc := 34) dX12_argument_34 rfl rfl ?_
      refine tz_iload_n (pc := 35) dX12_argument_35 rfl rfl ?_
      refine tz_cV (pc := 36) (m_arg hl n _ _ _ (by omega) (by omega) 0 0 0 (J 164 9) m (hM.z y_27) (by omega) (by omega) ) vl_X12_88 dX12_argument_36 o_164 rfl rfl (Nat.le_of_ble_eq_true rfl) ⟨(Nat.le_of_ble_eq_true rfl), (Nat.le_of_ble_eq_true rfl)⟩ rfl rfl (Nat.le_of_ble_eq_true rfl) (Nat.le_of_ble_eq_true rfl) (fun r9 J_36 hq9 => ?_)
      obtain ⟨z_36, rfl, hz_36, rfl, hh_36⟩ := hq9
      refine tz_goto (pc := 39) (tgt := 43) dX12_argument_39 (by decide) ?_
      exact tz_iret (pc := 43) (z := z_36) dX12_argument_43 rfl (Nat.le_of_ble_eq_true rfl) (Nat.le_of_ble_eq_true rfl) ⟨Nat.le_refl _, Nat.le_add_right _ _⟩ ⟨_, rfl, (by omega), ⟨MQr.z hI y_27, MFI.z y_27, MBT.z hI y_27, u9.z y_27⟩⟩

set_option maxHeartbeats 4000000 in
set_option maxRecDepth 100000 in
theorem k_place {l : Launch} {G : tb_G} (hl : l.stackTraces = false) (n : Nat) (J : zJ) (x : Int) (y : Int) (hr_x : -2147483648 ≤ x ∧ x < 2147483648) (hr_y : -2147483648 ≤ y ∧ y < 2147483648) (m : Int) (pn : Int) (RR : Int → Int → Int) (hI : MI J m) (u9 : MUr J pn RR)  : tz_Ok l G M_X12_place 20 0 0 [.ref 164, zi x, zi y] n J (zqi (fun z J' => MQr J' J ∧ MFI J' J ∧ MBT J' (tbz J) ∧ MUr J' pn RR)) zN := by
  refine tz_Ok.of hl (by decide +kernel) rfl (tb_c1 rfl) (Nat.le_of_ble_eq_true rfl) ?_
  show tz_At l G M_X12_place (tb_rm 20 0 0) none (tb_ZM G 0 0 (zQ n 0 (zqi (fun z J' => MQr J' J ∧ MFI J' J ∧ MBT J' (tbz J) ∧ MUr J' pn RR))) (zX n 0 zN)) 0 0 n J 0 [some (.ref 164), some (zi x), some (zi y), none] []
  have hT := hI.told
  have hW := hI.row
  have hM := hI.1
  have hL := hI.2.1
  refine tz_aload_n (pc := 0) dX12_place_0 rfl rfl ?_
  refine tz_iconst (pc := 1) dX12_place_1 ?_
  refine tz_pI (pc := 2) (kz := 8) dX12_place_2 fl_X12_68 i_164_8 rfl rfl (by decide) ?_
  refine tz_aload_n (pc := 5) dX12_place_5 rfl rfl ?_
  refine tz_iload_n (pc := 6) dX12_place_6 rfl rfl ?_
  refine tz_cV (pc := 7) (m_isTermNow hl n _ _ (by omega) (by rw [(show ((zup J 164 8 0) : zJ) 165 0 = (J 165 0) from rfl)]; omega)) vl_X12_379 dX12_place_7 o_164 rfl rfl (Nat.le_of_ble_eq_true rfl) ⟨(Nat.le_of_ble_eq_true rfl), (Nat.le_of_ble_eq_true rfl)⟩ rfl rfl (Nat.le_of_ble_eq_true rfl) (Nat.le_of_ble_eq_true rfl) (fun r9 J_7 hq9 => ?_)
  obtain ⟨z_7, rfl, hz_7, f_7, b_7, c_7⟩ := hq9
  have x_7 : MZ J_7 (zup J 164 8 0) := MZ.f f_7 (by decide) (by decide)
  have y_7 := MZ.tr (MZ.up (k := 8) MZ.rf (by decide)) x_7
  rw [(show ((zup J 164 8 0) : zJ) 165 0 = (J 165 0) from rfl)] at c_7
  refine tz_if_ne (pc := 10) (tgt := 15) dX12_place_10 (by decide) (by omega) (fun h_10 => ?_) (fun h_10 => ?_)
  · refine tz_aload_n (pc := 15) dX12_place_15 rfl rfl ?_
    refine tz_iload_n (pc := 16) dX12_place_16 rfl rfl ?_
    refine tz_iload_n (pc := 17) dX12_place_17 rfl rfl ?_
    refine tz_cV (pc := 18) (m_place hl n _ _ _ (by omega) (by omega) 0 0 0 (J 164 9) m (hM.z y_7) (by omega) ) vl_X12_139 dX12_place_18 o_164 rfl rfl (Nat.le_of_ble_eq_true rfl) ⟨(Nat.le_of_ble_eq_true rfl), (Nat.le_of_ble_eq_true rfl)⟩ rfl rfl (Nat.le_of_ble_eq_true rfl) (Nat.le_of_ble_eq_true rfl) (fun r9 J_18 hq9 => ?_)
    obtain ⟨z_18, rfl, hz_18, rfl, hh_18⟩ := hq9
    refine tz_istore_n (pc := 21) (L2 := [_, _, _, _]) dX12_place_21 rfl (by decide) rfl ?_
    refine tz_aload_n (pc := 22) dX12_place_22 rfl rfl ?_
    refine tz_iload_n (pc := 23) dX12_place_23 rfl rfl ?_
    refine tz_iconst (pc := 24) dX12_place_24 ?_
    refine tz_icmp_eq (pc := 25) (tgt := 32) dX12_place_25 (by decide) (by omega) (by decide) (fun h_25 => ?_) (fun h_25 => ?_)
    · refine tz_iconst (pc := 32) dX12_place_32 ?_
      refine tz_iconst (pc := 33) dX12_place_33 ?_
      refine tz_cV (pc := 34) (m_right hl n _ _ _ (by decide) (by decide) (by decide)) vl_X12_334 dX12_place_34 o_164 rfl rfl (Nat.le_of_ble_eq_true rfl) ⟨(Nat.le_of_ble_eq_true rfl), (Nat.le_of_ble_eq_true rfl)⟩ rfl rfl (Nat.le_of_ble_eq_true rfl) (Nat.le_of_ble_eq_true rfl) (fun r9 J_34 hq9 => ?_)
      obtain ⟨z_34, rfl, hz_34, f_34, b_34, c_34⟩ := hq9
      have x_34 : MZ J_34 J_7 := MZ.f f_34 (by decide) (by decide)
      have y_34 := MZ.tr y_7 x_34
      obtain rfl : z_34 = 0 := by rcases b_34 with e9 | e9; exact e9; exact absurd (c_34 e9).2.2 (by decide)
      refine tz_if_eqT (pc := 37) (tgt := 44) (by decide) dX12_place_37 (by decide) (by decide) ?_
      refine tz_iconst (pc := 44) dX12_place_44 ?_
      exact tz_iret (pc := 45) (z := 0) dX12_place_45 rfl (Nat.le_of_ble_eq_true rfl) (Nat.le_of_ble_eq_true rfl) ⟨Nat.le_refl _, Nat.le_add_right _ _⟩ ⟨_, rfl, (by decide), ⟨MQr.z hI y_34, MFI.z y_34, MBT.z hI y_34, u9.z y_34⟩⟩
    · refine tz_iconst (pc := 28) dX12_place_28 ?_
      refine tz_goto (pc := 29) (tgt := 33) dX12_place_29 (by decide) ?_
      refine tz_iconst (pc := 33) dX12_place_33 ?_
      refine tz_cV (pc := 34) (m_right hl n _ _ _ (by decide) (by decide) (by decide)) vl_X12_334 dX12_place_34 o_164 rfl rfl (Nat.le_of_ble_eq_true rfl) ⟨(Nat.le_of_ble_eq_true rfl), (Nat.le_of_ble_eq_true rfl)⟩ rfl rfl (Nat.le_of_ble_eq_true rfl) (Nat.le_of_ble_eq_true rfl) (fun r9 J_34 hq9 => ?_)
      obtain ⟨z_34, rfl, hz_34, f_34, b_34, c_34⟩ := hq9
      have x_34 : MZ J_34 J_7 := MZ.f f_34 (by decide) (by decide)
      have y_34 := MZ.tr y_7 x_34
      refine tz_if_eq (pc := 37) (tgt := 44) dX12_place_37 (by decide) (by omega) (fun h_37 => ?_) (fun h_37 => ?_)
      · refine tz_iconst (pc := 44) dX12_place_44 ?_
        exact tz_iret (pc := 45) (z := 0) dX12_place_45 rfl (Nat.le_of_ble_eq_true rfl) (Nat.le_of_ble_eq_true rfl) ⟨Nat.le_refl _, Nat.le_add_right _ _⟩ ⟨_, rfl, (by decide), ⟨MQr.z hI y_34, MFI.z y_34, MBT.z hI y_34, u9.z y_34⟩⟩
      · refine tz_iload_n (pc := 40) dX12_place_40 rfl rfl ?_
        refine tz_goto (pc := 41) (tgt := 45) dX12_place_41 (by decide) ?_
        exact tz_iret (pc := 45) (z := z_18) dX12_place_45 rfl (Nat.le_of_ble_eq_true rfl) (Nat.le_of_ble_eq_true rfl) ⟨Nat.le_refl _, Nat.le_add_right _ _⟩ ⟨_, rfl, (by omega), ⟨MQr.z hI y_34, MFI.z y_34, MBT.z hI y_34, u9.z y_34⟩⟩
  · refine tz_iconst (pc := 13) dX12_place_13 ?_
    exact tz_iret (pc := 14) (z := 0) dX12_place_14 rfl (Nat.le_of_ble_eq_true rfl) (Nat.le_of_ble_eq_true rfl) ⟨Nat.le_refl _, Nat.le_add_right _ _⟩ ⟨_, rfl, (by decide), ⟨MQr.z hI y_7, MFI.z y_7, MBT.z hI y_7, u9.z y_7⟩⟩

set_option maxHeartbeats 4000000 in
set_option maxRecDepth 100000 in
theorem k_order {l : Launch} {G : tb_G} (hl : l.stackTraces = false) (n : Nat) (J : zJ) (x : Int) (y : Int) (hr_x : -2147483648 ≤ x ∧ x < 2147483648) (hr_y : -2147483648 ≤ y ∧ y < 2147483648) (m : Int) (pn : Int) (RR : Int → Int → Int) (hI : MI J m) (u9 : MUr J pn RR)  : tz_Ok l G M_X12_order 20 0 0 [.ref 164, zi x, zi y] n J (zqi (fun z J' => MQr J' J ∧ MFI J' J ∧ MBT J' (tbz J) ∧ MUr J' pn RR)) zN := by
  refine tz_Ok.of hl (by decide +kernel) rfl (tb_c1 rfl) (Nat.le_of_ble_eq_true rfl) ?_
  show tz_At l G M_X12_order (tb_rm 20 0 0) none (tb_ZM G 0 0 (zQ n 0 (zqi (fun z J' => MQr J' J ∧ MFI J' J ∧ MBT J' (tbz J) ∧ MUr J' pn RR))) (zX n 0 zN)) 0 0 n J 0 [some (.ref 164), some (zi x), some (zi y)] []
  have hT := hI.told
  have hW := hI.row
  have hM := hI.1
  have hL := hI.2.1
  refine tz_aload_n (pc := 0) dX12_order_0 rfl rfl ?_
  refine tz_iconst (pc := 1) dX12_order_1 ?_
  refine tz_pI (pc := 2) (kz := 8) dX12_order_2 fl_X12_68 i_164_8 rfl rfl (by decide) ?_
  refine tz_aload_n (pc := 5) dX12_order_5 rfl rfl ?_
  refine tz_iload_n (pc := 6) dX12_order_6 rfl rfl ?_
  refine tz_cV (pc := 7) (m_isTermNow hl n _ _ (by omega) (by rw [(show ((zup J 164 8 0) : zJ) 165 0 = (J 165 0) from rfl)]; omega)) vl_X12_379 dX12_order_7 o_164 rfl rfl (Nat.le_of_ble_eq_true rfl) ⟨(Nat.le_of_ble_eq_true rfl), (Nat.le_of_ble_eq_true rfl)⟩ rfl rfl (Nat.le_of_ble_eq_true rfl) (Nat.le_of_ble_eq_true rfl) (fun r9 J_7 hq9 => ?_)
  obtain ⟨z_7, rfl, hz_7, f_7, b_7, c_7⟩ := hq9
  have x_7 : MZ J_7 (zup J 164 8 0) := MZ.f f_7 (by decide) (by decide)
  have y_7 := MZ.tr (MZ.up (k := 8) MZ.rf (by decide)) x_7
  rw [(show ((zup J 164 8 0) : zJ) 165 0 = (J 165 0) from rfl)] at c_7
  refine tz_if_eq (pc := 10) (tgt := 21) dX12_order_10 (by decide) (by omega) (fun h_10 => ?_) (fun h_10 => ?_)
  · refine tz_iconst (pc := 21) dX12_order_21 ?_
    exact tz_iret (pc := 22) (z := 0) dX12_order_22 rfl (Nat.le_of_ble_eq_true rfl) (Nat.le_of_ble_eq_true rfl) ⟨Nat.le_refl _, Nat.le_add_right _ _⟩ ⟨_, rfl, (by decide), ⟨MQr.z hI y_7, MFI.z y_7, MBT.z hI y_7, u9.z y_7⟩⟩
  · refine tz_aload_n (pc := 13) dX12_order_13 rfl rfl ?_
    refine tz_iload_n (pc := 14) dX12_order_14 rfl rfl ?_
    refine tz_cV (pc := 15) (m_isTermNow hl n _ _ (by omega) (by rw [(show (J_7 : zJ) 165 0 = (J 165 0) from (Eq.trans (congrFun (x_7.1 165 rfl) 0) rfl))]; omega)) vl_X12_379 dX12_order_15 o_164 rfl rfl (Nat.le_of_ble_eq_true rfl) ⟨(Nat.le_of_ble_eq_true rfl), (Nat.le_of_ble_eq_true rfl)⟩ rfl rfl (Nat.le_of_ble_eq_true rfl) (Nat.le_of_ble_eq_true rfl) (fun r9 J_15 hq9 => ?_)
    obtain ⟨z_15, rfl, hz_15, f_15, b_15, c_15⟩ := hq9
    have x_15 : MZ J_15 J_7 := MZ.f f_15 (by decide) (by decide)
    have y_15 := MZ.tr y_7 x_15
    rw [(show (J_7 : zJ) 165 0 = (J 165 0) from (Eq.trans (congrFun (x_7.1 165 rfl) 0) rfl))] at c_15
    refine tz_if_ne (pc := 18) (tgt := 23) dX12_order_18 (by decide) (by omega) (fun h_18 => ?_) (fun h_18 => ?_)
    · refine tz_iload_n (pc := 23) dX12_order_23 rfl rfl ?_
      refine tz_iload_n (pc := 24) dX12_order_24 rfl rfl ?_
      refine tz_icmp_ne (pc := 25) (tgt := 32) dX12_order_25 (by decide) (by omega) (by omega) (fun h_25 => ?_) (fun h_25 => ?_)
      · refine tz_aload_n (pc := 32) dX12_order_32 rfl rfl ?_
        refine tz_iload_n (pc := 33) dX12_order_33 rfl rfl ?_
        refine tz_iload_n (pc := 34) dX12_order_34 rfl rfl ?_
        refine tz_cV (pc := 35) (m_greater hl n _ _ _ (by omega) (by omega) 0 0 0 (J 164 9) m (hM.z y_15) (by omega) (by omega) ) vl_X12_142 dX12_order_35 o_164 rfl rfl (Nat.le_of_ble_eq_true rfl) ⟨(Nat.le_of_ble_eq_true rfl), (Nat.le_of_ble_eq_true rfl)⟩ rfl rfl (Nat.le_of_ble_eq_true rfl) (Nat.le_of_ble_eq_true rfl) (fun r9 J_35 hq9 => ?_)
        obtain ⟨z_35, rfl, hz_35, rfl, hh_35⟩ := hq9
        refine tz_if_eq (pc := 38) (tgt := 45) dX12_order_38 (by decide) (by omega) (fun h_38 => ?_) (fun h_38 => ?_)
        · refine tz_aload_n (pc := 45) dX12_order_45 rfl rfl ?_
          refine tz_iload_n (pc := 46) dX12_order_46 rfl rfl ?_
          refine tz_iload_n (pc := 47) dX12_order_47 rfl rfl ?_
          refine tz_cV (pc := 48) (m_greater hl n _ _ _ (by omega) (by omega) 0 0 0 (J 164 9) m (hM.z y_15) (by omega) (by omega) ) vl_X12_142 dX12_order_48 o_164 rfl rfl (Nat.le_of_ble_eq_true rfl) ⟨(Nat.le_of_ble_eq_true rfl), (Nat.le_of_ble_eq_true rfl)⟩ rfl rfl (Nat.le_of_ble_eq_true rfl) (Nat.le_of_ble_eq_true rfl) (fun r9 J_48 hq9 => ?_)
          obtain ⟨z_48, rfl, hz_48, rfl, hh_48⟩ := hq9
          refine tz_if_eq (pc := 51) (tgt := 58) dX12_order_51 (by decide) (by omega) (fun h_51 => ?_) (fun h_51 => ?_)
          · refine tz_iconst (pc := 58) dX12_order_58 ?_
            exact tz_iret (pc := 59) (z := 3) dX12_order_59 rfl (Nat.le_of_ble_eq_true rfl) (Nat.le_of_ble_eq_true rfl) ⟨Nat.le_refl _, Nat.le_add_right _ _⟩ ⟨_, rfl, (by decide), ⟨MQr.z hI y_15, MFI.z y_15, MBT.z hI y_15, u9.z y_15⟩⟩
          · refine tz_iconst (pc := 54) dX12_order_54 ?_
            refine tz_goto (pc := 55) (tgt := 59) dX12_order_55 (by decide) ?_
            exact tz_iret (pc := 59) (z := 2) dX12_order_59 rfl (Nat.le_of_ble_eq_true rfl) (Nat.le_of_ble_eq_true rfl) ⟨Nat.le_refl _, Nat.le_add_right _ _⟩ ⟨_, rfl, (by decide), ⟨MQr.z hI y_15, MFI.z y_15, MBT.z hI y_15, u9.z y_15⟩⟩
        · refine tz_iconst (pc := 41) dX12_order_41 ?_
          refine tz_goto (pc := 42) (tgt := 59) dX12_order_42 (by decide) ?_
          exact tz_iret (pc := 59) (z := 1) dX12_order_59 rfl (Nat.le_of_ble_eq_true rfl) (Nat.le_of_ble_eq_true rfl) ⟨Nat.le_refl _, Nat.le_add_right _ _⟩ ⟨_, rfl, (by decide), ⟨MQr.z hI y_15, MFI.z y_15, MBT.z hI y_15, u9.z y_15⟩⟩
      · refine tz_iconst (pc := 28) dX12_order_28 ?_
        refine tz_goto (pc := 29) (tgt := 59) dX12_order_29 (by decide) ?_
        exact tz_iret (pc := 59) (z := 0) dX12_order_59 rfl (Nat.le_of_ble_eq_true rfl) (Nat.le_of_ble_eq_true rfl) ⟨Nat.le_refl _, Nat.le_add_right _ _⟩ ⟨_, rfl, (by decide), ⟨MQr.z hI y_15, MFI.z y_15, MBT.z hI y_15, u9.z y_15⟩⟩
    · refine tz_iconst (pc := 21) dX12_order_21 ?_
      exact tz_iret (pc := 22) (z := 0) dX12_order_22 rfl (Nat.le_of_ble_eq_true rfl) (Nat.le_of_ble_eq_true rfl) ⟨Nat.le_refl _, Nat.le_add_right _ _⟩ ⟨_, rfl, (by decide), ⟨MQr.z hI y_15, MFI.z y_15, MBT.z hI y_15, u9.z y_15⟩⟩

set_option maxHeartbeats 4000000 in
set_option maxRecDepth 100000 in
theorem k_find {l : Launch} {G : tb_G} (hl : l.stackTraces = false) (n : Nat) (J : zJ) (x : Int) (y : Int) (hr_x : -2147483648 ≤ x ∧ x < 2147483648) (hr_y : -2147483648 ≤ y ∧ y < 2147483648) (m : Int) (pn : Int) (RR : Int → Int → Int) (hI : MI J m) (u9 : MUr J pn RR)  : tz_Ok l G M_X12_find 810 0 0 [.ref 164, zi x, zi y] n J (zqi (fun z J' => MQr J' J ∧ MFI J' J ∧ MBT J' (tbz J) ∧ MUr J' pn RR)) zN := by
  refine tz_Ok.of hl (by decide +kernel) rfl (tb_c1 rfl) (Nat.le_of_ble_eq_true rfl) ?_
  show tz_At l G M_X12_find (tb_rm 810 0 0) none (tb_ZM G 0 0 (zQ n 0 (zqi (fun z J' => MQr J' J ∧ MFI J' J ∧ MBT J' (tbz J) ∧ MUr J' pn RR))) (zX n 0 zN)) 0 0 n J 0 [some (.ref 164), some (zi x), some (zi y), none, none] []
  have hT := hI.told
  have hW := hI.row
  have hM := hI.1
  have hL := hI.2.1
  refine tz_aload_n (pc := 0) dX12_find_0 rfl rfl ?_
  refine tz_iconst (pc := 1) dX12_find_1 ?_
  refine tz_pI (pc := 2) (kz := 8) dX12_find_2 fl_X12_68 i_164_8 rfl rfl (by decide) ?_
  refine tz_aload_n (pc := 5) dX12_find_5 rfl rfl ?_
  refine tz_iload_n (pc := 6) dX12_find_6 rfl rfl ?_
  refine tz_cV (pc := 7) (m_isTermNow hl n _ _ (by omega) (by rw [(show ((zup J 164 8 0) : zJ) 165 0 = (J 165 0) from rfl)]; omega)) vl_X12_379 dX12_find_7 o_164 rfl rfl (Nat.le_of_ble_eq_true rfl) ⟨(Nat.le_of_ble_eq_true rfl), (Nat.le_of_ble_eq_true rfl)⟩ rfl rfl (Nat.le_of_ble_eq_true rfl) (Nat.le_of_ble_eq_true rfl) (fun r9 J_7 hq9 => ?_)
  obtain ⟨z_7, rfl, hz_7, f_7, b_7, c_7⟩ := hq9
  have x_7 : MZ J_7 (zup J 164 8 0) := MZ.f f_7 (by decide) (by decide)
  have y_7 := MZ.tr (MZ.up (k := 8) MZ.rf (by decide)) x_7
  rw [(show ((zup J 164 8 0) : zJ) 165 0 = (J 165 0) from rfl)] at c_7
  refine tz_if_eq (pc := 10) (tgt := 27) dX12_find_10 (by decide) (by omega) (fun h_10 => ?_) (fun h_10 => ?_)
  · refine tz_iconst (pc := 27) dX12_find_27 ?_
    exact tz_iret (pc := 28) (z := 0) dX12_find_28 rfl (Nat.le_of_ble_eq_true rfl) (Nat.le_of_ble_eq_true rfl) ⟨Nat.le_refl _, Nat.le_add_right _ _⟩ ⟨_, rfl, (by decide), ⟨MQr.z hI y_7, MFI.z y_7, MBT.z hI y_7, u9.z y_7⟩⟩
  · refine tz_aload_n (pc := 13) dX12_find_13 rfl rfl ?_
    refine tz_iload_n (pc := 14) dX12_find_14 rfl rfl ?_
    refine tz_iconst (pc := 15) dX12_find_15 ?_
    refine tz_iconst (pc := 16) dX12_find_16 ?_
    refine tz_cS (pc := 17) (m_within hl n _ _ _ _ (by omega) (by decide) (by decide)) sl_X12_283 dX12_find_17 rfl rfl (Nat.le_of_ble_eq_true rfl) ⟨(Nat.le_of_ble_eq_true rfl), (Nat.le_of_ble_eq_true rfl)⟩ rfl rfl (Nat.le_of_ble_eq_true rfl) (Nat.le_of_ble_eq_true rfl) (fun r9 J_17 hq9 => ?_)
    obtain ⟨z_17, rfl, hz_17, rfl, hw_17⟩ := hq9
    refine tz_iconst (pc := 20) dX12_find_20 ?_
    refine tz_cV (pc := 21) (m_right hl n _ _ _ (by omega) (by decide) (by decide)) vl_X12_334 dX12_find_21 o_164 rfl rfl (Nat.le_of_ble_eq_true rfl) ⟨(Nat.le_of_ble_eq_true rfl), (Nat.le_of_ble_eq_true rfl)⟩ rfl rfl (Nat.le_of_ble_eq_true rfl) (Nat.le_of_ble_eq_true rfl) (fun r9 J_21 hq9 => ?_)
    obtain ⟨z_21, rfl, hz_21, f_21, b_21, c_21⟩ := hq9
    have x_21 : MZ J_21 J_7 := MZ.f f_21 (by decide) (by decide)
    have y_21 := MZ.tr y_7 x_21
    have e_21 : z_21 = 1 → ¬ z_17 = 0 := fun q9 => (c_21 q9).2.2.resolve_right (by decide)
    refine tz_if_ne (pc := 24) (tgt := 29) dX12_find_24 (by decide) (by omega) (fun h_24 => ?_) (fun h_24 => ?_)
    · refine tz_iconst (pc := 29) dX12_find_29 ?_
      refine tz_istore_n (pc := 30) (L2 := [_, _, _, _, _]) dX12_find_30 rfl (by decide) rfl ?_
      refine tz_iconst (pc := 31) dX12_find_31 ?_
      refine tz_istore (pc := 32) (L2 := [_, _, _, _, _]) dX12_find_32 (by decide) rfl ?_
      have loop34 : ∀ (f9 : Nat) (q : Int) (k : Int) (J1 : zJ), ((12 - k).toNat) < f9 → (-2147483648 ≤ q ∧ q < 2147483648) → (0 ≤ k ∧ k ≤ J 165 26) → (MZ J1 J) → tz_At l G M_X12_find (tb_rm 810 0 0) none (tb_ZM G 0 0 (zQ n 0 (zqi (fun z J' => MQr J' J ∧ MFI J' J ∧ MBT J' (tbz J) ∧ MUr J' pn RR))) (zX n 0 zN)) 0 0 n J1 34 [some (.ref 164), some (zi x), some (zi y), some (zi q), some (zi k)] [] := by
        intro f9
        induction f9 with
        | zero => intro q k J1 hm9; exact absurd hm9 (Nat.not_lt_zero _)
        | succ f9 ih34 =>
          intro q k J1 hm34 hq hk zf
          refine tz_iload (pc := 34) dX12_find_34 rfl ?_
          refine tz_aload_n (pc := 36) dX12_find_36 rfl rfl ?_
          refine tz_fR (pc := 37) dX12_find_37 fl_X12_9 r_164_0 ?_
          refine tz_bipush (pc := 40) dX12_find_40 (by decide) ?_
          refine tz_aL (pc := 42) (z := 26) (v := (J 165 26)) dX12_find_42 a_165 rfl (by decide) (Eq.trans (congrFun (zf.1 165 rfl) 26) rfl) (fun r_42 => ?_)
          refine tz_icmp_ge (pc := 43) (tgt := 78) dX12_find_43 (by decide) (by omega) (by omega) (fun h_43 => ?_) (fun h_43 => ?_)
          · refine tz_iload_n (pc := 78) dX12_find_78 rfl rfl ?_
            exact tz_iret (pc := 79) (z := q) dX12_find_79 rfl (Nat.le_of_ble_eq_true rfl) (Nat.le_of_ble_eq_true rfl) ⟨Nat.le_refl _, Nat.le_add_right _ _⟩ ⟨_, rfl, (by omega), ⟨MQr.z hI zf, MFI.z zf, MBT.z hI zf, u9.z zf⟩⟩
          · refine tz_aload_n (pc := 46) dX12_find_46 rfl rfl ?_
            refine tz_aload_n (pc := 47) dX12_find_47 rfl rfl ?_
            refine tz_fR (pc := 48) dX12_find_48 fl_X12_9 r_164_0 ?_
            refine tz_bipush (pc := 51) dX12_find_51 (by decide) ?_
            refine tz_iload (pc := 53) dX12_find_53 rfl ?_
            refine tz_iadd (pc := 55) (v := 27 + k) dX12_find_55 rfl ?_
            refine tz_aL (pc := 56) (z := (27 + k)) (v := (J 165 (27 + k))) dX12_find_56 a_165 rfl (by omega) (Eq.trans (congrFun (zf.1 165 rfl) (27 + k)) rfl) (fun r_56 => ?_)
            refine tz_iload_n (pc := 57) dX12_find_57 rfl rfl ?_
            refine tz_iload_n (pc := 58) dX12_find_58 rfl rfl ?_
            have hE := hL.2.2.1.2 k (by omega) (by omega)
            refine tz_cV (pc := 59) (m_isFound hl n _ _ _ _ (by omega) (by omega) (by omega) (J 164 9) m (hM.z zf) (by omega) (by omega)) vl_X12_388 dX12_find_59 o_164 rfl rfl (Nat.le_of_ble_eq_true rfl) ⟨(Nat.le_of_ble_eq_true rfl), (Nat.le_of_ble_eq_true rfl)⟩ rfl rfl (Nat.le_of_ble_eq_true rfl) (Nat.le_of_ble_eq_true rfl) (fun r9 J_59 hq9 => ?_)
            obtain ⟨z_59, rfl, hz_59, b_59, x_59⟩ := hq9
            have y_59 := MZ.tr zf x_59
            refine tz_if_eq (pc := 62) (tgt := 72) dX12_find_62 (by decide) (by omega) (fun h_62 => ?_) (fun h_62 => ?_)
            · refine tz_iinc (pc := 72) (z := k + 1) (L2 := [_, _, _, _, _]) dX12_find_72 rfl (by omega) rfl ?_
              refine tz_goto (pc := 75) (tgt := 34) dX12_find_75 (by decide) ?_
              exact ih34 _ (k + 1) _ (by omega) (by omega) (by omega) y_59
            · refine tz_iload_n (pc := 65) dX12_find_65 rfl rfl ?_
              refine tz_iconst (pc := 66) dX12_find_66 ?_
              refine tz_iload (pc := 67) dX12_find_67 rfl ?_
              refine tz_ishl (pc := 69) (v := zshl 1 k) dX12_find_69 rfl ?_
              have r_69 := zshl_rg 1 k
              refine tz_ior (pc := 70) (v := zor q (zshl 1 k)) dX12_find_70 rfl ?_
              have r_70 := zor_rg q (zshl 1 k)
              refine tz_istore_n (pc := 71) (L2 := [_, _, _, _, _]) dX12_find_71 rfl (by decide) rfl ?_
              refine tz_iinc (pc := 72) (z := k + 1) (L2 := [_, _, _, _, _]) dX12_find_72 rfl (by omega) rfl ?_
              refine tz_goto (pc := 75) (tgt := 34) dX12_find_75 (by decide) ?_
              exact ih34 _ (k + 1) _ (by omega) (by omega) (by omega) y_59
      exact loop34 _ 0 0 _ (Nat.lt_succ_self _) (by omega) (by omega) y_21
    · refine tz_iconst (pc := 27) dX12_find_27 ?_
      exact tz_iret (pc := 28) (z := 0) dX12_find_28 rfl (Nat.le_of_ble_eq_true rfl) (Nat.le_of_ble_eq_true rfl) ⟨Nat.le_refl _, Nat.le_add_right _ _⟩ ⟨_, rfl, (by decide), ⟨MQr.z hI y_21, MFI.z y_21, MBT.z hI y_21, u9.z y_21⟩⟩

end
section
/-! ===== the memo, as functions of the row ===== -/
/-- the memo without its w-th -/
def mlO (h : Int → Int) (w : Int) : Int → Int := fun k => if k = 40 then h 40 - 1 else if 41 + 2 * w ≤ k ∧ k < 41 + 2 * (h 40 - 1) then h (k + 2) else h k
/-- the memo with one more -/
def maO (h : Int → Int) (t z : Int) : Int → Int := fun k => if k = 40 then h 40 + 1 else if k = 41 + 2 * h 40 + 1 then z else if k = 41 + 2 * h 40 then t else h k
def mgO (h : Int → Int) (t z : Int) : Int → Int := if h 39 = 0 then h else if h 40 = h 39 then maO (mlO h 0) t z else maO h t z
/-- one that was recalled -/
def mhO (h : Int → Int) (w : Int) : Int → Int := maO (mlO (fun k => if k = 61 then zw (h 61 + 1) else h k) w) (h (41 + 2 * w)) (h (41 + 2 * w + 1))
theorem mlO_o {h : Int → Int} {w k : Int} (hk : k < 40 ∨ 59 ≤ k) (b : 0 ≤ w ∧ h 40 ≤ 9) : mlO h w k = h k := by
  unfold mlO
  rw [if_neg (by omega), if_neg (by omega)]
theorem maO_o {h : Int → Int} {t z k : Int} (hk : k < 40 ∨ 59 ≤ k) (b : 0 ≤ h 40 ∧ h 40 ≤ 8) : maO h t z k = h k := by
  unfold maO
  rw [if_neg (by omega), if_neg (by omega), if_neg (by omega)]
theorem RW.ml {J : zJ} {h : Int → Int} {w : Int} (W : RW (J 19) h) (b : (0 ≤ h 9 ∧ h 9 ≤ 8) ∧ (0 ≤ h 26 ∧ h 26 ≤ 12) ∧ (0 ≤ h 40 ∧ h 40 ≤ 9)) (hw : 0 ≤ w ∧ w < h 40) : RW (zdM J w 19) (mlO h w) := by
  obtain ⟨⟨a1, a2, a3⟩, ⟨b1, b2⟩, ⟨c1, c2⟩, ⟨d1, d2⟩, v⟩ := W
  generalize hg : zdM J w 19 = g
  have e : ∀ k, g k = if k = 6 then J 19 6 - 1 else if (43 + w ≤ k ∧ k < 43 + (J 19 6 - 1)) ∨ (52 + w ≤ k ∧ k < 52 + (J 19 6 - 1)) then J 19 (k + 1) else J 19 k := fun k => by rw [← hg]; simp only [zdM, zup, zdm, if_true]
  have e6 : g 6 = J 19 6 - 1 := by rw [e, if_pos rfl]
  have e0 : ∀ k, ¬ k = 6 → ¬ ((43 + w ≤ k ∧ k < 43 + (J 19 6 - 1)) ∨ (52 + w ≤ k ∧ k < 52 + (J 19 6 - 1))) → g k = J 19 k := fun k a b => by rw [e, if_neg a, if_neg b]
  have o : ∀ k, (k < 40 ∨ 59 ≤ k) → mlO h w k = h k := fun k hk => mlO_o hk ⟨hw.1, b.2.2.2⟩
  have m40 : mlO h w 40 = h 40 - 1 := if_pos rfl
  refine ⟨⟨?_, ?_, ?_⟩, ⟨?_, fun i p q => ?_⟩, ⟨?_, fun i p q => ?_⟩, ⟨?_, fun i p q => ?_⟩, fun i p q => ?_⟩
  · rw [e0 1 (by omega) (by omega), o 39 (by omega)]; exact a1
  · rw [e0 2 (by omega) (by omega), o 61 (by omega)]; exact a2
  · rw [e0 3 (by omega) (by omega), o 62 (by omega)]; exact a3
  · rw [e0 4 (by omega) (by omega), o 9 (by omega)]; exact b1
  · rw [o 9 (by omega)] at q
    rw [e0 (15 + i) (by omega) (by omega), e0 (23 + i) (by omega) (by omega), o _ (by omega), o _ (by omega)]; exact b2 i p q
  · rw [e0 5 (by omega) (by omega), o 26 (by omega)]; exact c1
  · rw [o 26 (by omega)] at q
    rw [e0 (31 + i) (by omega) (by omega), o _ (by omega)]; exact c2 i p q
  · rw [e6, m40]; omega
  · rw [m40] at q
    by_cases x : w ≤ i
    · have y := d2 (i + 1) (by omega) (by omega)
      rw [e (43 + i), e (52 + i), if_neg (by omega), if_pos (by omega), if_neg (by omega), if_pos (by omega), show 43 + i + 1 = 43 + (i + 1) by omega, show 52 + i + 1 = 52 + (i + 1) by omega, y.1, y.2]
      unfold mlO
      rw [if_neg (by omega), if_pos (by omega), if_neg (by omega), if_pos (by omega), show 41 + 2 * i + 2 = 41 + 2 * (i + 1) by omega, show 41 + 2 * i + 1 + 2 = 41 + 2 * (i + 1) + 1 by omega]
      exact ⟨rfl, rfl⟩
    · have y := d2 i p (by omega)
      rw [e0 (43 + i) (by omega) (by omega), e0 (52 + i) (by omega) (by omega), y.1, y.2]
      unfold mlO
      rw [if_neg (by omega), if_neg (by omega), if_neg (by omega), if_neg (by omega)]
      exact ⟨rfl, rfl⟩
  · rw [e0 (7 + i) (by omega) (by omega), o _ (by omega)]; exact v i p q
theorem RW.ma {J : zJ} {h : Int → Int} {t z : Int} (W : RW (J 19) h) (b : (0 ≤ h 9 ∧ h 9 ≤ 8) ∧ (0 ≤ h 26 ∧ h 26 ≤ 12) ∧ (0 ≤ h 40 ∧ h 40 ≤ 8)) : RW (zaM J t z 19) (maO h t z) := by
  obtain ⟨⟨a1, a2, a3⟩, ⟨b1, b2⟩, ⟨c1, c2⟩, ⟨d1, d2⟩, v⟩ := W
  generalize hg : zaM J t z 19 = g
  have e : ∀ k, g k = if k = 6 then J 19 6 + 1 else if k = 52 + J 19 6 then z else if k = 43 + J 19 6 then t else J 19 k := fun k => by
    rw [← hg]
    unfold zaM
    rw [if_pos (by omega)]
    rfl
  have o : ∀ k, (k < 40 ∨ 59 ≤ k) → maO h t z k = h k := fun k hk => maO_o hk b.2.2
  have m40 : maO h t z 40 = h 40 + 1 := if_pos rfl
  have e0 : ∀ k, k < 43 → ¬ k = 6 → g k = J 19 k := fun k hk h6 => by rw [e, if_neg h6, if_neg (by omega), if_neg (by omega)]
  refine ⟨⟨?_, ?_, ?_⟩, ⟨?_, fun i p q => ?_⟩, ⟨?_, fun i p q => ?_⟩, ⟨?_, fun i p q => ?_⟩, fun i p q => ?_⟩
  · rw [e0 1 (by omega) (by omega), o 39 (by omega)]; exact a1
  · rw [e0 2 (by omega) (by omega), o 61 (by omega)]; exact a2
  · rw [e0 3 (by omega) (by omega), o 62 (by omega)]; exact a3
  · rw [e0 4 (by omega) (by omega), o 9 (by omega)]; exact b1
  · rw [o 9 (by omega)] at q
    rw [e0 (15 + i) (by omega) (by omega), e0 (23 + i) (by omega) (by omega), o _ (by omega), o _ (by omega)]; exact b2 i p q
  · rw [e0 5 (by omega) (by omega), o 26 (by omega)]; exact c1
  · rw [o 26 (by omega)] at q
    rw [e0 (31 + i) (by omega) (by omega), o _ (by omega)]; exact c2 i p q
  · rw [e 6, if_pos rfl, m40]; omega
  · rw [m40] at q
    by_cases x : i = h 40
    · rw [e (43 + i), e (52 + i), if_neg (by omega), if_neg (by omega), if_pos (by omega), if_neg (by omega), if_pos (by omega)]
      unfold maO
      rw [if_neg (by omega), if_neg (by omega), if_pos (by omega), if_neg (by omega), if_pos (by omega)]
      exact ⟨rfl, rfl⟩
    · have y := d2 i p (by omega)
      rw [e (43 + i), e (52 + i), if_neg (by omega), if_neg (by omega), if_neg (by omega), if_neg (by omega), if_neg (by omega), if_neg (by omega), y.1, y.2]
      unfold maO
      rw [if_neg (by omega), if_neg (by omega), if_neg (by omega), if_neg (by omega), if_neg (by omega), if_neg (by omega)]
      exact ⟨rfl, rfl⟩
  · rw [e0 (7 + i) (by omega) (by omega), o _ (by omega)]; exact v i p q
theorem RW.mg {J : zJ} {h : Int → Int} {t z : Int} (W : RW (J 19) h) (b : (0 ≤ h 9 ∧ h 9 ≤ 8) ∧ (0 ≤ h 26 ∧ h 26 ≤ 12) ∧ (0 ≤ h 40 ∧ h 40 ≤ 9)) (r : h 40 ≤ h 39 ∧ h 39 ≤ 9) : RW (zrM J t z 19) (mgO h t z) := by
  have d1 := W.2.2.2.1.1
  have a1 := W.1.1
  unfold zrM mgO
  by_cases q : h 39 = 0
  · rw [if_pos (by omega), if_pos q]; exact W
  · rw [if_neg (by omega), if_neg q]
    by_cases x : h 40 = h 39
    · rw [if_pos (by omega), if_pos x]
      have W2 := W.ml (w := 0) b (by omega)
      have m40 : mlO h 0 40 = h 40 - 1 := if_pos rfl
      refine W2.ma ⟨?_, ?_, by rw [m40]; omega⟩
      · rw [mlO_o (by omega) ⟨by omega, by omega⟩]; exact b.1
      · rw [mlO_o (by omega) ⟨by omega, by omega⟩]; exact b.2.1
    · rw [if_neg (by omega), if_neg x]
      exact W.ma ⟨b.1, b.2.1, by omega⟩
theorem RW.mh {J : zJ} {h : Int → Int} {w : Int} (W : RW (J 19) h) (b : (0 ≤ h 9 ∧ h 9 ≤ 8) ∧ (0 ≤ h 26 ∧ h 26 ≤ 12) ∧ (0 ≤ h 40 ∧ h 40 ≤ 9)) (hw : 0 ≤ w ∧ w < h 40) : RW (zaM (zdM (zup J 19 2 (zw (J 19 2 + 1))) w) (J 19 (43 + w)) (J 19 (52 + w)) 19) (mhO h w) := by
  obtain ⟨⟨a1, a2, a3⟩, ⟨b1, b2⟩, ⟨c1, c2⟩, ⟨d1, d2⟩, v⟩ := W
  have y := d2 w hw.1 hw.2
  have z2 : zw (J 19 2 + 1) = zw (h 61 + 1) := by rw [a2]
  have W1 : RW (zup J 19 2 (zw (J 19 2 + 1)) 19) (fun k => if k = 61 then zw (h 61 + 1) else h k) := by
    have e : ∀ k, zup J 19 2 (zw (J 19 2 + 1)) 19 k = if k = 2 then zw (h 61 + 1) else J 19 k := fun k => by rw [z2]; rfl
    refine ⟨⟨?_, ?_, ?_⟩, ⟨?_, fun i p q => ?_⟩, ⟨?_, fun i p q => ?_⟩, ⟨?_, fun i p q => ?_⟩, fun i p q => ?_⟩
    · rw [e, if_neg (by decide)]; exact a1
    · rw [e, if_pos rfl]; rfl
    · rw [e, if_neg (by decide)]; exact a3
    · rw [e, if_neg (by decide)]; exact b1
    · have q' : i < h 9 := q
      have x := b2 i p q'
      rw [e, e, if_neg (by omega), if_neg (by omega)]
      dsimp only
      rw [if_neg (by omega), if_neg (by omega)]; exact x
    · rw [e, if_neg (by decide)]; exact c1
    · have q' : i < h 26 := q
      have x := c2 i p q'
      rw [e, if_neg (by omega)]
      dsimp only
      rw [if_neg (by omega)]; exact x
    · rw [e, if_neg (by decide)]; exact d1
    · have q' : i < h 40 := q
      have x := d2 i p q'
      rw [e, e, if_neg (by omega), if_neg (by omega)]
      dsimp only
      rw [if_neg (by omega), if_neg (by omega)]; exact x
    · have x := v i p q
      rw [e, if_neg (by omega)]
      dsimp only
      rw [if_neg (by omega)]; exact x
  have W2 := W1.ml (w := w) b hw
  unfold mhO
  rw [y.1, y.2]
  have m40 : mlO (fun k => if k = 61 then zw (h 61 + 1) else h k) w 40 = h 40 - 1 := if_pos rfl
  have h40 : (fun k : Int => if k = 61 then zw (h 61 + 1) else h k) 40 = h 40 := if_neg (by decide)
  have o9 : mlO (fun k => if k = 61 then zw (h 61 + 1) else h k) w 9 = h 9 := (mlO_o (h := fun k => if k = 61 then zw (h 61 + 1) else h k) (Or.inl (by decide)) ⟨hw.1, by rw [if_neg (by decide)]; exact b.2.2.2⟩).trans (if_neg (by decide))
  have o26 : mlO (fun k => if k = 61 then zw (h 61 + 1) else h k) w 26 = h 26 := (mlO_o (h := fun k => if k = 61 then zw (h 61 + 1) else h k) (Or.inl (by decide)) ⟨hw.1, by rw [if_neg (by decide)]; exact b.2.2.2⟩).trans (if_neg (by decide))
  exact W2.ma ⟨by rw [o9]; exact b.1, by rw [o26]; exact b.2.1, by rw [m40]; omega⟩
end
section
/-! ===== the memo of the reference, exact ===== -/
theorem ml_x {J1 J : zJ} {i j c : Int} (x : ∀ k, J1 165 k = if k = 40 then J 165 40 - 1 else if 41 + 2 * i ≤ k ∧ k < 41 + j then J 165 (k + 2) else J 165 k) (hi : 0 ≤ i) (hj : 2 * i ≤ j) (hc : c = J1 165 (41 + j + 2)) : ∀ k, zup J1 165 (41 + j) c 165 k = if k = 40 then J 165 40 - 1 else if 41 + 2 * i ≤ k ∧ k < 41 + (j + 1) then J 165 (k + 2) else J 165 k := fun k => by
  by_cases e : k = 41 + j
  · subst e
    rw [zup_at, hc, x, if_neg (by omega), if_neg (by omega), if_neg (by omega), if_pos (by omega)]
  · rw [zup_ne e, x k]
    by_cases a : k = 40
    · rw [if_pos a, if_pos a]
    · rw [if_neg a, if_neg a]
      by_cases q : 41 + 2 * i ≤ k ∧ k < 41 + j
      · rw [if_pos q, if_pos (by omega)]
      · rw [if_neg q, if_neg (by omega)]
theorem ml_e {J1 J : zJ} {i j : Int} (x : ∀ k, J1 165 k = if k = 40 then J 165 40 - 1 else if 41 + 2 * i ≤ k ∧ k < 41 + j then J 165 (k + 2) else J 165 k) (hj : j = 2 * (J 165 40 - 1)) : J1 165 = mlO (J 165) i := funext fun k => by
  rw [x k, hj]
  rfl
set_option maxHeartbeats 4000000 in
set_option maxRecDepth 100000 in
theorem x_memoAt {l : Launch} {G : tb_G} (hl : l.stackTraces = false) (n : Nat) (J : zJ) (t : Int) (hr_t : -2147483648 ≤ t ∧ t < 2147483648) (m : Int) (hm : MM (J 165) m) : tz_Ok l G M_X12_memoAt 0 0 0 [.ref 164, zi t] n J (zqi (fun z J' => J = J' ∧ ((z = -1 ∧ ∀ q, 0 ≤ q → q < J 165 40 → ¬ J 165 (41 + 2 * q) = t) ∨ ((0 ≤ z ∧ z < J 165 40) ∧ J 165 (41 + 2 * z) = t ∧ ∀ q, 0 ≤ q → q < z → ¬ J 165 (41 + 2 * q) = t)))) zN := by
  refine tz_Ok.of hl (by decide +kernel) rfl (tb_c1 rfl) (Nat.le_of_ble_eq_true rfl) ?_
  show tz_At l G M_X12_memoAt (tb_rm 0 0 0) none (tb_ZM G 0 0 (zQ n 0 (zqi (fun z J' => J = J' ∧ ((z = -1 ∧ ∀ q, 0 ≤ q → q < J 165 40 → ¬ J 165 (41 + 2 * q) = t) ∨ ((0 ≤ z ∧ z < J 165 40) ∧ J 165 (41 + 2 * z) = t ∧ ∀ q, 0 ≤ q → q < z → ¬ J 165 (41 + 2 * q) = t))))) (zX n 0 zN)) 0 0 n J 0 [some (.ref 164), some (zi t), none] []
  obtain ⟨m1, m2, m3⟩ := id hm
  refine tz_iconst (pc := 0) dX12_memoAt_0 ?_
  refine tz_istore_n (pc := 1) (L2 := [_, _, _]) dX12_memoAt_1 rfl (by decide) rfl ?_
  have loop2 : ∀ (f9 : Nat) (k : Int), ((J 165 40 - k).toNat) < f9 → (0 ≤ k ∧ k ≤ J 165 40) → (∀ q, 0 ≤ q → q < k → ¬ J 165 (41 + 2 * q) = t) → tz_At l G M_X12_memoAt (tb_rm 0 0 0) none (tb_ZM G 0 0 (zQ n 0 (zqi (fun z J' => J = J' ∧ ((z = -1 ∧ ∀ q, 0 ≤ q → q < J 165 40 → ¬ J 165 (41 + 2 * q) = t) ∨ ((0 ≤ z ∧ z < J 165 40) ∧ J 165 (41 + 2 * z) = t ∧ ∀ q, 0 ≤ q → q < z → ¬ J 165 (41 + 2 * q) = t))))) (zX n 0 zN)) 0 0 n J 2 [some (.ref 164), some (zi t), some (zi k)] [] := by
    intro f9
    induction f9 with
    | zero => intro k hm9; exact absurd hm9 (Nat.not_lt_zero _)
    | succ f9 ih2 =>
      intro k hm2 hk hn
      refine tz_iload_n (pc := 2) dX12_memoAt_2 rfl rfl ?_
      refine tz_aload_n (pc := 3) dX12_memoAt_3 rfl rfl ?_
      refine tz_fR (pc := 4) dX12_memoAt_4 fl_X12_9 r_164_0 ?_
      refine tz_bipush (pc := 7) dX12_memoAt_7 (by decide) ?_
      refine tz_aL (pc := 9) (z := 40) (v := (J 165 40)) dX12_memoAt_9 a_165 rfl (by decide) rfl (fun r_9 => ?_)
      refine tz_icmp_ge (pc := 10) (tgt := 36) dX12_memoAt_10 (by decide) (by omega) (by omega) (fun h_10 => ?_) (fun h_10 => ?_)
      · refine tz_iconst (pc := 36) dX12_memoAt_36 ?_
        exact tz_iret (pc := 37) (z := (-1)) dX12_memoAt_37 rfl (Nat.le_of_ble_eq_true rfl) (Nat.le_of_ble_eq_true rfl) ⟨Nat.le_refl _, Nat.le_add_right _ _⟩ ⟨_, rfl, (by decide), (by first | exact ⟨rfl, Or.inr ⟨by omega, by omega, hn⟩⟩ | exact ⟨rfl, Or.inl ⟨rfl, fun q a c => hn q a (by omega)⟩⟩)⟩
      · refine tz_aload_n (pc := 13) dX12_memoAt_13 rfl rfl ?_
        refine tz_fR (pc := 14) dX12_memoAt_14 fl_X12_9 r_164_0 ?_
        refine tz_bipush (pc := 17) dX12_memoAt_17 (by decide) ?_
        refine tz_iconst (pc := 19) dX12_memoAt_19 ?_
        refine tz_iload_n (pc := 20) dX12_memoAt_20 rfl rfl ?_
        refine tz_imul (pc := 21) (v := 2 * k) dX12_memoAt_21 rfl ?_
        refine tz_iadd (pc := 22) (v := 41 + (2 * k)) dX12_memoAt_22 rfl ?_
        refine tz_aL (pc := 23) (z := (41 + (2 * k))) (v := (J 165 (41 + (2 * k)))) dX12_memoAt_23 a_165 rfl (by omega) rfl (fun r_23 => ?_)
        refine tz_iload_n (pc := 24) dX12_memoAt_24 rfl rfl ?_
        refine tz_icmp_ne (pc := 25) (tgt := 30) dX12_memoAt_25 (by decide) (by omega) (by omega) (fun h_25 => ?_) (fun h_25 => ?_)
        · refine tz_iinc (pc := 30) (z := k + 1) (L2 := [_, _, _]) dX12_memoAt_30 rfl (by omega) rfl ?_
          refine tz_goto (pc := 33) (tgt := 2) dX12_memoAt_33 (by decide) ?_
          exact ih2 (k + 1) (by omega) (by omega) (fun q a c => (Decidable.em (q = k)).elim (fun e => by rw [e]; omega) (fun e => hn q a (by omega)))
        · refine tz_iload_n (pc := 28) dX12_memoAt_28 rfl rfl ?_
          exact tz_iret (pc := 29) (z := k) dX12_memoAt_29 rfl (Nat.le_of_ble_eq_true rfl) (Nat.le_of_ble_eq_true rfl) ⟨Nat.le_refl _, Nat.le_add_right _ _⟩ ⟨_, rfl, (by omega), (by first | exact ⟨rfl, Or.inr ⟨by omega, by omega, hn⟩⟩ | exact ⟨rfl, Or.inl ⟨rfl, fun q a c => hn q a (by omega)⟩⟩)⟩
  exact loop2 _ 0 (Nat.lt_succ_self _) (by omega) (fun q a c => by omega)

set_option maxHeartbeats 4000000 in
set_option maxRecDepth 100000 in
theorem x_memoLoses {l : Launch} {G : tb_G} (hl : l.stackTraces = false) (n : Nat) (J : zJ) (i : Int) (hr_i : -2147483648 ≤ i ∧ i < 2147483648) (m : Int) (hm : MM (J 165) m) (hi : 0 ≤ i ∧ i < J 165 40) : tz_Ok l G M_X12_memoLoses 0 0 0 [.ref 164, zi i] n J (zqv (fun J' => zOf (zbut [165]) J' J ∧ J' 165 = mlO (J 165) i)) zN := by
  refine tz_Ok.of hl (by decide +kernel) rfl (tb_c1 rfl) (Nat.le_of_ble_eq_true rfl) ?_
  show tz_At l G M_X12_memoLoses (tb_rm 0 0 0) none (tb_ZM G 0 0 (zQ n 0 (zqv (fun J' => zOf (zbut [165]) J' J ∧ J' 165 = mlO (J 165) i))) (zX n 0 zN)) 0 0 n J 0 [some (.ref 164), some (zi i), none] []
  obtain ⟨m1, m2, m3⟩ := id hm
  refine tz_aload_n (pc := 0) dX12_memoLoses_0 rfl rfl ?_
  refine tz_fR (pc := 1) dX12_memoLoses_1 fl_X12_9 r_164_0 ?_
  refine tz_bipush (pc := 4) dX12_memoLoses_4 (by decide) ?_
  refine tz_dup2 (pc := 6) dX12_memoLoses_6 rfl rfl ?_
  refine tz_aL (pc := 7) (z := 40) (v := (J 165 40)) dX12_memoLoses_7 a_165 rfl (by decide) rfl (fun r_7 => ?_)
  refine tz_iconst (pc := 8) dX12_memoLoses_8 ?_
  refine tz_isub (pc := 9) (v := (J 165 40) - 1) dX12_memoLoses_9 rfl ?_
  refine tz_aS (pc := 10) (z := 40) dX12_memoLoses_10 a_165 rfl (by decide) (by omega) ?_
  refine tz_iconst (pc := 11) dX12_memoLoses_11 ?_
  refine tz_iload_n (pc := 12) dX12_memoLoses_12 rfl rfl ?_
  refine tz_imul (pc := 13) (v := 2 * i) dX12_memoLoses_13 rfl ?_
  refine tz_istore_n (pc := 14) (L2 := [_, _, _]) dX12_memoLoses_14 rfl (by decide) rfl ?_
  have loop15 : ∀ (f9 : Nat) (j : Int) (J1 : zJ), ((2 * J 165 40 - j).toNat) < f9 → (2 * i ≤ j ∧ j ≤ 2 * (J 165 40 - 1)) → (MMf J1 J) → (J1 165 40 = J 165 40 - 1) → (∀ k, 0 ≤ k → k < 2 * J 165 40 → 0 ≤ J1 165 (41 + k) ∧ J1 165 (41 + k) < m) → (∀ k, J1 165 k = if k = 40 then J 165 40 - 1 else if 41 + 2 * i ≤ k ∧ k < 41 + j then J 165 (k + 2) else J 165 k) → tz_At l G M_X12_memoLoses (tb_rm 0 0 0) none (tb_ZM G 0 0 (zQ n 0 (zqv (fun J' => zOf (zbut [165]) J' J ∧ J' 165 = mlO (J 165) i))) (zX n 0 zN)) 0 0 n J1 15 [some (.ref 164), some (zi i), some (zi j)] [] := by
    intro f9
    induction f9 with
    | zero => intro j J1 hm9; exact absurd hm9 (Nat.not_lt_zero _)
    | succ f9 ih15 =>
      intro j J1 hm15 hj f1 h4 h3 x1
      refine tz_iload_n (pc := 15) dX12_memoLoses_15 rfl rfl ?_
      refine tz_iconst (pc := 16) dX12_memoLoses_16 ?_
      refine tz_aload_n (pc := 17) dX12_memoLoses_17 rfl rfl ?_
      refine tz_fR (pc := 18) dX12_memoLoses_18 fl_X12_9 r_164_0 ?_
      refine tz_bipush (pc := 21) dX12_memoLoses_21 (by decide) ?_
      refine tz_aL (pc := 23) (z := 40) (v := (J1 165 40)) dX12_memoLoses_23 a_165 rfl (by decide) rfl (fun r_23 => ?_)
      refine tz_imul (pc := 24) (v := 2 * (J1 165 40)) dX12_memoLoses_24 rfl ?_
      refine tz_icmp_ge (pc := 25) (tgt := 54) dX12_memoLoses_25 (by decide) (by omega) (by omega) (fun h_25 => ?_) (fun h_25 => ?_)
      · exact tz_vret (pc := 54) dX12_memoLoses_54 rfl (Nat.le_of_ble_eq_true rfl) (Nat.le_of_ble_eq_true rfl) ⟨Nat.le_refl _, Nat.le_add_right _ _⟩ ⟨rfl, ⟨f1.1, ml_e x1 (by omega)⟩⟩
      · refine tz_aload_n (pc := 28) dX12_memoLoses_28 rfl rfl ?_
        refine tz_fR (pc := 29) dX12_memoLoses_29 fl_X12_9 r_164_0 ?_
        refine tz_bipush (pc := 32) dX12_memoLoses_32 (by decide) ?_
        refine tz_iload_n (pc := 34) dX12_memoLoses_34 rfl rfl ?_
        refine tz_iadd (pc := 35) (v := 41 + j) dX12_memoLoses_35 rfl ?_
        refine tz_aload_n (pc := 36) dX12_memoLoses_36 rfl rfl ?_
        refine tz_fR (pc := 37) dX12_memoLoses_37 fl_X12_9 r_164_0 ?_
        refine tz_bipush (pc := 40) dX12_memoLoses_40 (by decide) ?_
        refine tz_iload_n (pc := 42) dX12_memoLoses_42 rfl rfl ?_
        refine tz_iadd (pc := 43) (v := 41 + j) dX12_memoLoses_43 rfl ?_
        refine tz_iconst (pc := 44) dX12_memoLoses_44 ?_
        refine tz_iadd (pc := 45) (v := (41 + j) + 2) dX12_memoLoses_45 rfl ?_
        refine tz_aL (pc := 46) (z := ((41 + j) + 2)) (v := (J1 165 ((41 + j) + 2))) dX12_memoLoses_46 a_165 rfl (by omega) rfl (fun r_46 => ?_)
        refine tz_aS (pc := 47) (z := (41 + j)) dX12_memoLoses_47 a_165 rfl (by omega) (by omega) ?_
        refine tz_iinc (pc := 48) (z := j + 1) (L2 := [_, _, _]) dX12_memoLoses_48 rfl (by omega) rfl ?_
        refine tz_goto (pc := 51) (tgt := 15) dX12_memoLoses_51 (by decide) ?_
        have hc9 := h3 (j + 2) (by omega) (by omega)
        rw [show 41 + (j + 2) = 41 + j + 2 by omega] at hc9
        exact ih15 (j + 1) _ (by omega) (by omega) (f1.up (by omega)) ((zup_ne (by omega)).trans h4) (ml_s h3 (by omega) hc9) (ml_x x1 (by omega) (by omega) rfl)
  exact loop15 _ _ _ (Nat.lt_succ_self _) (by omega) (MMf.rf.up (by omega)) zup_at (fun k a c => by rw [zup_ne (by omega)]; exact m3 k a (by omega)) (fun k => (Decidable.em (k = 40)).elim (fun e => by rw [e, zup_at, if_pos rfl]) (fun e => by rw [zup_ne e, if_neg e, if_neg (by omega)]))

set_option maxHeartbeats 4000000 in
set_option maxRecDepth 100000 in
theorem x_memoGets {l : Launch} {G : tb_G} (hl : l.stackTraces = false) (n : Nat) (J : zJ) (t : Int) (v : Int) (hr_t : -2147483648 ≤ t ∧ t < 2147483648) (hr_v : -2147483648 ≤ v ∧ v < 2147483648) (m : Int) (hm : MM (J 165) m) : tz_Ok l G M_X12_memoGets 1 0 0 [.ref 164, zi t, zi v] n J (zqv (fun J' => zOf (zbut [165]) J' J ∧ J' 165 = mgO (J 165) t v)) zN := by
  refine tz_Ok.of hl (by decide +kernel) rfl (tb_c1 rfl) (Nat.le_of_ble_eq_true rfl) ?_
  show tz_At l G M_X12_memoGets (tb_rm 1 0 0) none (tb_ZM G 0 0 (zQ n 0 (zqv (fun J' => zOf (zbut [165]) J' J ∧ J' 165 = mgO (J 165) t v))) (zX n 0 zN)) 0 0 n J 0 [some (.ref 164), some (zi t), some (zi v)] []
  obtain ⟨m1, m2, m3⟩ := id hm
  refine tz_aload_n (pc := 0) dX12_memoGets_0 rfl rfl ?_
  refine tz_fR (pc := 1) dX12_memoGets_1 fl_X12_9 r_164_0 ?_
  refine tz_bipush (pc := 4) dX12_memoGets_4 (by decide) ?_
  refine tz_aL (pc := 6) (z := 39) (v := (J 165 39)) dX12_memoGets_6 a_165 rfl (by decide) rfl (fun r_6 => ?_)
  refine tz_if_ne (pc := 7) (tgt := 11) dX12_memoGets_7 (by decide) (by omega) (fun h_7 => ?_) (fun h_7 => ?_)
  · refine tz_aload_n (pc := 11) dX12_memoGets_11 rfl rfl ?_
    refine tz_fR (pc := 12) dX12_memoGets_12 fl_X12_9 r_164_0 ?_
    refine tz_bipush (pc := 15) dX12_memoGets_15 (by decide) ?_
    refine tz_aL (pc := 17) (z := 40) (v := (J 165 40)) dX12_memoGets_17 a_165 rfl (by decide) rfl (fun r_17 => ?_)
    refine tz_aload_n (pc := 18) dX12_memoGets_18 rfl rfl ?_
    refine tz_fR (pc := 19) dX12_memoGets_19 fl_X12_9 r_164_0 ?_
    refine tz_bipush (pc := 22) dX12_memoGets_22 (by decide) ?_
    refine tz_aL (pc := 24) (z := 39) (v := (J 165 39)) dX12_memoGets_24 a_165 rfl (by decide) rfl (fun r_24 => ?_)
    refine tz_icmp_ne (pc := 25) (tgt := 33) dX12_memoGets_25 (by decide) (by omega) (by omega) (fun h_25 => ?_) (fun h_25 => ?_)
    · refine tz_aload_n (pc := 33) dX12_memoGets_33 rfl rfl ?_
      refine tz_fR (pc := 34) dX12_memoGets_34 fl_X12_9 r_164_0 ?_
      refine tz_bipush (pc := 37) dX12_memoGets_37 (by decide) ?_
      refine tz_iconst (pc := 39) dX12_memoGets_39 ?_
      refine tz_aload_n (pc := 40) dX12_memoGets_40 rfl rfl ?_
      refine tz_fR (pc := 41) dX12_memoGets_41 fl_X12_9 r_164_0 ?_
      refine tz_bipush (pc := 44) dX12_memoGets_44 (by decide) ?_
      refine tz_aL (pc := 46) (z := 40) (v := (J 165 40)) dX12_memoGets_46 a_165 rfl (by decide) rfl (fun r_46 => ?_)
      refine tz_imul (pc := 47) (v := 2 * (J 165 40)) dX12_memoGets_47 rfl ?_
      refine tz_iadd (pc := 48) (v := 41 + (2 * (J 165 40))) dX12_memoGets_48 rfl ?_
      refine tz_iload_n (pc := 49) dX12_memoGets_49 rfl rfl ?_
      refine tz_aS (pc := 50) (z := (41 + (2 * (J 165 40)))) dX12_memoGets_50 a_165 rfl (by omega) (by omega) ?_
      refine tz_aload_n (pc := 51) dX12_memoGets_51 rfl rfl ?_
      refine tz_fR (pc := 52) dX12_memoGets_52 fl_X12_9 r_164_0 ?_
      refine tz_bipush (pc := 55) dX12_memoGets_55 (by decide) ?_
      refine tz_iconst (pc := 57) dX12_memoGets_57 ?_
      refine tz_aload_n (pc := 58) dX12_memoGets_58 rfl rfl ?_
      refine tz_fR (pc := 59) dX12_memoGets_59 fl_X12_9 r_164_0 ?_
      refine tz_bipush (pc := 62) dX12_memoGets_62 (by decide) ?_
      refine tz_aL (pc := 64) (z := 40) (v := (J 165 40)) dX12_memoGets_64 a_165 rfl (by decide) (Eq.trans (show zup _ 165 (41 + (2 * (J 165 40))) t 165 40 = _ from zup_ne (by omega)) rfl) (fun r_64 => ?_)
      refine tz_imul (pc := 65) (v := 2 * (J 165 40)) dX12_memoGets_65 rfl ?_
      refine tz_iadd (pc := 66) (v := 41 + (2 * (J 165 40))) dX12_memoGets_66 rfl ?_
      refine tz_iconst (pc := 67) dX12_memoGets_67 ?_
      refine tz_iadd (pc := 68) (v := (41 + (2 * (J 165 40))) + 1) dX12_memoGets_68 rfl ?_
      refine tz_iload_n (pc := 69) dX12_memoGets_69 rfl rfl ?_
      refine tz_aS (pc := 70) (z := ((41 + (2 * (J 165 40))) + 1)) dX12_memoGets_70 a_165 rfl (by omega) (by omega) ?_
      refine tz_aload_n (pc := 71) dX12_memoGets_71 rfl rfl ?_
      refine tz_fR (pc := 72) dX12_memoGets_72 fl_X12_9 r_164_0 ?_
      refine tz_bipush (pc := 75) dX12_memoGets_75 (by decide) ?_
      refine tz_dup2 (pc := 77) dX12_memoGets_77 rfl rfl ?_
      refine tz_aL (pc := 78) (z := 40) (v := (J 165 40)) dX12_memoGets_78 a_165 rfl (by decide) (Eq.trans (show zup _ 165 ((41 + (2 * (J 165 40))) + 1) v 165 40 = _ from zup_ne (by omega)) (Eq.trans (show zup _ 165 (41 + (2 * (J 165 40))) t 165 40 = _ from zup_ne (by omega)) rfl)) (fun r_78 => ?_)
      refine tz_iconst (pc := 79) dX12_memoGets_79 ?_
      refine tz_iadd (pc := 80) (v := (J 165 40) + 1) dX12_memoGets_80 rfl ?_
      refine tz_aS (pc := 81) (z := 40) dX12_memoGets_81 a_165 rfl (by decide) (by omega) ?_
      exact tz_vret (pc := 82) dX12_memoGets_82 rfl (Nat.le_of_ble_eq_true rfl) (Nat.le_of_ble_eq_true rfl) ⟨Nat.le_refl _, Nat.le_add_right _ _⟩ ⟨rfl, ⟨zOf.up rfl (zOf.up rfl (zOf.up rfl zOf.rf)), by unfold mgO; rw [if_neg (by omega), if_neg (by omega)]; rfl⟩⟩
    · refine tz_aload_n (pc := 28) dX12_memoGets_28 rfl rfl ?_
      refine tz_iconst (pc := 29) dX12_memoGets_29 ?_
      refine tz_cV (pc := 30) (x_memoLoses hl n _ _ (by decide) m hm (by omega)) vl_X12_204 dX12_memoGets_30 o_164 rfl rfl (Nat.le_of_ble_eq_true rfl) ⟨(Nat.le_of_ble_eq_true rfl), (Nat.le_of_ble_eq_true rfl)⟩ rfl rfl (Nat.le_of_ble_eq_true rfl) (Nat.le_of_ble_eq_true rfl) (fun r9 J_30 hq9 => ?_)
      obtain ⟨rfl, f4, e4⟩ := hq9
      have o4 : ∀ k, (k < 40 ∨ 59 ≤ k) → J_30 165 k = J 165 k := fun k hk => by rw [e4]; exact mlO_o hk ⟨by decide, by omega⟩
      have e40 : J_30 165 40 = J 165 40 - 1 := by rw [e4]; exact if_pos rfl
      have hk0 : 40 ≤ 41 + 2 * J_30 165 40 ∧ 41 + 2 * J_30 165 40 < 59 := by omega
      have hk1 : 40 ≤ 41 + 2 * J_30 165 40 + 1 ∧ 41 + 2 * J_30 165 40 + 1 < 59 := by omega
      refine tz_aload_n (pc := 33) dX12_memoGets_33 rfl rfl ?_
      refine tz_fR (pc := 34) dX12_memoGets_34 fl_X12_9 r_164_0 ?_
      refine tz_bipush (pc := 37) dX12_memoGets_37 (by decide) ?_
      refine tz_iconst (pc := 39) dX12_memoGets_39 ?_
      refine tz_aload_n (pc := 40) dX12_memoGets_40 rfl rfl ?_
      refine tz_fR (pc := 41) dX12_memoGets_41 fl_X12_9 r_164_0 ?_
      refine tz_bipush (pc := 44) dX12_memoGets_44 (by decide) ?_
      refine tz_aL (pc := 46) (z := 40) (v := (J_30 165 40)) dX12_memoGets_46 a_165 rfl (by decide) rfl (fun r_46 => ?_)
      refine tz_imul (pc := 47) (v := 2 * (J_30 165 40)) dX12_memoGets_47 rfl ?_
      refine tz_iadd (pc := 48) (v := 41 + (2 * (J_30 165 40))) dX12_memoGets_48 rfl ?_
      refine tz_iload_n (pc := 49) dX12_memoGets_49 rfl rfl ?_
      refine tz_aS (pc := 50) (z := (41 + (2 * (J_30 165 40)))) dX12_memoGets_50 a_165 rfl (by omega) (by omega) ?_
      refine tz_aload_n (pc := 51) dX12_memoGets_51 rfl rfl ?_
      refine tz_fR (pc := 52) dX12_memoGets_52 fl_X12_9 r_164_0 ?_
      refine tz_bipush (pc := 55) dX12_memoGets_55 (by decide) ?_
      refine tz_iconst (pc := 57) dX12_memoGets_57 ?_
      refine tz_aload_n (pc := 58) dX12_memoGets_58 rfl rfl ?_
      refine tz_fR (pc := 59) dX12_memoGets_59 fl_X12_9 r_164_0 ?_
      refine tz_bipush (pc := 62) dX12_memoGets_62 (by decide) ?_
      refine tz_aL (pc := 64) (z := 40) (v := (J_30 165 40)) dX12_memoGets_64 a_165 rfl (by decide) (Eq.trans (show zup _ 165 (41 + (2 * (J_30 165 40))) t 165 40 = _ from zup_ne (by omega)) rfl) (fun r_64 => ?_)
      refine tz_imul (pc := 65) (v := 2 * (J_30 165 40)) dX12_memoGets_65 rfl ?_
      refine tz_iadd (pc := 66) (v := 41 + (2 * (J_30 165 40))) dX12_memoGets_66 rfl ?_
      refine tz_iconst (pc := 67) dX12_memoGets_67 ?_
      refine tz_iadd (pc := 68) (v := (41 + (2 * (J_30 165 40))) + 1) dX12_memoGets_68 rfl ?_
      refine tz_iload_n (pc := 69) dX12_memoGets_69 rfl rfl ?_
      refine tz_aS (pc := 70) (z := ((41 + (2 * (J_30 165 40))) + 1)) dX12_memoGets_70 a_165 rfl (by omega) (by omega) ?_
      refine tz_aload_n (pc := 71) dX12_memoGets_71 rfl rfl ?_
      refine tz_fR (pc := 72) dX12_memoGets_72 fl_X12_9 r_164_0 ?_
      refine tz_bipush (pc := 75) dX12_memoGets_75 (by decide) ?_
      refine tz_dup2 (pc := 77) dX12_memoGets_77 rfl rfl ?_
      refine tz_aL (pc := 78) (z := 40) (v := (J_30 165 40)) dX12_memoGets_78 a_165 rfl (by decide) (Eq.trans (show zup _ 165 ((41 + (2 * (J_30 165 40))) + 1) v 165 40 = _ from zup_ne (by omega)) (Eq.trans (show zup _ 165 (41 + (2 * (J_30 165 40))) t 165 40 = _ from zup_ne (by omega)) rfl)) (fun r_78 => ?_)
      refine tz_iconst (pc := 79) dX12_memoGets_79 ?_
      refine tz_iadd (pc := 80) (v := (J_30 165 40) + 1) dX12_memoGets_80 rfl ?_
      refine tz_aS (pc := 81) (z := 40) dX12_memoGets_81 a_165 rfl (by decide) (by omega) ?_
      exact tz_vret (pc := 82) dX12_memoGets_82 rfl (Nat.le_of_ble_eq_true rfl) (Nat.le_of_ble_eq_true rfl) ⟨Nat.le_refl _, Nat.le_add_right _ _⟩ ⟨rfl, ⟨zOf.up rfl (zOf.up rfl (zOf.up rfl f4)), by unfold mgO; rw [if_neg (by omega), if_pos (by omega), ← e4]; rfl⟩⟩
  · exact tz_vret (pc := 10) dX12_memoGets_10 rfl (Nat.le_of_ble_eq_true rfl) (Nat.le_of_ble_eq_true rfl) ⟨Nat.le_refl _, Nat.le_add_right _ _⟩ ⟨rfl, ⟨zOf.rf, by unfold mgO; rw [if_pos (by omega)]⟩⟩

end
section
/-! ===== the first rule that fits ===== -/
/-- no rule before the i-th fits t -/
def NOR (S : zJ) (t i : Int) : Prop := ∀ q, 0 ≤ q → q < i → (omt S (S 165 (10 + 2 * q)) t).1 = false
/-- the first rule that fits t is z, and binds as σ says; or none is -/
def FRO (S : zJ) (t z : Int) (σ : Int → Int) : Prop := (z = -1 ∧ NOR S t (S 165 9)) ∨ ((0 ≤ z ∧ z < S 165 9) ∧ (omt S (S 165 (10 + 2 * z)) t).1 = true ∧ sgA σ (omt S (S 165 (10 + 2 * z)) t).2 ∧ NOR S t z)
theorem NOR.s {S : zJ} {t i : Int} (h : NOR S t i) (e : (omt S (S 165 (10 + 2 * i)) t).1 = false) : NOR S t (i + 1) := fun q a b => by
  by_cases w : q = i
  · rw [w]; exact e
  · exact h q a (by omega)
theorem FRO.u {S : zJ} {t z z' : Int} {σ σ' : Int → Int} (h : FRO S t z σ) (g : FRO S t z' σ') : z = z' ∧ (0 ≤ z → sgA σ σ') := by
  rcases h with ⟨a, b⟩ | ⟨a, b, c, d⟩
  · rcases g with ⟨a', b'⟩ | ⟨a', b', c', d'⟩
    · exact ⟨by omega, fun q => by omega⟩
    · have := b z' a'.1 a'.2
      rw [b'] at this
      cases this
  · rcases g with ⟨a', b'⟩ | ⟨a', b', c', d'⟩
    · have := b' z a.1 a.2
      rw [b] at this
      cases this
    · have e : z = z' := by
        by_cases l : z < z'
        · have := d' z a.1 l
          rw [b] at this
          cases this
        · by_cases l' : z' < z
          · have := d z' a'.1 l'
            rw [b'] at this
            cases this
          · omega
      subst e
      exact ⟨rfl, fun _ k p q => (c k p q).trans (c' k p q).symm⟩
set_option maxHeartbeats 4000000 in
set_option maxRecDepth 100000 in
theorem x_firstRule {l : Launch} {G : tb_G} (hl : l.stackTraces = false) (n : Nat) (J : zJ) (t : Int) (hr_t : -2147483648 ≤ t ∧ t < 2147483648) (m : Int) (S : zJ) (C : CT J m) (hm : J 6 12 = m) (hL : LI (J 19) m) (ht : 0 ≤ t ∧ t < m) (E : A0 J S) (W : RW (J 19) (S 165)) : tz_Ok l G M_X7_firstRule 8 0 0 [.ref 18, .ref 139, zi t] n J (zqi (fun z J' => zOf (zbut [140]) J' J ∧ (z = -1 ∨ ((0 ≤ z ∧ z < J 19 4) ∧ gOK (J' 140) m)) ∧ FRO S t z (J' 140))) zN := by
  refine tz_Ok.of hl (by decide +kernel) rfl (tb_c1 rfl) (Nat.le_of_ble_eq_true rfl) ?_
  show tz_At l G M_X7_firstRule (tb_rm 8 0 0) none (tb_ZM G 0 0 (zQ n 0 (zqi (fun z J' => zOf (zbut [140]) J' J ∧ (z = -1 ∨ ((0 ≤ z ∧ z < J 19 4) ∧ gOK (J' 140) m)) ∧ FRO S t z (J' 140)))) (zX n 0 zN)) 0 0 n J 0 [some (.ref 18), some (.ref 139), some (zi t), none] []
  have hb := C.told
  have h4 := hL.1.2.1
  have w4 := W.2.1.1
  refine tz_iconst (pc := 0) dX7_firstRule_0 ?_
  refine tz_istore_n (pc := 1) (L2 := [_, _, _, _]) dX7_firstRule_1 rfl (by decide) rfl ?_
  have loop2 : ∀ (f9 : Nat) (i : Int) (J1 : zJ), ((8 - i).toNat) < f9 → (0 ≤ i ∧ i ≤ J 19 4) → (zOf (zbut [140]) J1 J) → (NOR S t i) → tz_At l G M_X7_firstRule (tb_rm 8 0 0) none (tb_ZM G 0 0 (zQ n 0 (zqi (fun z J' => zOf (zbut [140]) J' J ∧ (z = -1 ∨ ((0 ≤ z ∧ z < J 19 4) ∧ gOK (J' 140) m)) ∧ FRO S t z (J' 140)))) (zX n 0 zN)) 0 0 n J1 2 [some (.ref 18), some (.ref 139), some (zi t), some (zi i)] [] := by
    intro f9
    induction f9 with
    | zero => intro i J1 hm9; exact absurd hm9 (Nat.not_lt_zero _)
    | succ f9 ih2 =>
      intro i J1 hm2 hi f1 hn
      have e9 := hL.2.2.1 i
      refine tz_iload_n (pc := 2) dX7_firstRule_2 rfl rfl ?_
      refine tz_aload_n (pc := 3) dX7_firstRule_3 rfl rfl ?_
      refine tz_fR (pc := 4) dX7_firstRule_4 fl_X7_60 r_18_0 ?_
      refine tz_iconst (pc := 7) dX7_firstRule_7 ?_
      refine tz_aL (pc := 8) (z := 4) (v := (J 19 4)) dX7_firstRule_8 a_19 rfl (by decide) (Eq.trans (congrFun (f1 19 rfl) 4) rfl) (fun r_8 => ?_)
      refine tz_icmp_ge (pc := 9) (tgt := 37) dX7_firstRule_9 (by decide) (by omega) (by omega) (fun h_9 => ?_) (fun h_9 => ?_)
      · refine tz_iconst (pc := 37) dX7_firstRule_37 ?_
        exact tz_iret (pc := 38) (z := (-1)) dX7_firstRule_38 rfl (Nat.le_of_ble_eq_true rfl) (Nat.le_of_ble_eq_true rfl) ⟨Nat.le_refl _, Nat.le_add_right _ _⟩ ⟨_, rfl, (by decide), (by first | exact ⟨a2.tr f1, Or.inr ⟨by omega, a3⟩, Or.inr ⟨by omega, by rw [← w9]; exact mt9.1.symm.trans (qz.resolve_right (fun k => by have := k.2; omega)).1, by rw [← w9, q1.2]; exact mt9.2, hn⟩⟩ | exact ⟨f1, Or.inl rfl, Or.inl ⟨rfl, fun q a b => hn q a (by omega)⟩⟩)⟩
      · refine tz_aload_n (pc := 12) dX7_firstRule_12 rfl rfl ?_
        refine tz_aload_n (pc := 13) dX7_firstRule_13 rfl rfl ?_
        refine tz_fR (pc := 14) dX7_firstRule_14 fl_X7_60 r_18_0 ?_
        refine tz_bipush (pc := 17) dX7_firstRule_17 (by decide) ?_
        refine tz_iload_n (pc := 19) dX7_firstRule_19 rfl rfl ?_
        refine tz_iadd (pc := 20) (v := 15 + i) dX7_firstRule_20 rfl ?_
        refine tz_aL (pc := 21) (z := (15 + i)) (v := (J 19 (15 + i))) dX7_firstRule_21 a_19 rfl (by omega) (Eq.trans (congrFun (f1 19 rfl) (15 + i)) rfl) (fun r_21 => ?_)
        refine tz_iload_n (pc := 22) dX7_firstRule_22 rfl rfl ?_
        refine tz_cV (pc := 23) (x_matches hl n _ _ _ (by omega) (by omega) m (C.of (fun c hc => f1 c (by simp [zbut]; omega))) (by omega) ht) vl_X7_96 dX7_firstRule_23 o_139 rfl rfl (Nat.le_of_ble_eq_true rfl) ⟨(Nat.le_of_ble_eq_true rfl), (Nat.le_of_ble_eq_true rfl)⟩ rfl rfl (Nat.le_of_ble_eq_true rfl) (Nat.le_of_ble_eq_true rfl) (fun r9 J_23 hq9 => ?_)
        obtain ⟨zc, rfl, hz_23, ⟨σ9, qs, q1⟩, a2, a3⟩ := hq9
        have E1 : A0 J1 S := E.f (fun c hc => f1 c (by simp [zbut]; omega))
        have w9 := (W.2.1.2 i (by omega) (by omega)).1
        have mt9 := E1.mt (σ' := fun _ => -1) (C.of (fun c hc => f1 c (by simp [zbut]; omega))) (by rw [f1 6 rfl]; exact hm) (p := J 19 (15 + i)) (t := t) (by omega) ht qs
        have qz := q1.1
        refine tz_if_eq (pc := 26) (tgt := 31) dX7_firstRule_26 (by decide) (by omega) (fun h_26 => ?_) (fun h_26 => ?_)
        · refine tz_iinc (pc := 31) (z := i + 1) (L2 := [_, _, _, _]) dX7_firstRule_31 rfl (by omega) rfl ?_
          refine tz_goto (pc := 34) (tgt := 2) dX7_firstRule_34 (by decide) ?_
          exact ih2 (i + 1) _ (by omega) (by omega) (a2.tr f1) (hn.s (by rw [← w9]; exact mt9.1.symm.trans (qz.resolve_left (fun k => by have := k.2; omega)).1))
        · refine tz_iload_n (pc := 29) dX7_firstRule_29 rfl rfl ?_
          exact tz_iret (pc := 30) (z := i) dX7_firstRule_30 rfl (Nat.le_of_ble_eq_true rfl) (Nat.le_of_ble_eq_true rfl) ⟨Nat.le_refl _, Nat.le_add_right _ _⟩ ⟨_, rfl, (by omega), (by first | exact ⟨a2.tr f1, Or.inr ⟨by omega, a3⟩, Or.inr ⟨by omega, by rw [← w9]; exact mt9.1.symm.trans (qz.resolve_right (fun k => by have := k.2; omega)).1, by rw [← w9, q1.2]; exact mt9.2, hn⟩⟩ | exact ⟨f1, Or.inl rfl, Or.inl ⟨rfl, fun q a b => hn q a (by omega)⟩⟩)⟩
  exact loop2 _ 0 _ (Nat.lt_succ_self _) (by omega) zOf.rf (fun q a b => by omega)

end
section
/-! ===== normal forms: a machine that both sides come to ===== -/
/-- the row made another one -/
def sr (S : zJ) (f : Int → Int) : zJ := fun c => if c = 165 then f else S c
/-- where the memo has t; the memo's length without -/
noncomputable def mAt (S : zJ) (t : Int) : Int := fnB (fun q => dcB (¬ S 165 (41 + 2 * q) = t)) (S 165 40) 0
/-- the first rule that fits t; their number without -/
noncomputable def nFR (S : zJ) (t : Int) : Int := fnB (fun q => dcB ((omt S (S 165 (10 + 2 * q)) t).1 = false)) (S 165 9) 0
theorem mAt_n {S : zJ} {t : Int} (h0 : 0 ≤ S 165 40) (h : ∀ q, 0 ≤ q → q < S 165 40 → ¬ S 165 (41 + 2 * q) = t) : mAt S t = S 165 40 := fnB_eq h0 (Int.le_refl _) (fun q a b => dcB_t (h q a b)) (Or.inl rfl)
theorem mAt_y {S : zJ} {t z : Int} (hz : 0 ≤ z ∧ z < S 165 40) (e : S 165 (41 + 2 * z) = t) (h : ∀ q, 0 ≤ q → q < z → ¬ S 165 (41 + 2 * q) = t) : mAt S t = z := fnB_eq hz.1 (by omega) (fun q a b => dcB_t (h q a b)) (Or.inr (dcB_f (fun k => k e)))
theorem FRO.n {S : zJ} {t z : Int} {σ : Int → Int} (h0 : 0 ≤ S 165 9) (h : FRO S t z σ) : (z = -1 ∧ nFR S t = S 165 9) ∨ ((0 ≤ z ∧ z < S 165 9) ∧ nFR S t = z ∧ sgA σ (omt S (S 165 (10 + 2 * z)) t).2) := by
  rcases h with ⟨a, b⟩ | ⟨a, b, c, d⟩
  · exact Or.inl ⟨a, fnB_eq h0 (Int.le_refl _) (fun q p r => dcB_t (b q p r)) (Or.inl rfl)⟩
  · exact Or.inr ⟨a, fnB_eq a.1 (by omega) (fun q p r => dcB_t (d q p r)) (Or.inr (dcB_f (fun k => by rw [b] at k; cases k))), c⟩
/-- a frame: the term, how many arguments are normal (4: stepped), they -/
abbrev NFr : Type := Int × Int × Int × Int × Int
/-- a state: what is told and the steps, the frames, a value (-1: go on, -3: full, -4: too much) -/
abbrev NCf : Type := (zJ × Int) × List NFr × Int
/-- what is known at once of a term, else a frame for it -/
noncomputable def nOP (S : zJ) (σ : Int) (K : List NFr) (t : Int) : NCf :=
  if S 166 (0 + t) < 0 then ((S, σ), K, t)
  else if mAt S t = S 165 40 then ((S, σ), (t, 0, 0, 0, 0) :: K, -1)
  else ((sr S (mhO (S 165) (mAt S t)), σ), K, S 165 (41 + 2 * mAt S t + 1))
/-- a step by a rule -/
noncomputable def nRU (S : zJ) (σ : Int) (K : List NFr) (F : NFr) (u k : Int) : NCf :=
  if 100 ≤ σ then ((S, 101), [], -4)
  else if (apO (omt S (S 165 (10 + 2 * k)) u).2 6 (zup S 165 62 (zw (S 165 62 + 1))) (S 165 (10 + 2 * k + 1))).1 164 21 = 0 then nOP (apO (omt S (S 165 (10 + 2 * k)) u).2 6 (zup S 165 62 (zw (S 165 62 + 1))) (S 165 (10 + 2 * k + 1))).1 (σ + 1) ((F.1, 4, F.2.2) :: K) (apO (omt S (S 165 (10 + 2 * k)) u).2 6 (zup S 165 62 (zw (S 165 62 + 1))) (S 165 (10 + 2 * k + 1))).2
  else (((apO (omt S (S 165 (10 + 2 * k)) u).2 6 (zup S 165 62 (zw (S 165 62 + 1))) (S 165 (10 + 2 * k + 1))).1, σ + 1), [], -3)
/-- a term whose arguments are normal: S is the state with it, u it -/
noncomputable def nMD (M : zJ × Int) (σ : Int) (K : List NFr) (F : NFr) : NCf :=
  if M.1 164 21 = 0 then (if nFR M.1 M.2 = M.1 165 9 then ((sr M.1 (mgO (M.1 165) F.1 M.2), σ), K, M.2) else nRU M.1 σ K F M.2 (nFR M.1 M.2)) else ((M.1, σ), [], -3)
noncomputable def nST : NCf → NCf
  | (Q, [], v) => (Q, [], v)
  | (Q, F :: K, v) =>
    if v = -1 then (if F.2.1 < mar Q.1 0 0 F.1 then nOP Q.1 Q.2 (F :: K) (Q.1 167 (3 * (0 + F.1) + F.2.1)) else nMD (tmO Q.1 (Q.1 166 (0 + F.1)) F.2.2.1 F.2.2.2.1 F.2.2.2.2) Q.2 K F)
    else if 3 ≤ F.2.1 then ((sr Q.1 (mgO (Q.1 165) F.1 v), Q.2), K, v)
    else (Q, (F.1, F.2.1 + 1, if F.2.1 = 0 then v else F.2.2.1, if F.2.1 = 1 then v else F.2.2.2.1, if F.2.1 = 2 then v else F.2.2.2.2) :: K, -1)
noncomputable def nIT : Nat → NCf → NCf
  | 0, c => c
  | n + 1, c => nIT n (nST c)
theorem nIT_s {n : Nat} {c : NCf} : nIT (n + 1) c = nIT n (nST c) := rfl
theorem nIT_1 {c : NCf} : nIT 1 c = nST c := nIT_s (n := 0)
theorem nST_s {Q : zJ × Int} {F : NFr} {K : List NFr} {v : Int} : nST (Q, F :: K, v) = if v = -1 then (if F.2.1 < mar Q.1 0 0 F.1 then nOP Q.1 Q.2 (F :: K) (Q.1 167 (3 * (0 + F.1) + F.2.1)) else nMD (tmO Q.1 (Q.1 166 (0 + F.1)) F.2.2.1 F.2.2.2.1 F.2.2.2.2) Q.2 K F) else if 3 ≤ F.2.1 then ((sr Q.1 (mgO (Q.1 165) F.1 v), Q.2), K, v) else (Q, (F.1, F.2.1 + 1, if F.2.1 = 0 then v else F.2.2.1, if F.2.1 = 1 then v else F.2.2.2.1, if F.2.1 = 2 then v else F.2.2.2.2) :: K, -1) := rfl
theorem nIT_add : ∀ (n k : Nat) (c : NCf), nIT (n + k) c = nIT k (nIT n c)
  | 0, k, c => by rw [Nat.zero_add]; rfl
  | n + 1, k, c => by rw [show n + 1 + k = (n + k) + 1 from by omega]; exact nIT_add n k (nST c)
theorem nIT_e : ∀ (n : Nat) (Q : zJ × Int) (v : Int), nIT n (Q, [], v) = (Q, [], v)
  | 0, _, _ => rfl
  | n + 1, Q, v => nIT_e n Q v
/-- from any frames below, t comes to z in n turns -/
def NRN (n : Nat) (S : zJ) (σ t : Int) (S' : zJ) (σ' z : Int) : Prop := ∀ K, nIT n (nOP S σ K t) = ((S', σ'), K, z)
/-- from any frames below, all stops within n turns -/
def NRS (n : Nat) (S : zJ) (σ t : Int) (Q : zJ × Int) (v : Int) : Prop := ∀ K, nIT n (nOP S σ K t) = (Q, [], v)
theorem nrn_v {S : zJ} {σ t : Int} (h : S 166 (0 + t) < 0) : NRN 0 S σ t S σ t := fun K => by
  show nOP S σ K t = _
  unfold nOP
  rw [if_pos h]
theorem nrn_m {S : zJ} {σ t : Int} (h : ¬ S 166 (0 + t) < 0) (e : ¬ mAt S t = S 165 40) : NRN 0 S σ t (sr S (mhO (S 165) (mAt S t))) σ (S 165 (41 + 2 * mAt S t + 1)) := fun K => by
  show nOP S σ K t = _
  unfold nOP
  rw [if_neg h, if_neg e]
theorem nop_f {S : zJ} {σ t : Int} {K : List NFr} (h : ¬ S 166 (0 + t) < 0) (e : mAt S t = S 165 40) : nOP S σ K t = ((S, σ), (t, 0, 0, 0, 0) :: K, -1) := by
  unfold nOP
  rw [if_neg h, if_pos e]
/-- an argument is made normal -/
theorem nit_a {n : Nat} {S S' : zJ} {σ σ' t s a b c z : Int} {K : List NFr} (hs : s < mar S 0 0 t) (h3 : s < 3) (r : NRN n S σ (S 167 (3 * (0 + t) + s)) S' σ' z) (hz : 0 ≤ z) : nIT (1 + n + 1) ((S, σ), (t, s, a, b, c) :: K, -1) = ((S', σ'), (t, s + 1, if s = 0 then z else a, if s = 1 then z else b, if s = 2 then z else c) :: K, -1) := by
  rw [nIT_add, nIT_add]
  have e : nIT 1 ((S, σ), (t, s, a, b, c) :: K, -1) = nOP S σ ((t, s, a, b, c) :: K) (S 167 (3 * (0 + t) + s)) := by
    rw [nIT_1, nST_s]
    rw [if_pos rfl, if_pos hs]
  rw [e, r]
  rw [nIT_1, nST_s]
  rw [if_neg (by omega), if_neg (by show ¬ 3 ≤ s; omega)]
theorem nit_as {n : Nat} {S : zJ} {Q : zJ × Int} {σ t s a b c v : Int} {K : List NFr} (hs : s < mar S 0 0 t) (r : NRS n S σ (S 167 (3 * (0 + t) + s)) Q v) : nIT (1 + n) ((S, σ), (t, s, a, b, c) :: K, -1) = (Q, [], v) := by
  rw [nIT_add]
  have e : nIT 1 ((S, σ), (t, s, a, b, c) :: K, -1) = nOP S σ ((t, s, a, b, c) :: K) (S 167 (3 * (0 + t) + s)) := by
    rw [nIT_1, nST_s]
    rw [if_pos rfl, if_pos hs]
  rw [e, r]
/-- all arguments are normal: it is made -/
theorem nit_d {S : zJ} {σ t s a b c : Int} {K : List NFr} (hs : ¬ s < mar S 0 0 t) : nIT 1 ((S, σ), (t, s, a, b, c) :: K, -1) = nMD (tmO S (S 166 (0 + t)) a b c) σ K (t, s, a, b, c) := by
  rw [nIT_1, nST_s]
  rw [if_pos rfl, if_neg hs]
/-- behind a step: the frame is closed with what came -/
theorem nit_c {S : zJ} {σ t a z : Int} {p : Int × Int × Int} {K : List NFr} (hz : 0 ≤ z) : nIT 1 ((S, σ), (t, 4, p) :: K, z) = ((sr S (mgO (S 165) t z), σ), K, z) := by
  rw [nIT_1, nST_s]
  rw [if_neg (by omega), if_pos (by show (3 : Int) ≤ 4; decide)]
end
section
/-! ===== the machine of normal forms: a term whose arguments are normal ===== -/
/-- what a rule's step makes of a term: the state with the step told, the right side with the bindings put in -/
noncomputable def nRT (S : zJ) (u k : Int) : zJ × Int := apO (omt S (S 165 (10 + 2 * k)) u).2 6 (zup S 165 62 (zw (S 165 62 + 1))) (S 165 (10 + 2 * k + 1))
theorem nRU_t {S : zJ} {σ u k : Int} {K : List NFr} {F : NFr} (h : 100 ≤ σ) : nRU S σ K F u k = ((S, 101), [], -4) := by
  unfold nRU
  rw [if_pos h]
theorem nRU_f {S : zJ} {σ u k : Int} {K : List NFr} {F : NFr} (h : ¬ 100 ≤ σ) (f : ¬ (nRT S u k).1 164 21 = 0) : nRU S σ K F u k = (((nRT S u k).1, σ + 1), [], -3) := by
  unfold nRT at f
  unfold nRU
  rw [if_neg h, if_neg f]
  rfl
theorem nRU_o {S : zJ} {σ u k : Int} {K : List NFr} {F : NFr} (h : ¬ 100 ≤ σ) (f : (nRT S u k).1 164 21 = 0) : nRU S σ K F u k = nOP (nRT S u k).1 (σ + 1) ((F.1, 4, F.2.2) :: K) (nRT S u k).2 := by
  unfold nRT at f
  unfold nRU
  rw [if_neg h, if_pos f]
  rfl
/-- no rule fits: it is its own normal form -/
theorem nmd_n {M : zJ × Int} {σ : Int} {K : List NFr} {F : NFr} (f : M.1 164 21 = 0) (e : nFR M.1 M.2 = M.1 165 9) : nMD M σ K F = ((sr M.1 (mgO (M.1 165) F.1 M.2), σ), K, M.2) := by
  unfold nMD
  rw [if_pos f, if_pos e]
theorem nmd_f {M : zJ × Int} {σ : Int} {K : List NFr} {F : NFr} (f : ¬ M.1 164 21 = 0) : nMD M σ K F = ((M.1, σ), [], -3) := by
  unfold nMD
  rw [if_neg f]
theorem nmd_u {M : zJ × Int} {σ k : Int} {K : List NFr} {F : NFr} (f : M.1 164 21 = 0) (e : nFR M.1 M.2 = k) (hk : k < M.1 165 9) : nMD M σ K F = nRU M.1 σ K F M.2 k := by
  unfold nMD
  rw [if_pos f, if_neg (by omega), e]
/-- a rule fits, and what comes of it has a normal form -/
theorem nmd_r {n : Nat} {M : zJ × Int} {S' : zJ} {σ σ' k z : Int} {K : List NFr} {F : NFr} (f : M.1 164 21 = 0) (e : nFR M.1 M.2 = k) (hk : k < M.1 165 9) (h : ¬ 100 ≤ σ) (g : (nRT M.1 M.2 k).1 164 21 = 0) (r : NRN n (nRT M.1 M.2 k).1 (σ + 1) (nRT M.1 M.2 k).2 S' σ' z) (hz : 0 ≤ z) : nIT (n + 1) (nMD M σ K F) = ((sr S' (mgO (S' 165) F.1 z), σ'), K, z) := by
  rw [nmd_u f e hk, nRU_o h g, nIT_add, r, nit_c (a := 0) hz]
/-- a rule fits, and all stops -/
theorem nmd_s {n : Nat} {M : zJ × Int} {Q : zJ × Int} {σ k v : Int} {K : List NFr} {F : NFr} (f : M.1 164 21 = 0) (e : nFR M.1 M.2 = k) (hk : k < M.1 165 9) (h : ¬ 100 ≤ σ) (g : (nRT M.1 M.2 k).1 164 21 = 0) (r : NRS n (nRT M.1 M.2 k).1 (σ + 1) (nRT M.1 M.2 k).2 Q v) : nIT n (nMD M σ K F) = (Q, [], v) := by
  rw [nmd_u f e hk, nRU_o h g, r]
theorem nmd_t {n : Nat} {M : zJ × Int} {σ k : Int} {K : List NFr} {F : NFr} (f : M.1 164 21 = 0) (e : nFR M.1 M.2 = k) (hk : k < M.1 165 9) (h : 100 ≤ σ) : nIT n (nMD M σ K F) = ((M.1, 101), [], -4) := by
  rw [nmd_u f e hk, nRU_t h, nIT_e]
theorem nmd_x {n : Nat} {M : zJ × Int} {σ k : Int} {K : List NFr} {F : NFr} (f : M.1 164 21 = 0) (e : nFR M.1 M.2 = k) (hk : k < M.1 165 9) (h : ¬ 100 ≤ σ) (g : ¬ (nRT M.1 M.2 k).1 164 21 = 0) : nIT n (nMD M σ K F) = (((nRT M.1 M.2 k).1, σ + 1), [], -3) := by
  rw [nmd_u f e hk, nRU_f h g, nIT_e]
/-- once stopped, it stays so -/
theorem NRS.m {n k : Nat} {S : zJ} {Q : zJ × Int} {σ t v : Int} (h : NRS n S σ t Q v) : NRS (n + k) S σ t Q v := fun K => by
  rw [nIT_add, h, nIT_e]
/-- the turns that a term of depth d may need, without a step -/
def nWT : Nat → Int
  | 0 => 0
  | d + 1 => 3 * nWT d + 8
theorem nWT_0 : ∀ d : Nat, 0 ≤ nWT d
  | 0 => Int.le_refl _
  | d + 1 => by
    have := nWT_0 d
    show 0 ≤ 3 * nWT d + 8
    omega
theorem nWT_6 : nWT 6 = 2912 := rfl
end
section
/-! ===== what becomes of a term on the machine, as the reference tells it ===== -/
/-- the reference has stopped, and why -/
def NSV (J : zJ) (v : Int) : Prop := (v = -3 ∧ ¬ J 164 21 = 0 ∧ J 164 34 ≤ 100) ∨ (v = -4 ∧ J 164 21 = 0 ∧ 100 < J 164 34)
def NGO (J : zJ) : Prop := J 164 21 = 0 ∧ J 164 34 ≤ 100
theorem NSV.n {J : zJ} {v : Int} (h : NSV J v) : ¬ NGO J := fun g => by
  rcases h with ⟨_, a, _⟩ | ⟨_, _, a⟩
  · exact a g.1
  · have := g.2
    omega
theorem NSV.e {J J' : zJ} {v : Int} (h : NSV J v) (e1 : J' 164 21 = J 164 21) (e2 : J' 164 34 = J 164 34) : NSV J' v := by
  unfold NSV
  rw [e1, e2]
  exact h
/-- the normal form of t, from S and σ steps on: J' and z, with at most B turns but for those of steps -/
def NOC (B : Int) (S : zJ) (σ t : Int) (J' : zJ) (z : Int) : Prop := (NGO J' ∧ 0 ≤ z ∧ ∃ n : Nat, (n : Int) ≤ B + (J' 164 34 - σ) * 2914 ∧ NRN n S σ t (tb0 J') (J' 164 34) z) ∨ ∃ (n : Nat) (Q : zJ × Int) (v : Int), NSV J' v ∧ (n : Int) ≤ B + (101 - σ) * 2914 ∧ NRS n S σ t Q v
/-- a frame's stage: s arguments are normal -/
def NSO (B : Int) (S : zJ) (σ t s : Int) (J1 : zJ) (a b c : Int) : Prop := (NGO J1 ∧ ∃ n : Nat, (n : Int) ≤ B + (J1 164 34 - σ) * 2914 ∧ ∀ K, nIT n ((S, σ), (t, 0, 0, 0, 0) :: K, -1) = ((tb0 J1, J1 164 34), (t, s, a, b, c) :: K, -1)) ∨ ∃ (n : Nat) (Q : zJ × Int) (v : Int), NSV J1 v ∧ (n : Int) ≤ B + (101 - σ) * 2914 ∧ ∀ K, nIT n ((S, σ), (t, 0, 0, 0, 0) :: K, -1) = (Q, [], v)
theorem nso_0 {J : zJ} {t : Int} (h : NGO J) : NSO 0 (tb0 J) (J 164 34) t 0 J 0 0 0 := Or.inl ⟨h, 0, by omega, fun _ => rfl⟩
theorem NSO.m {B B' σ t s a b c : Int} {S J1 : zJ} (h : NSO B S σ t s J1 a b c) (l : B ≤ B') : NSO B' S σ t s J1 a b c := by
  rcases h with ⟨g, n, p, q⟩ | ⟨n, Q, v, g, p, q⟩
  · exact Or.inl ⟨g, n, by omega, q⟩
  · exact Or.inr ⟨n, Q, v, g, by omega, q⟩
/-- one more argument -/
theorem nso_a {B B' σ t s a b c z : Int} {S J1 J2 : zJ} (h : NSO B S σ t s J1 a b c) (hs : s < mar (tb0 J1) 0 0 t) (h3 : s < 3) (ok : NGO J1 → NOC B' (tb0 J1) (J1 164 34) (tb0 J1 167 (3 * (0 + t) + s)) J2 z) (no : ¬ NGO J1 → J2 164 21 = J1 164 21 ∧ J2 164 34 = J1 164 34) (hB : 0 ≤ B') : NSO (B + B' + 2) S σ t (s + 1) J2 (if s = 0 then z else a) (if s = 1 then z else b) (if s = 2 then z else c) := by
  rcases h with ⟨g, n, p, q⟩ | ⟨n, Q, v, g, p, q⟩
  · have g2 := g.2
    rcases ok g with ⟨g', z0, n', p', r⟩ | ⟨n', Q, v, g', p', r⟩
    · refine Or.inl ⟨g', n + (1 + n' + 1), by omega, fun K => ?_⟩
      rw [nIT_add, q, nit_a hs h3 r z0]
    · refine Or.inr ⟨n + (1 + n'), Q, v, g', by omega, fun K => ?_⟩
      rw [nIT_add, q, nit_as hs r]
  · obtain ⟨e1, e2⟩ := no g.n
    exact Or.inr ⟨n, Q, v, g.e e1 e2, by omega, q⟩
/-- at once -/
theorem noc_v {J : zJ} {t : Int} (h : NGO J) (hv : tb0 J 166 (0 + t) < 0) (h0 : 0 ≤ t) : NOC 0 (tb0 J) (J 164 34) t J t := Or.inl ⟨h, h0, 0, by omega, nrn_v hv⟩
theorem noc_m {J J' : zJ} {t : Int} (h : NGO J') (hv : ¬ tb0 J 166 (0 + t) < 0) (e : ¬ mAt (tb0 J) t = tb0 J 165 40) (f : tb0 J' = sr (tb0 J) (mhO (tb0 J 165) (mAt (tb0 J) t))) (e4 : J' 164 34 = J 164 34) (h0 : 0 ≤ tb0 J 165 (41 + 2 * mAt (tb0 J) t + 1)) : NOC 0 (tb0 J) (J 164 34) t J' (tb0 J 165 (41 + 2 * mAt (tb0 J) t + 1)) := Or.inl ⟨h, h0, 0, by omega, by rw [f, e4]; exact nrn_m hv e⟩
/-- all arguments normal, the term made, no rule fits: J1 before it is made, J2 after, J3 with the memo told -/
theorem noc_n {B σ t s a b c z : Int} {S J1 J2 J3 : zJ} (hv : ¬ S 166 (0 + t) < 0) (e : mAt S t = S 165 40) (h : NSO B S σ t s J1 a b c) (g1 : NGO J1) (hs : ¬ s < mar (tb0 J1) 0 0 t) (g3 : NGO J3) (mk : (tb0 J2, z) = tmO (tb0 J1) (tb0 J1 166 (0 + t)) a b c) (g2 : J2 164 21 = 0) (nr : nFR (tb0 J2) z = tb0 J2 165 9) (f : tb0 J3 = sr (tb0 J2) (mgO (tb0 J2 165) t z)) (e4 : J3 164 34 = J1 164 34) (z0 : 0 ≤ z) : NOC (B + 1) S σ t J3 z := by
  rcases h with ⟨_, n, p, q⟩ | ⟨n, Q, v, g, _, _⟩
  · refine Or.inl ⟨g3, z0, n + 1, by omega, fun K => ?_⟩
    rw [nop_f hv e, nIT_add, q, nit_d hs, ← mk, nmd_n (M := (tb0 J2, z)) (show tb0 J2 164 21 = 0 from g2) nr, f, e4]
  · exact absurd g1 g.n
/-- all arguments normal, and the table is full when the term is made -/
theorem noc_f {B σ t s a b c z : Int} {S J1 J2 : zJ} (hv : ¬ S 166 (0 + t) < 0) (e : mAt S t = S 165 40) (h : NSO B S σ t s J1 a b c) (g1 : NGO J1) (hs : ¬ s < mar (tb0 J1) 0 0 t) (mk : ¬ (tmO (tb0 J1) (tb0 J1 166 (0 + t)) a b c).1 164 21 = 0) (g2 : ¬ J2 164 21 = 0) (e4 : J2 164 34 = J1 164 34) : NOC (B + 1) S σ t J2 z := by
  rcases h with ⟨_, n, p, q⟩ | ⟨n, Q, v, g, _, _⟩
  · have q1 := g1.2
    refine Or.inr ⟨n + 1, ((tmO (tb0 J1) (tb0 J1 166 (0 + t)) a b c).1, J1 164 34), -3, Or.inl ⟨rfl, g2, by omega⟩, by omega, fun K => ?_⟩
    rw [nop_f hv e, nIT_add, q, nit_d hs, nmd_f mk]
  · exact absurd g1 g.n
/-- an argument has stopped it -/
theorem noc_s {B σ t s a b c z : Int} {S J1 J2 : zJ} (hv : ¬ S 166 (0 + t) < 0) (e : mAt S t = S 165 40) (h : NSO B S σ t s J1 a b c) (g1 : ¬ NGO J1) (e1 : J2 164 21 = J1 164 21) (e2 : J2 164 34 = J1 164 34) : NOC B S σ t J2 z := by
  rcases h with ⟨g, _⟩ | ⟨n, Q, v, g, p, q⟩
  · exact absurd g g1
  · exact Or.inr ⟨n, Q, v, g.e e1 e2, p, fun K => by rw [nop_f hv e, q]⟩
/-- a rule fits, and what comes of it has a normal form or stops: J2 with the term u made, J3 behind the rule's work, J4 with the memo told -/
theorem noc_r {B σ t s a b c u k r z : Int} {S J1 J2 J3 J4 R : zJ} (hv : ¬ S 166 (0 + t) < 0) (e : mAt S t = S 165 40) (h : NSO B S σ t s J1 a b c) (g1 : NGO J1) (hs : ¬ s < mar (tb0 J1) 0 0 t) (mk : (tb0 J2, u) = tmO (tb0 J1) (tb0 J1 166 (0 + t)) a b c) (g2 : J2 164 21 = 0) (hk : nFR (tb0 J2) u = k ∧ k < tb0 J2 165 9) (l : J1 164 34 < 100) (rt : nRT (tb0 J2) u k = (R, r)) (gR : R 164 21 = 0) (x : NOC 2912 R (J1 164 34 + 1) r J3 z) (ok : NGO J3 → tb0 J4 = sr (tb0 J3) (mgO (tb0 J3 165) t z)) (e1 : J4 164 21 = J3 164 21) (e4 : J4 164 34 = J3 164 34) : NOC (B + 1) S σ t J4 z := by
  rcases h with ⟨_, n, p, q⟩ | ⟨n, Q, v, g, _, _⟩
  · rcases x with ⟨g3, z0, n', p', y⟩ | ⟨n', Q, v, g3, p', y⟩
    · refine Or.inl ⟨⟨e1.trans g3.1, by rw [e4]; exact g3.2⟩, z0, n + (1 + (n' + 1)), by omega, fun K => ?_⟩
      rw [nop_f hv e, nIT_add, q, nIT_add, nit_d hs, ← mk]
      rw [nmd_r (M := (tb0 J2, u)) (S' := tb0 J3) (σ' := J3 164 34) (z := z) (n := n') (show tb0 J2 164 21 = 0 from g2) hk.1 hk.2 (by omega) (by show (nRT (tb0 J2) u k).1 164 21 = 0; rw [rt]; exact gR) (by show NRN n' (nRT (tb0 J2) u k).1 _ (nRT (tb0 J2) u k).2 _ _ _; rw [rt]; exact y) z0]
      rw [ok g3, e4]
    · refine Or.inr ⟨n + (1 + n'), Q, v, g3.e e1 e4, by omega, fun K => ?_⟩
      rw [nop_f hv e, nIT_add, q, nIT_add, nit_d hs, ← mk]
      exact nmd_s (M := (tb0 J2, u)) (show tb0 J2 164 21 = 0 from g2) hk.1 hk.2 (by omega) (by show (nRT (tb0 J2) u k).1 164 21 = 0; rw [rt]; exact gR) (by show NRS n' (nRT (tb0 J2) u k).1 _ (nRT (tb0 J2) u k).2 _ _; rw [rt]; exact y)
  · exact absurd g1 g.n
end
section
/-! ===== the machine and the reference: too much, full, the memo ===== -/
/-- a rule fits, but the steps are used up -/
theorem noc_t {B σ t s a b c u k z : Int} {S J1 J2 J4 : zJ} (hv : ¬ S 166 (0 + t) < 0) (e : mAt S t = S 165 40) (h : NSO B S σ t s J1 a b c) (g1 : NGO J1) (hs : ¬ s < mar (tb0 J1) 0 0 t) (mk : (tb0 J2, u) = tmO (tb0 J1) (tb0 J1 166 (0 + t)) a b c) (g2 : J2 164 21 = 0) (hk : nFR (tb0 J2) u = k ∧ k < tb0 J2 165 9) (l : J1 164 34 = 100) (x1 : J4 164 21 = 0) (x2 : 100 < J4 164 34) : NOC (B + 1) S σ t J4 z := by
  rcases h with ⟨_, n, p, q⟩ | ⟨n, Q, v, g, _, _⟩
  · refine Or.inr ⟨n + (1 + 0), (tb0 J2, 101), -4, Or.inr ⟨rfl, x1, x2⟩, by omega, fun K => ?_⟩
    rw [nop_f hv e, nIT_add, q, nIT_add, nit_d hs, ← mk]
    exact nmd_t (M := (tb0 J2, u)) (show tb0 J2 164 21 = 0 from g2) hk.1 hk.2 (by omega)
  · exact absurd g1 g.n
/-- a rule fits, but its right side can't be held -/
theorem noc_x {B σ t s a b c u k z : Int} {S J1 J2 J4 : zJ} (hv : ¬ S 166 (0 + t) < 0) (e : mAt S t = S 165 40) (h : NSO B S σ t s J1 a b c) (g1 : NGO J1) (hs : ¬ s < mar (tb0 J1) 0 0 t) (mk : (tb0 J2, u) = tmO (tb0 J1) (tb0 J1 166 (0 + t)) a b c) (g2 : J2 164 21 = 0) (hk : nFR (tb0 J2) u = k ∧ k < tb0 J2 165 9) (l : J1 164 34 < 100) (rt : ¬ (nRT (tb0 J2) u k).1 164 21 = 0) (x1 : ¬ J4 164 21 = 0) (x2 : J4 164 34 = J1 164 34 + 1) : NOC (B + 1) S σ t J4 z := by
  rcases h with ⟨_, n, p, q⟩ | ⟨n, Q, v, g, _, _⟩
  · refine Or.inr ⟨n + (1 + 0), ((nRT (tb0 J2) u k).1, J1 164 34 + 1), -3, Or.inl ⟨rfl, x1, by omega⟩, by omega, fun K => ?_⟩
    rw [nop_f hv e, nIT_add, q, nIT_add, nit_d hs, ← mk]
    exact nmd_x (M := (tb0 J2, u)) (show tb0 J2 164 21 = 0 from g2) hk.1 hk.2 (by omega) rt
  · exact absurd g1 g.n
theorem NOC.m {B B' σ t z : Int} {S J : zJ} (h : NOC B S σ t J z) (l : B ≤ B') : NOC B' S σ t J z := by
  rcases h with ⟨g, z0, n, p, q⟩ | ⟨n, Q, v, g, p, q⟩
  · exact Or.inl ⟨g, z0, n, by omega, q⟩
  · exact Or.inr ⟨n, Q, v, g, by omega, q⟩
/-- the row alone is another -/
theorem tb0_row {J' J : zJ} (f : zOf (zbut [165]) J' J) : tb0 J' = sr (tb0 J) (tb0 J' 165) := by
  funext c k
  unfold sr
  by_cases h5 : c = 165
  · rw [if_pos h5, h5]
  · rw [if_neg h5]
    unfold tb0
    rw [f 164 rfl, f 167 rfl, if_neg h5, if_neg h5]
    by_cases h4 : c = 164
    · rw [if_pos h4, if_pos h4]
    · rw [if_neg h4, if_neg h4]
      by_cases h6 : c = 166 ∨ c = 168
      · rw [if_pos h6, if_pos h6]
        rcases h6 with h6 | h6
        · rw [h6, f 166 rfl]
        · rw [h6, f 168 rfl]
      · rw [if_neg h6, if_neg h6]
        by_cases h7 : c = 167
        · rw [if_pos h7, if_pos h7]
        · rw [if_neg h7, if_neg h7]
          by_cases h9 : c = 169 ∨ c = 170 ∨ c = 171
          · rw [if_pos h9, if_pos h9]
            rcases h9 with h9 | h9 | h9
            · rw [h9, f 169 rfl]
            · rw [h9, f 170 rfl]
            · rw [h9, f 171 rfl]
          · rw [if_neg h9, if_neg h9]
end
section
/-! ===== the memo of the reference on the shared row ===== -/
def clR (f : Int → Int) : Int → Int := fun k => if 0 ≤ k ∧ k < 63 then f k else 0
theorem clR_i {f : Int → Int} {k : Int} (h : 0 ≤ k ∧ k < 63) : clR f k = f k := if_pos h
theorem tb0_cl {J : zJ} : tb0 J 165 = clR (J 165) := funext fun k => tb0_5
theorem clR_ml {h : Int → Int} {w : Int} (b : 0 ≤ w ∧ 0 ≤ h 40 ∧ h 40 ≤ 9) : clR (mlO h w) = mlO (clR h) w := by
  have e40 : clR h 40 = h 40 := clR_i (by omega)
  funext k
  by_cases r : 0 ≤ k ∧ k < 63
  · rw [clR_i r]
    unfold mlO
    rw [e40]
    by_cases a : k = 40
    · rw [if_pos a, if_pos a]
    · rw [if_neg a, if_neg a]
      by_cases q : 41 + 2 * w ≤ k ∧ k < 41 + 2 * (h 40 - 1)
      · rw [if_pos q, if_pos q, clR_i (by omega)]
      · rw [if_neg q, if_neg q, clR_i r]
  · unfold mlO
    rw [e40, if_neg (by omega), if_neg (by omega)]
    unfold clR
    rw [if_neg r, if_neg r]
theorem clR_ma {h : Int → Int} {t z : Int} (b : 0 ≤ h 40 ∧ h 40 ≤ 8) : clR (maO h t z) = maO (clR h) t z := by
  have e40 : clR h 40 = h 40 := clR_i (by omega)
  funext k
  by_cases r : 0 ≤ k ∧ k < 63
  · rw [clR_i r]
    unfold maO
    rw [e40, clR_i r]
  · unfold maO
    rw [e40, if_neg (by omega), if_neg (by omega), if_neg (by omega)]
    unfold clR
    rw [if_neg r, if_neg r]
theorem clR_mg {h : Int → Int} {t z : Int} (b : 0 ≤ h 40 ∧ h 40 ≤ h 39 ∧ h 39 ≤ 9) : clR (mgO h t z) = mgO (clR h) t z := by
  have e40 : clR h 40 = h 40 := clR_i (by omega)
  have e39 : clR h 39 = h 39 := clR_i (by omega)
  unfold mgO
  rw [e40, e39]
  by_cases a : h 39 = 0
  · rw [if_pos a, if_pos a]
  · rw [if_neg a, if_neg a]
    by_cases c : h 40 = h 39
    · rw [if_pos c, if_pos c]
      have m40 : mlO h 0 40 = h 40 - 1 := if_pos rfl
      rw [clR_ma (by rw [m40]; omega), clR_ml (by omega)]
    · rw [if_neg c, if_neg c, clR_ma (by omega)]
/-- the memo told, on the shared state -/
theorem tb0_mg {J' J : zJ} {t z : Int} (f : zOf (zbut [165]) J' J) (e : J' 165 = mgO (J 165) t z) (b : 0 ≤ J 165 40 ∧ J 165 40 ≤ J 165 39 ∧ J 165 39 ≤ 9) : tb0 J' = sr (tb0 J) (mgO (tb0 J 165) t z) := by
  rw [tb0_row f, tb0_cl, e, clR_mg b, ← tb0_cl]
/-- one that was recalled: lost, got again, the hit counted -/
theorem mh_e {h : Int → Int} {w : Int} (b : h 40 ≤ h 39 ∧ h 39 ≤ 9) (hw : 0 ≤ w ∧ w < h 40) : (fun k => if k = 61 then zw (h 61 + 1) else mgO (mlO h w) (h (41 + 2 * w)) (h (41 + 2 * w + 1)) k) = mhO h w := by
  have m40 : mlO h w 40 = h 40 - 1 := if_pos rfl
  have m39 : mlO h w 39 = h 39 := mlO_o (Or.inl (by decide)) ⟨hw.1, by omega⟩
  have mg : mgO (mlO h w) (h (41 + 2 * w)) (h (41 + 2 * w + 1)) = maO (mlO h w) (h (41 + 2 * w)) (h (41 + 2 * w + 1)) := by
    unfold mgO
    rw [m39, m40, if_neg (by omega), if_neg (by omega)]
  rw [mg]
  funext k
  unfold mhO maO
  have n40 : mlO (fun k => if k = 61 then zw (h 61 + 1) else h k) w 40 = h 40 - 1 := if_pos rfl
  rw [m40, n40]
  by_cases a : k = 61
  · subst a
    rw [if_pos rfl, if_neg (by decide), if_neg (by omega), if_neg (by omega)]
    unfold mlO
    rw [if_neg (by decide), if_neg (by show ¬ (41 + 2 * w ≤ 61 ∧ 61 < 41 + 2 * ((if (40 : Int) = 61 then zw (h 61 + 1) else h 40) - 1)); rw [if_neg (by decide)]; omega)]
    rfl
  · rw [if_neg a]
    by_cases c : k = 40
    · rw [if_pos c, if_pos c]
    · rw [if_neg c, if_neg c]
      by_cases d : k = 41 + 2 * (h 40 - 1) + 1
      · rw [if_pos d, if_pos d]
      · rw [if_neg d, if_neg d]
        by_cases d' : k = 41 + 2 * (h 40 - 1)
        · rw [if_pos d', if_pos d']
        · rw [if_neg d', if_neg d']
          unfold mlO
          have o40 : (if (40 : Int) = 61 then zw (h 61 + 1) else h 40) = h 40 := if_neg (by decide)
          rw [if_neg c, if_neg c]
          dsimp only
          by_cases r : 41 + 2 * w ≤ k ∧ k < 41 + 2 * (h 40 - 1)
          · rw [if_pos r, if_pos (by rw [o40]; exact r), if_neg (by omega)]
          · rw [if_neg r, if_neg (by rw [o40]; exact r), if_neg a]
end
section
/-! ===== a rule's step in the reference ===== -/
theorem tb0_f34 {J : zJ} {q x : Int} (h : ¬ q = 9 ∧ ¬ q = 21) : tb0 (zup J 164 q x) = tb0 J := by
  funext c k
  by_cases h4 : c = 164
  · subst h4
    rw [tb0_4, tb0_4]
    by_cases a : k = 9 ∨ k = 21
    · rw [if_pos a, if_pos a, zup_ne (by omega)]
    · rw [if_neg a, if_neg a]
  · unfold tb0
    have e : ∀ d, ¬ d = 164 → zup J 164 q x d = J d := fun d w => zup_nc w
    rw [if_neg h4, if_neg h4, e 165 (by decide), e 167 (by decide), e c h4]
theorem tb0_st {J : zJ} {x y : Int} : tb0 (zup (zup J 164 34 x) 165 62 y) = zup (tb0 J) 165 62 y := by
  rw [tb0_r5 (by decide), tb0_f34 (by decide)]
/-- what lessened answers for u from S2 and σ steps on, with all stages normal -/
def LES (S2 : zJ) (σ u : Int) (J' : zJ) (z : Int) : Prop :=
  (nFR S2 u = S2 165 9 ∧ tb0 J' = S2 ∧ J' 164 34 = σ ∧ J' 164 21 = 0 ∧ z = u) ∨ ∃ k, (nFR S2 u = k ∧ k < S2 165 9) ∧ ((σ = 100 ∧ J' 164 21 = 0 ∧ 100 < J' 164 34) ∨ (σ < 100 ∧ ¬ (nRT S2 u k).1 164 21 = 0 ∧ ¬ J' 164 21 = 0 ∧ J' 164 34 = σ + 1) ∨ (σ < 100 ∧ (nRT S2 u k).1 164 21 = 0 ∧ NOC 2912 (nRT S2 u k).1 (σ + 1) (nRT S2 u k).2 J' z))
/-- a term whose arguments are normal, made, lessened, told to the memo -/
theorem noc_l {B σ t s a b c u z : Int} {S J1 J2 J3 J4 : zJ} (hv : ¬ S 166 (0 + t) < 0) (e : mAt S t = S 165 40) (h : NSO B S σ t s J1 a b c) (g1 : NGO J1) (hs : ¬ s < mar (tb0 J1) 0 0 t) (mk : (tb0 J2, u) = tmO (tb0 J1) (tb0 J1 166 (0 + t)) a b c) (g2 : J2 164 21 = 0) (u0 : 0 ≤ u) (x : LES (tb0 J2) (J1 164 34) u J3 z) (ok : NGO J3 → tb0 J4 = sr (tb0 J3) (mgO (tb0 J3 165) t z)) (e1 : J4 164 21 = J3 164 21) (e4 : J4 164 34 = J3 164 34) : NOC (B + 1) S σ t J4 z := by
  have l1 := g1.2
  rcases x with ⟨n, f, f4, f2, zu⟩ | ⟨k, hk, y⟩
  · have g3 : NGO J3 := ⟨f2, by omega⟩
    have w := ok g3
    rw [f] at w
    exact noc_n hv e h g1 hs ⟨by rw [e1]; exact g3.1, by rw [e4]; exact g3.2⟩ (by rw [zu]; exact mk) g2 (by rw [zu]; exact n) w (by omega) (by omega)
  · rcases y with ⟨y1, y2, y3⟩ | ⟨y1, y2, y3, y4⟩ | ⟨y1, y2, y3⟩
    · exact noc_t hv e h g1 hs mk g2 hk y1 (by omega) (by omega)
    · exact noc_x hv e h g1 hs mk g2 hk y1 y2 (by omega) (by omega)
    · exact noc_r (R := (nRT (tb0 J2) u k).1) (r := (nRT (tb0 J2) u k).2) (J3 := J3) hv e h g1 hs mk g2 hk y1 rfl y2 y3 ok e1 e4
end
section
/-! ===== lessened of the reference, exact ===== -/
/-- if it goes on -/
def IFN (J : zJ) (P : Prop) : Prop := NGO J → P
/-- if it has stopped -/
def IFS (J : zJ) (P : Prop) : Prop := ¬ NGO J → P
theorem tb0_174 {J1 J : zJ} (f : zOf (zbut [174]) J1 J) : tb0 J1 = tb0 J := tb0_of (by rw [f 164 rfl]) (by rw [f 164 rfl]) (fun k _ _ => by rw [f 165 rfl]) (fun k _ _ => ⟨by rw [f 166 rfl], by rw [f 168 rfl]⟩) (fun k _ _ => by rw [f 167 rfl]) (fun k _ _ => ⟨by rw [f 169 rfl], by rw [f 170 rfl], by rw [f 171 rfl]⟩)
theorem omt_z {S : zJ} {p t v : Int} : omt (zup S 164 21 v) p t = omt S p t := rfl
theorem nWT_m : ∀ {a b : Nat}, a ≤ b → nWT a ≤ nWT b
  | a, 0, h => by rw [Nat.le_zero.1 h]; exact Int.le_refl _
  | a, b + 1, h => by
    by_cases e : a = b + 1
    · rw [e]; exact Int.le_refl _
    · have := nWT_m (a := a) (b := b) (by omega)
      have := nWT_0 b
      show nWT a ≤ 3 * nWT b + 8
      omega
theorem nWT_le {a : Nat} (h : a ≤ 6) : nWT a ≤ 2912 := by
  have := nWT_m h
  rw [nWT_6] at this
  exact this
set_option maxHeartbeats 4000000 in
set_option maxRecDepth 100000 in
theorem x_lessS {l : Launch} {G : tb_G} (hl : l.stackTraces = false) (n : Nat) (J : zJ) (t : Int) (hr_t : -2147483648 ≤ t ∧ t < 2147483648) (s m : Int) (r9 : Nat) (hN : NZ J 0 0 0 s m) (hs9 : J 164 9 = s) (ht : 0 ≤ t ∧ t < m) (h0 : J 164 21 = 0) (h1 : J 164 34 ≤ 100) (ihN : ∀ (J : zJ) (t : Int) (hr_t : -2147483648 ≤ t ∧ t < 2147483648) (s m : Int) (hN : NZ J 0 0 0 s m) (hs9 : J 164 9 = s) (ht : 0 ≤ t ∧ t < m), (7 * (100 - J 164 34) + J 168 (0 + t)).toNat < r9 → tz_Ok l G M_X12_normalOf (12 + 1 * r9) 0 0 [.ref 164, zi t] n J (zqi (fun z J' => ∃ m', NP J' J 0 0 0 s m m' ∧ (J' 164 21 = 0 → J' 164 34 ≤ 100 → 0 ≤ z ∧ z < m') ∧ IFN J (NOC (nWT (J 168 (0 + t)).toNat) (tb0 J) (J 164 34) t J' z) ∧ IFS J (J' 164 21 = J 164 21 ∧ J' 164 34 = J 164 34))) zN) (hm9 : (7 * (100 - J 164 34)).toNat < r9 + 1) : tz_Ok l G M_X12_lessened (12 + 1 * (r9 + 1)) 0 0 [.ref 164, zi t] n J (zqi (fun z J' => ∃ m', NP J' J 0 0 0 s m m' ∧ (J' 164 21 = 0 → J' 164 34 ≤ 100 → 0 ≤ z ∧ z < m') ∧ LES (tb0 J) (J 164 34) t J' z)) zN := by
  refine tz_Ok.of hl (by decide +kernel) rfl (tb_c1 rfl) (Nat.le_of_ble_eq_true rfl) ?_
  show tz_At l G M_X12_lessened (tb_rm (12 + 1 * (r9 + 1)) 0 0) none (tb_ZM G 0 0 (zQ n 0 (zqi (fun z J' => ∃ m', NP J' J 0 0 0 s m m' ∧ (J' 164 21 = 0 → J' 164 34 ≤ 100 → 0 ≤ z ∧ z < m') ∧ LES (tb0 J) (J 164 34) t J' z))) (zX n 0 zN)) 0 0 n J 0 [some (.ref 164), some (zi t), none, none] []
  obtain ⟨hM, hR, hm, hs1, hs2⟩ := id hN
  have hR1 := hR.1
  refine tz_iconst (pc := 0) dX12_lessened_0 ?_
  refine tz_istore_n (pc := 1) (L2 := [_, _, _, _]) dX12_lessened_1 rfl (by decide) rfl ?_
  have loop2 : ∀ (f9 : Nat) (k : Int) (J1 : zJ), ((8 - k).toNat) < f9 → (0 ≤ k ∧ k ≤ J 165 9) → (zOf (zbut [174]) J1 J) → (NOR (tb0 J) t k) → tz_At l G M_X12_lessened (tb_rm (12 + 1 * (r9 + 1)) 0 0) none (tb_ZM G 0 0 (zQ n 0 (zqi (fun z J' => ∃ m', NP J' J 0 0 0 s m m' ∧ (J' 164 21 = 0 → J' 164 34 ≤ 100 → 0 ≤ z ∧ z < m') ∧ LES (tb0 J) (J 164 34) t J' z))) (zX n 0 zN)) 0 0 n J1 2 [some (.ref 164), some (zi t), some (zi k), none] [] := by
    intro f9
    induction f9 with
    | zero => intro k J1 hm9; exact absurd hm9 (Nat.not_lt_zero _)
    | succ f9 ih2 =>
      intro k J1 hm2 hk f1 hn
      refine tz_iload_n (pc := 2) dX12_lessened_2 rfl rfl ?_
      refine tz_aload_n (pc := 3) dX12_lessened_3 rfl rfl ?_
      refine tz_fR (pc := 4) dX12_lessened_4 fl_X12_9 r_164_0 ?_
      refine tz_bipush (pc := 7) dX12_lessened_7 (by decide) ?_
      refine tz_aL (pc := 9) (z := 9) (v := (J 165 9)) dX12_lessened_9 a_165 rfl (by decide) (Eq.trans (congrFun (f1 165 rfl) 9) rfl) (fun r_9 => ?_)
      refine tz_icmp_ge (pc := 10) (tgt := 112) dX12_lessened_10 (by decide) (by omega) (by omega) (fun h_10 => ?_) (fun h_10 => ?_)
      · refine tz_iload_n (pc := 112) dX12_lessened_112 rfl rfl ?_
        exact tz_iret (pc := 113) (z := t) dX12_lessened_113 rfl (Nat.le_of_ble_eq_true rfl) (Nat.le_of_ble_eq_true rfl) ⟨Nat.le_refl _, Nat.le_add_right _ _⟩ ⟨_, rfl, (by omega), ⟨m, NP.c174 hN f1, fun _ _ => ht, Or.inl ⟨fnB_eq (show 0 ≤ J 165 9 by omega) (Int.le_refl _) (fun q a b => dcB_t (hn q a (by have b8 : q < J 165 9 := b; omega))) (Or.inl rfl), tb0_174 f1, by rw [f1 164 rfl], by rw [f1 164 rfl]; exact h0, rfl⟩⟩⟩
      · refine tz_aload_n (pc := 13) dX12_lessened_13 rfl rfl ?_
        refine tz_aload_n (pc := 14) dX12_lessened_14 rfl rfl ?_
        refine tz_fR (pc := 15) dX12_lessened_15 fl_X12_9 r_164_0 ?_
        refine tz_bipush (pc := 18) dX12_lessened_18 (by decide) ?_
        refine tz_iconst (pc := 20) dX12_lessened_20 ?_
        refine tz_iload_n (pc := 21) dX12_lessened_21 rfl rfl ?_
        refine tz_imul (pc := 22) (v := 2 * k) dX12_lessened_22 rfl ?_
        refine tz_iadd (pc := 23) (v := 10 + (2 * k)) dX12_lessened_23 rfl ?_
        refine tz_aL (pc := 24) (z := (10 + (2 * k))) (v := (J 165 (10 + (2 * k)))) dX12_lessened_24 a_165 rfl (by omega) (Eq.trans (congrFun (f1 165 rfl) (10 + (2 * k))) rfl) (fun r_24 => ?_)
        refine tz_iload_n (pc := 25) dX12_lessened_25 rfl rfl ?_
        have hr9 := hR.2 k (by omega) (by omega)
        refine tz_cV (pc := 26) (x_doesMatch hl n _ _ _ (by omega) (by omega) 0 0 0 s m (hM.c1 f1 (by decide)) (by omega) ht) vl_X12_227 dX12_lessened_26 o_164 rfl rfl (Nat.le_of_ble_eq_true rfl) ⟨(show 11 + 1 ≤ 12 + 1 * (r9 + 1) by omega), (show 8 + (4 + 11) + 40 * (11) ≤ 40 * (12 + 1 * (r9 + 1)) by omega)⟩ rfl rfl (Nat.le_of_ble_eq_true rfl) (Nat.le_of_ble_eq_true rfl) (fun r9 J_26 hq9 => ?_)
        obtain ⟨zc, rfl, hz_26, ⟨σ9, qs, q1⟩, f2, g2⟩ := hq9
        have mz9 := mmt_z (hM.c1 f1 (by decide)) (σ := σ9) (p := J 165 (10 + 2 * k)) (t := t) (by omega) ht qs
        have tz9 : tbz J1 = zup (tb0 J) 164 21 0 := by unfold tbz; rw [tb0_174 f1]
        rw [tz9, omt_z] at mz9
        have row9 : tb0 J 165 (10 + 2 * k) = J 165 (10 + 2 * k) := by rw [tb0_5, if_pos (by omega)]
        rw [← row9] at mz9
        have ok9 : ¬ zc = 0 → (omt (tb0 J) (tb0 J 165 (10 + 2 * k)) t).1 = true := fun q => mz9.1.symm.trans ((by rw [row9]; exact (q1.1.resolve_right (fun y => q y.2)).1))
        have no9 : zc = 0 → (omt (tb0 J) (tb0 J 165 (10 + 2 * k)) t).1 = false := fun q => mz9.1.symm.trans (by rw [row9]; exact (q1.1.resolve_left (fun y => by have := y.2; omega)).1)
        refine tz_if_ne (pc := 29) (tgt := 35) dX12_lessened_29 (by decide) (by omega) (fun h_29 => ?_) (fun h_29 => ?_)
        · refine tz_aload_n (pc := 35) dX12_lessened_35 rfl rfl ?_
          refine tz_dup (pc := 36) dX12_lessened_36 rfl ?_
          refine tz_fI (pc := 37) (kz := 34) (v := (J 164 34)) dX12_lessened_37 fl_X12_208 i_164_34 rfl (Eq.trans (congrFun (f2 164 rfl) 34) (Eq.trans (congrFun (f1 164 rfl) 34) rfl)) (fun r_37 => ?_)
          refine tz_iconst (pc := 40) dX12_lessened_40 ?_
          refine tz_iadd (pc := 41) (v := (J 164 34) + 1) dX12_lessened_41 rfl ?_
          refine tz_pI (pc := 42) (kz := 34) dX12_lessened_42 fl_X12_208 i_164_34 rfl rfl (by omega) ?_
          refine tz_aload_n (pc := 45) dX12_lessened_45 rfl rfl ?_
          refine tz_fR (pc := 46) dX12_lessened_46 fl_X12_9 r_164_0 ?_
          refine tz_bipush (pc := 49) dX12_lessened_49 (by decide) ?_
          refine tz_dup2 (pc := 51) dX12_lessened_51 rfl rfl ?_
          refine tz_aL (pc := 52) (z := 62) (v := (J 165 62)) dX12_lessened_52 a_165 rfl (by decide) (Eq.trans (congrFun (f2 165 rfl) 62) (Eq.trans (congrFun (f1 165 rfl) 62) rfl)) (fun r_52 => ?_)
          refine tz_iconst (pc := 53) dX12_lessened_53 ?_
          refine tz_iadd (pc := 54) (v := (J 165 62) + 1) dX12_lessened_54 rfl ?_
          refine tz_tw ?_
          have rw_55 := zw_rg ((J 165 62) + 1)
          refine tz_aS (pc := 55) (z := 62) dX12_lessened_55 a_165 rfl (by decide) (zw_rg _) ?_
          have n_42 : NP ((zup (zup J_26 164 34 ((J 164 34) + 1)) 165 62 (zw ((J 165 62) + 1)))) J 0 0 0 s m m := (NP.c174 hN (f2.tr f1)).tr (NP.step (NP.c174 hN (f2.tr f1)).1 (by rw [(f2.tr f1) 164 rfl]) (by rw [(f2.tr f1) 164 rfl]; exact h1))
          have e_42 : ((zup (zup J_26 164 34 ((J 164 34) + 1)) 165 62 (zw ((J 165 62) + 1))) : zJ) 164 34 = J 164 34 + 1 := by show zup J_26 164 34 (J 164 34 + 1) 164 34 = _; exact zup_at
          have fr9 : nFR (tb0 J) t = k ∧ k < tb0 J 165 9 := ⟨fnB_eq (by omega) (by show k ≤ J 165 9; omega) (fun q a b => dcB_t (hn q a b)) (Or.inr (dcB_f (fun w9 => by rw [ok9 (by omega)] at w9; cases w9))), by show k < J 165 9; omega⟩
          refine tz_aload_n (pc := 56) dX12_lessened_56 rfl rfl ?_
          refine tz_fI (pc := 57) (kz := 34) (v := ((J 164 34) + 1)) dX12_lessened_57 fl_X12_208 i_164_34 rfl rfl (fun r_57 => ?_)
          refine tz_bipush (pc := 60) dX12_lessened_60 (by decide) ?_
          refine tz_icmp_le (pc := 62) (tgt := 67) dX12_lessened_62 (by decide) (by omega) (by decide) (fun h_62 => ?_) (fun h_62 => ?_)
          · refine tz_aload_n (pc := 67) dX12_lessened_67 rfl rfl ?_
            refine tz_aload_n (pc := 68) dX12_lessened_68 rfl rfl ?_
            refine tz_fR (pc := 69) dX12_lessened_69 fl_X12_9 r_164_0 ?_
            refine tz_bipush (pc := 72) dX12_lessened_72 (by decide) ?_
            refine tz_iconst (pc := 74) dX12_lessened_74 ?_
            refine tz_iload_n (pc := 75) dX12_lessened_75 rfl rfl ?_
            refine tz_imul (pc := 76) (v := 2 * k) dX12_lessened_76 rfl ?_
            refine tz_iadd (pc := 77) (v := 10 + (2 * k)) dX12_lessened_77 rfl ?_
            refine tz_iconst (pc := 78) dX12_lessened_78 ?_
            refine tz_iadd (pc := 79) (v := (10 + (2 * k)) + 1) dX12_lessened_79 rfl ?_
            refine tz_aL (pc := 80) (z := ((10 + (2 * k)) + 1)) (v := (J 165 ((10 + (2 * k)) + 1))) dX12_lessened_80 a_165 rfl (by omega) (Eq.trans (show zup _ 165 62 (zw ((J 165 62) + 1)) 165 ((10 + (2 * k)) + 1) = _ from zup_ne (by omega)) (Eq.trans (congrFun (f2 165 rfl) ((10 + (2 * k)) + 1)) (Eq.trans (congrFun (f1 165 rfl) ((10 + (2 * k)) + 1)) rfl))) (fun r_80 => ?_)
            refine tz_aload_n (pc := 81) dX12_lessened_81 rfl rfl ?_
            refine tz_fR (pc := 82) dX12_lessened_82 fl_X12_41 r_164_22 ?_
            have e9_42 : ((zup (zup J_26 164 34 ((J 164 34) + 1)) 165 62 (zw ((J 165 62) + 1))) : zJ) 164 9 = s := by show J_26 164 9 = s; rw [(f2.tr f1) 164 rfl]; exact hs9
            have d_85 := (n_42.1.1.ar (t := (J 165 ((10 + (2 * k)) + 1))) (by omega)).2.2.1
            refine tz_cV (pc := 85) (o_appMR hl n 7 _ _ (by omega) s m n_42.1.1 e9_42 (by omega) g2 (by omega)) vl_X12_148 dX12_lessened_85 o_164 rfl rfl (Nat.le_of_ble_eq_true rfl) ⟨(show 11 + 1 ≤ 12 + 1 * (r9 + 1) by omega), (show 8 + (7 + 11) + 40 * (11) ≤ 40 * (12 + 1 * (r9 + 1)) by omega)⟩ rfl rfl (Nat.le_of_ble_eq_true rfl) (Nat.le_of_ble_eq_true rfl) (fun r9 J_85 hq9 => ?_)
            obtain ⟨z_85, rfl, hz_85, m_85, g_85, h_85, p_85⟩ := hq9
            have r62 : tb0 J 165 62 = J 165 62 := by rw [tb0_5, if_pos (by decide)]
            have r11 : tb0 J 165 (10 + 2 * k + 1) = J 165 (10 + 2 * k + 1) := by rw [tb0_5, if_pos (by omega)]
            have ap9 : (tb0 J_85, z_85) = nRT (tb0 J) t k := by have q9 := p_85 6 (omt (tb0 J) (tb0 J 165 (10 + 2 * k)) t).2 (fun v a b => (mz9.2 v a b).symm.trans (by rw [row9]; exact (congrFun q1.2 v).symm)) (by omega); rw [tb0_st, tb0_174 (f2.tr f1)] at q9; unfold nRT; rw [r62, r11]; exact q9
            refine tz_istore_n (pc := 88) (L2 := [_, _, _, _]) dX12_lessened_88 rfl (by decide) rfl ?_
            refine tz_aload_n (pc := 89) dX12_lessened_89 rfl rfl ?_
            refine tz_fI (pc := 90) (kz := 21) (v := (J_85 164 21)) dX12_lessened_90 fl_X12_92 i_164_21 rfl rfl (fun r_90 => ?_)
            refine tz_if_eq (pc := 93) (tgt := 100) dX12_lessened_93 (by decide) (by omega) (fun h_93 => ?_) (fun h_93 => ?_)
            · refine tz_aload_n (pc := 100) dX12_lessened_100 rfl rfl ?_
              refine tz_iload_n (pc := 101) dX12_lessened_101 rfl rfl ?_
              have n_85 := (n_42).tr (NP.mg n_42.1 g_85)
              have u_85 := NP.fu (NP.mg n_42.1 g_85)
              have k_85 : J_85 164 34 = J 164 34 + 1 := (g_85.2.2.1.2.2.1 34 rfl).trans e_42
              have z_85b := h_85 (by omega)
              have a_85 := n_85.1.1.ar z_85b
              refine tz_cV (pc := 102) (ihN _ _ (by omega) s m_85 n_85.1 ((n_85.2.1.2.2.1.2.2.1 9 rfl).trans hs9) z_85b (by omega)) vl_X12_221 dX12_lessened_102 o_164 rfl rfl (Nat.le_of_ble_eq_true rfl) ⟨(show (12 + 1 * r9) + 1 ≤ 12 + 1 * (r9 + 1) by omega), (show 8 + (8 + 11) + 40 * ((12 + 1 * r9)) ≤ 40 * (12 + 1 * (r9 + 1)) by omega)⟩ rfl rfl (Nat.le_of_ble_eq_true rfl) (Nat.le_of_ble_eq_true rfl) (fun r9 J_102 hq9 => ?_)
              obtain ⟨z_102, rfl, hz_102, m_102, n_102, h_102, x_102, y_102⟩ := hq9
              exact tz_iret (pc := 105) (z := z_102) dX12_lessened_105 rfl (Nat.le_of_ble_eq_true rfl) (Nat.le_of_ble_eq_true rfl) ⟨Nat.le_refl _, Nat.le_add_right _ _⟩ ⟨_, rfl, (by omega), ⟨m_102, n_85.tr n_102, h_102, Or.inr ⟨k, fr9, Or.inr (Or.inr ⟨by omega, by rw [← ap9]; show J_85 164 21 = 0; omega, by rw [← ap9]; exact (by have q9 := x_102 ⟨by omega, by omega⟩; rw [k_85] at q9; exact q9.m (nWT_le (by omega)))⟩)⟩⟩⟩
            · refine tz_iconst (pc := 96) dX12_lessened_96 ?_
              refine tz_goto (pc := 97) (tgt := 105) dX12_lessened_97 (by decide) ?_
              exact tz_iret (pc := 105) (z := 0) dX12_lessened_105 rfl (Nat.le_of_ble_eq_true rfl) (Nat.le_of_ble_eq_true rfl) ⟨Nat.le_refl _, Nat.le_add_right _ _⟩ ⟨_, rfl, (by decide), ⟨m_85, n_42.tr (NP.mg n_42.1 g_85), fun q9 => by omega, Or.inr ⟨k, fr9, Or.inr (Or.inl ⟨by omega, by rw [← ap9]; show ¬ J_85 164 21 = 0; omega, by omega, (g_85.2.2.1.2.2.1 34 rfl).trans e_42⟩)⟩⟩⟩
          · refine tz_iconst (pc := 65) dX12_lessened_65 ?_
            exact tz_iret (pc := 66) (z := 0) dX12_lessened_66 rfl (Nat.le_of_ble_eq_true rfl) (Nat.le_of_ble_eq_true rfl) ⟨Nat.le_refl _, Nat.le_add_right _ _⟩ ⟨_, rfl, (by decide), ⟨m, n_42, fun q9 q8 => by omega, Or.inr ⟨k, fr9, Or.inl ⟨by omega, by show J_26 164 21 = 0; rw [(f2.tr f1) 164 rfl]; exact h0, by omega⟩⟩⟩⟩
        · refine tz_goto (pc := 32) (tgt := 106) dX12_lessened_32 (by decide) ?_
          refine tz_iinc (pc := 106) (z := k + 1) (L2 := [_, _, _, _]) dX12_lessened_106 rfl (by omega) rfl ?_
          refine tz_goto (pc := 109) (tgt := 2) dX12_lessened_109 (by decide) ?_
          exact ih2 (k + 1) _ (by omega) (by omega) (f2.tr f1) (hn.s (no9 (by omega)))
  exact loop2 _ 0 _ (Nat.lt_succ_self _) (by omega) zOf.rf (fun q a b => by omega)

end
section
/-! ===== normalOf of the reference: what is pure ===== -/
theorem mgO_o {h : Int → Int} {t z k : Int} (hk : k < 40 ∨ 59 ≤ k) (b : 0 ≤ h 40 ∧ h 40 ≤ h 39 ∧ h 39 ≤ 9) : mgO h t z k = h k := by
  unfold mgO
  by_cases a : h 39 = 0
  · rw [if_pos a]
  · rw [if_neg a]
    by_cases c : h 40 = h 39
    · rw [if_pos c]
      have m40 : mlO h 0 40 = h 40 - 1 := if_pos rfl
      rw [maO_o hk (by rw [m40]; omega), mlO_o hk ⟨by omega, by omega⟩]
    · rw [if_neg c, maO_o hk (by omega)]
theorem MM.ml {h : Int → Int} {m w : Int} (q : MM h m) (hw : 0 ≤ w ∧ w < h 40) : MM (mlO h w) m := by
  obtain ⟨h1, h2, h3⟩ := q
  have e40 : mlO h w 40 = h 40 - 1 := if_pos rfl
  have e39 : mlO h w 39 = h 39 := mlO_o (Or.inl (by decide)) ⟨hw.1, by omega⟩
  unfold MM
  rw [e40, e39]
  refine ⟨h1, by omega, fun k a c => ?_⟩
  by_cases x : 41 + 2 * w ≤ 41 + k ∧ 41 + k < 41 + 2 * (h 40 - 1)
  · have e : mlO h w (41 + k) = h (41 + (k + 2)) := by
      unfold mlO
      rw [if_neg (by omega), if_pos x, show 41 + k + 2 = 41 + (k + 2) by omega]
    rw [e]
    exact h3 (k + 2) (by omega) (by omega)
  · have e : mlO h w (41 + k) = h (41 + k) := by
      unfold mlO
      rw [if_neg (by omega), if_neg x]
    rw [e]
    exact h3 k a (by omega)
theorem MM.ma {h : Int → Int} {m t z : Int} (q : MM h m) (hl : h 40 < h 39) (ht : 0 ≤ t ∧ t < m) (hz : 0 ≤ z ∧ z < m) : MM (maO h t z) m := by
  obtain ⟨h1, h2, h3⟩ := q
  have e40 : maO h t z 40 = h 40 + 1 := if_pos rfl
  have e39 : maO h t z 39 = h 39 := maO_o (Or.inl (by decide)) ⟨by omega, by omega⟩
  unfold MM
  rw [e40, e39]
  refine ⟨h1, by omega, fun k a c => ?_⟩
  unfold maO
  rw [if_neg (by omega)]
  split
  · exact hz
  · split
    · exact ht
    · exact h3 k a (by omega)
theorem MM.mg {h : Int → Int} {m t z : Int} (q : MM h m) (ht : 0 ≤ t ∧ t < m) (hz : 0 ≤ z ∧ z < m) : MM (mgO h t z) m := by
  have h1 := q.1
  have h2 := q.2.1
  unfold mgO
  by_cases a : h 39 = 0
  · rw [if_pos a]; exact q
  · rw [if_neg a]
    by_cases c : h 40 = h 39
    · rw [if_pos c]
      have e40 : mlO h 0 40 = h 40 - 1 := if_pos rfl
      have e39 : mlO h 0 39 = h 39 := mlO_o (Or.inl (by decide)) ⟨by omega, by omega⟩
      exact (q.ml (by omega)).ma (by rw [e40, e39]; omega) ht hz
    · rw [if_neg c]
      exact q.ma (by omega) ht hz
theorem mmf_ml {J' J : zJ} {m w : Int} (f : zOf (zbut [165]) J' J) (e : J' 165 = mlO (J 165) w) (q : MM (J 165) m) (hw : 0 ≤ w ∧ w < J 165 40) : MMf J' J := ⟨f, fun k hk => by
  have h1 := q.1
  have h2 := q.2.1
  rw [e]
  exact mlO_o hk ⟨hw.1, by omega⟩⟩
theorem mmf_mg {J' J : zJ} {m t z : Int} (f : zOf (zbut [165]) J' J) (e : J' 165 = mgO (J 165) t z) (q : MM (J 165) m) : MMf J' J := ⟨f, fun k hk => by
  have h1 := q.1
  have h2 := q.2.1
  rw [e]
  exact mgO_o hk ⟨by omega, by omega, by omega⟩⟩
theorem hit_e {h g : Int → Int} {m w t u : Int} (q : MM h m) (hw : 0 ≤ w ∧ w < h 40) (et : h (41 + 2 * w) = t) (eu : h (41 + 2 * w + 1) = u) (e : g = mgO (mlO h w) t u) : (fun k => if k = 61 then zw (g 61 + 1) else g k) = mhO h w := by
  have h1 := q.1
  have h2 := q.2.1
  have e40 : mlO h w 40 = h 40 - 1 := if_pos rfl
  have e39 : mlO h w 39 = h 39 := mlO_o (Or.inl (by decide)) ⟨hw.1, by omega⟩
  subst et eu e
  rw [← mh_e ⟨by omega, by omega⟩ hw]
  have e61 : mgO (mlO h w) (h (41 + 2 * w)) (h (41 + 2 * w + 1)) 61 = h 61 := (mgO_o (Or.inr (by decide)) ⟨by omega, by omega, by omega⟩).trans (mlO_o (Or.inr (by decide)) ⟨hw.1, by omega⟩)
  rw [e61]
theorem clR_mh {h : Int → Int} {w : Int} (b : 0 ≤ w ∧ w < h 40 ∧ h 40 ≤ 9) : clR (mhO h w) = mhO (clR h) w := by
  have e1 : clR (fun k => if k = 61 then zw (h 61 + 1) else h k) = fun k => if k = 61 then zw (clR h 61 + 1) else clR h k := by
    funext k
    show (if 0 ≤ k ∧ k < 63 then (if k = 61 then zw (h 61 + 1) else h k) else 0) = if k = 61 then zw ((if (0 : Int) ≤ 61 ∧ (61 : Int) < 63 then h 61 else 0) + 1) else (if 0 ≤ k ∧ k < 63 then h k else 0)
    rw [if_pos (show (0 : Int) ≤ 61 ∧ (61 : Int) < 63 by decide)]
    by_cases r : 0 ≤ k ∧ k < 63
    · rw [if_pos r, if_pos r]
    · rw [if_neg r, if_neg r, if_neg (by omega)]
  have a40 : (fun k : Int => if k = 61 then zw (h 61 + 1) else h k) 40 = h 40 := if_neg (by decide)
  have m40 : mlO (fun k : Int => if k = 61 then zw (h 61 + 1) else h k) w 40 = h 40 - 1 := if_pos rfl
  unfold mhO
  rw [clR_ma (by rw [m40]; omega), clR_ml (by rw [if_neg (show ¬ (40 : Int) = 61 by decide)]; omega), e1, clR_i (f := h) (k := 41 + 2 * w) (by omega), clR_i (f := h) (k := 41 + 2 * w + 1) (by omega)]
theorem tb0_mh {J' J : zJ} {w : Int} (f : zOf (zbut [165]) J' J) (e : J' 165 = mhO (J 165) w) (b : 0 ≤ w ∧ w < J 165 40 ∧ J 165 40 ≤ 9) : tb0 J' = sr (tb0 J) (mhO (tb0 J 165) w) := by
  rw [tb0_row f, tb0_cl, e, clR_mh b, ← tb0_cl]
/-- recalled -/
theorem noc_h {J J' : zJ} {t w u m : Int} (g : NGO J') (hv : ¬ tb0 J 166 (0 + t) < 0) (hm : MM (J 165) m) (hw : 0 ≤ w ∧ w < J 165 40) (et : J 165 (41 + 2 * w) = t) (hn : ∀ q, 0 ≤ q → q < w → ¬ J 165 (41 + 2 * q) = t) (eu : J 165 (41 + 2 * w + 1) = u) (f : zOf (zbut [165]) J' J) (e : J' 165 = mhO (J 165) w) : NOC 0 (tb0 J) (J 164 34) t J' u := by
  have h1 := hm.1
  have h2 := hm.2.1
  have e40 : tb0 J 165 40 = J 165 40 := by rw [tb0_5, if_pos (by decide)]
  have a9 : mAt (tb0 J) t = w := mAt_y (by rw [e40]; exact hw) (by rw [tb0_5, if_pos (by omega)]; exact et) (fun q a c => by rw [tb0_5, if_pos (by omega)]; exact hn q a c)
  have u9 : tb0 J 165 (41 + 2 * mAt (tb0 J) t + 1) = u := by rw [a9, tb0_5, if_pos (by omega)]; exact eu
  have h3 := hm.2.2 (2 * w + 1) (by omega) (by omega)
  rw [show 41 + (2 * w + 1) = 41 + 2 * w + 1 by omega, eu] at h3
  have x := noc_m (J := J) (t := t) g hv (by rw [a9, e40]; omega) (by rw [a9]; exact tb0_mh f e ⟨hw.1, hw.2, by omega⟩) (by rw [f 164 rfl]) (by rw [u9]; exact h3.1)
  rw [u9] at x
  exact x
theorem nso_a0 {B B' σ t z : Int} {S J1 J2 : zJ} (h : NSO B S σ t 0 J1 0 0 0) (hs : 0 < mar (tb0 J1) 0 0 t) (ok : NGO J1 → NOC B' (tb0 J1) (J1 164 34) (tb0 J1 167 (3 * (0 + t) + 0)) J2 z) (no : ¬ NGO J1 → J2 164 21 = J1 164 21 ∧ J2 164 34 = J1 164 34) (hB : 0 ≤ B') : NSO (B + B' + 2) S σ t 1 J2 z 0 0 := by
  have q := nso_a h hs (by decide) ok no hB
  rw [if_pos rfl, if_neg (by decide), if_neg (by decide)] at q
  exact q
theorem nso_a1 {B B' σ t a z : Int} {S J1 J2 : zJ} (h : NSO B S σ t 1 J1 a 0 0) (hs : 1 < mar (tb0 J1) 0 0 t) (ok : NGO J1 → NOC B' (tb0 J1) (J1 164 34) (tb0 J1 167 (3 * (0 + t) + 1)) J2 z) (no : ¬ NGO J1 → J2 164 21 = J1 164 21 ∧ J2 164 34 = J1 164 34) (hB : 0 ≤ B') : NSO (B + B' + 2) S σ t 2 J2 a z 0 := by
  have q := nso_a h hs (by decide) ok no hB
  rw [if_neg (by decide), if_pos rfl, if_neg (by decide)] at q
  exact q
theorem nso_a2 {B B' σ t a b z : Int} {S J1 J2 : zJ} (h : NSO B S σ t 2 J1 a b 0) (hs : 2 < mar (tb0 J1) 0 0 t) (ok : NGO J1 → NOC B' (tb0 J1) (J1 164 34) (tb0 J1 167 (3 * (0 + t) + 2)) J2 z) (no : ¬ NGO J1 → J2 164 21 = J1 164 21 ∧ J2 164 34 = J1 164 34) (hB : 0 ≤ B') : NSO (B + B' + 2) S σ t 3 J2 a b z := by
  have q := nso_a h hs (by decide) ok no hB
  rw [if_neg (by decide), if_neg (by decide), if_pos rfl] at q
  exact q
theorem mar_at {X : List Nat} {F : List Int} {rp : Int → Bool} {Jc J : zJ} {s m mc t : Int} (g : MG X F rp Jc J 0 0 0 s m mc) (e0 : Jc 170 = J 170) (ht : 0 ≤ t ∧ t < m) : mar (tb0 Jc) 0 0 t = mar J 0 0 t := by
  have l := g.1.2
  exact ((g.1.1.oa (t := t) ⟨ht.1, by omega⟩).2).trans (g.ar ht e0)
theorem noc_at {Jc J J2 : zJ} {s m mc t i z : Int} {d : Nat} (hM : MS J 0 0 0 s m) (g : MG [174] [34] rM Jc J 0 0 0 s m mc) (ht : 0 ≤ t ∧ t < m) (hi : 0 ≤ i ∧ i < mar J 0 0 t) (hd : J 168 (0 + t) = (d : Int) + 1) (x : IFN Jc (NOC (nWT (Jc 168 (0 + J 167 (3 * (0 + t) + i))).toNat) (tb0 Jc) (Jc 164 34) (J 167 (3 * (0 + t) + i)) J2 z)) : i < mar (tb0 Jc) 0 0 t ∧ IFN Jc (NOC (nWT d) (tb0 Jc) (Jc 164 34) (tb0 Jc 167 (3 * (0 + t) + i)) J2 z) := by
  have e := hM.arg ht hi
  have a3 := (hM.ar ht).1
  have T := hM.told
  refine ⟨by rw [mar_at g (g.2.2.1.2.2.2 170 rfl) ht]; exact hi.2, fun q => ?_⟩
  have k := (g.2.1 t ht.1 ht.2).2 i hi.1 (by omega)
  have kd := (g.2.1 (J 167 (3 * (0 + t) + i)) e.1.1 (by omega)).1.2
  rw [tb0_7, if_pos (by omega), k]
  exact (x q).m (nWT_m (by rw [kd]; omega))
theorem mmb {f : Int → Int} {m : Int} (h : MM f m) : 0 ≤ f 40 ∧ f 40 ≤ f 39 ∧ f 39 ≤ 9 := by
  have := h.1
  have := h.2.1
  omega
theorem ng_y {J : zJ} {z : Int} (h : (z = 0 ∧ J 164 21 = 0 ∧ J 164 34 ≤ 100) ∨ (z = 1 ∧ (¬ J 164 21 = 0 ∨ 100 < J 164 34))) (e : z = 0) : NGO J := ⟨by omega, by omega⟩
theorem ng_n {J : zJ} {z : Int} (h : (z = 0 ∧ J 164 21 = 0 ∧ J 164 34 ≤ 100) ∨ (z = 1 ∧ (¬ J 164 21 = 0 ∨ 100 < J 164 34))) (e : ¬ z = 0) : ¬ NGO J := fun q => by
  have := q.1
  have := q.2
  omega
end
section
/-! ===== normalOf of the reference, exact ===== -/
set_option maxHeartbeats 4000000 in
set_option maxRecDepth 100000 in
theorem x_normS {l : Launch} {G : tb_G} (hl : l.stackTraces = false) (n : Nat) (J : zJ) (t : Int) (hr_t : -2147483648 ≤ t ∧ t < 2147483648) (s m : Int) (r9 : Nat) (hN : NZ J 0 0 0 s m) (hs9 : J 164 9 = s) (ht : 0 ≤ t ∧ t < m) (ihN : ∀ (J : zJ) (t : Int) (hr_t : -2147483648 ≤ t ∧ t < 2147483648) (s m : Int) (hN : NZ J 0 0 0 s m) (hs9 : J 164 9 = s) (ht : 0 ≤ t ∧ t < m), (7 * (100 - J 164 34) + J 168 (0 + t)).toNat < r9 → tz_Ok l G M_X12_normalOf (12 + 1 * r9) 0 0 [.ref 164, zi t] n J (zqi (fun z J' => ∃ m', NP J' J 0 0 0 s m m' ∧ (J' 164 21 = 0 → J' 164 34 ≤ 100 → 0 ≤ z ∧ z < m') ∧ IFN J (NOC (nWT (J 168 (0 + t)).toNat) (tb0 J) (J 164 34) t J' z) ∧ IFS J (J' 164 21 = J 164 21 ∧ J' 164 34 = J 164 34))) zN) (ihL : ∀ (J : zJ) (t : Int) (hr_t : -2147483648 ≤ t ∧ t < 2147483648) (s m : Int) (hN : NZ J 0 0 0 s m) (hs9 : J 164 9 = s) (ht : 0 ≤ t ∧ t < m) (h0 : J 164 21 = 0) (h1 : J 164 34 ≤ 100), (7 * (100 - J 164 34)).toNat < r9 → tz_Ok l G M_X12_lessened (12 + 1 * r9) 0 0 [.ref 164, zi t] n J (zqi (fun z J' => ∃ m', NP J' J 0 0 0 s m m' ∧ (J' 164 21 = 0 → J' 164 34 ≤ 100 → 0 ≤ z ∧ z < m') ∧ LES (tb0 J) (J 164 34) t J' z)) zN) (hm9 : (7 * (100 - J 164 34) + J 168 (0 + t)).toNat < r9 + 1) : tz_Ok l G M_X12_normalOf (12 + 1 * (r9 + 1)) 0 0 [.ref 164, zi t] n J (zqi (fun z J' => ∃ m', NP J' J 0 0 0 s m m' ∧ (J' 164 21 = 0 → J' 164 34 ≤ 100 → 0 ≤ z ∧ z < m') ∧ IFN J (NOC (nWT (J 168 (0 + t)).toNat) (tb0 J) (J 164 34) t J' z) ∧ IFS J (J' 164 21 = J 164 21 ∧ J' 164 34 = J 164 34))) zN := by
  refine tz_Ok.of hl (by decide +kernel) rfl (tb_c1 rfl) (Nat.le_of_ble_eq_true rfl) ?_
  show tz_At l G M_X12_normalOf (tb_rm (12 + 1 * (r9 + 1)) 0 0) none (tb_ZM G 0 0 (zQ n 0 (zqi (fun z J' => ∃ m', NP J' J 0 0 0 s m m' ∧ (J' 164 21 = 0 → J' 164 34 ≤ 100 → 0 ≤ z ∧ z < m') ∧ IFN J (NOC (nWT (J 168 (0 + t)).toNat) (tb0 J) (J 164 34) t J' z) ∧ IFS J (J' 164 21 = J 164 21 ∧ J' 164 34 = J 164 34)))) (zX n 0 zN)) 0 0 n J 0 [some (.ref 164), some (zi t), none, none, none, none, none, none] []
  obtain ⟨hM, hR, hm, hs1, hs2⟩ := id hN
  have hR1 := hR.1
  have hm1 := hm.1
  have hm2 := hm.2.1
  have ha := hM.ar ht
  have hT := hM.told
  have g0 : MG [174] [34] rM J J 0 0 0 s m m := MG.rf hM
  refine tz_aload_n (pc := 0) dX12_normalOf_0 rfl rfl ?_
  refine tz_cV (pc := 1) (m_stopped hl n _) vl_X12_211 dX12_normalOf_1 o_164 rfl rfl (Nat.le_of_ble_eq_true rfl) ⟨(show 0 + 1 ≤ 12 + 1 * (r9 + 1) by omega), (show 8 + (1 + 11) + 40 * (0) ≤ 40 * (12 + 1 * (r9 + 1)) by omega)⟩ rfl rfl (Nat.le_of_ble_eq_true rfl) (Nat.le_of_ble_eq_true rfl) (fun r9 J_1 hq9 => ?_)
  obtain ⟨y_1, rfl, hz_1, rfl, hs_1⟩ := hq9
  refine tz_if_ne (pc := 4) (tgt := 15) dX12_normalOf_4 (by decide) (by omega) (fun h_4 => ?_) (fun h_4 => ?_)
  · refine tz_iload_n (pc := 15) dX12_normalOf_15 rfl rfl ?_
    exact tz_iret (pc := 16) (z := t) dX12_normalOf_16 rfl (Nat.le_of_ble_eq_true rfl) (Nat.le_of_ble_eq_true rfl) ⟨Nat.le_refl _, Nat.le_add_right _ _⟩ ⟨_, rfl, (by omega), (by first | exact ⟨m, NP.rf hN, fun _ _ => ht, fun q9 => absurd q9 (ng_n hs_1 (by omega)), fun _ => ⟨rfl, rfl⟩⟩ | exact ⟨m, NP.rf hN, fun _ _ => ht, fun q9 => (noc_v q9 (by rw [(hM.oa ht).1]; omega) ht.1).m (nWT_0 _), fun q9 => absurd (ng_y hs_1 (by omega)) q9⟩)⟩
  · refine tz_aload_n (pc := 7) dX12_normalOf_7 rfl rfl ?_
    refine tz_iload_n (pc := 8) dX12_normalOf_8 rfl rfl ?_
    refine tz_cV (pc := 9) (m_isVar hl n _ _ (by omega) 0 0 0 s m hM (by omega)) vl_X12_78 dX12_normalOf_9 o_164 rfl rfl (Nat.le_of_ble_eq_true rfl) ⟨(show 1 + 1 ≤ 12 + 1 * (r9 + 1) by omega), (show 8 + (2 + 11) + 40 * (1) ≤ 40 * (12 + 1 * (r9 + 1)) by omega)⟩ rfl rfl (Nat.le_of_ble_eq_true rfl) (Nat.le_of_ble_eq_true rfl) (fun r9 J_9 hq9 => ?_)
    obtain ⟨z_9, rfl, hz_9, rfl, rfl⟩ := hq9
    by_cases hw_12 : J 166 (0 + t) < 0
    · rw [show (if J 166 (0 + t) < 0 then 1 else 0 : Int) = 1 from if_pos hw_12]
      refine tz_if_eqF (pc := 12) (tgt := 17) (by decide) dX12_normalOf_12 (by decide) (by decide) ?_
      refine tz_iload_n (pc := 15) dX12_normalOf_15 rfl rfl ?_
      exact tz_iret (pc := 16) (z := t) dX12_normalOf_16 rfl (Nat.le_of_ble_eq_true rfl) (Nat.le_of_ble_eq_true rfl) ⟨Nat.le_refl _, Nat.le_add_right _ _⟩ ⟨_, rfl, (by omega), (by first | exact ⟨m, NP.rf hN, fun _ _ => ht, fun q9 => absurd q9 (ng_n hs_1 (by omega)), fun _ => ⟨rfl, rfl⟩⟩ | exact ⟨m, NP.rf hN, fun _ _ => ht, fun q9 => (noc_v q9 (by rw [(hM.oa ht).1]; omega) ht.1).m (nWT_0 _), fun q9 => absurd (ng_y hs_1 (by omega)) q9⟩)⟩
    · rw [show (if J 166 (0 + t) < 0 then 1 else 0 : Int) = 0 from if_neg hw_12]
      refine tz_if_eqT (pc := 12) (tgt := 17) (by decide) dX12_normalOf_12 (by decide) (by decide) ?_
      refine tz_aload_n (pc := 17) dX12_normalOf_17 rfl rfl ?_
      refine tz_iload_n (pc := 18) dX12_normalOf_18 rfl rfl ?_
      refine tz_cV (pc := 19) (x_memoAt hl n _ _ (by omega) m hm) vl_X12_215 dX12_normalOf_19 o_164 rfl rfl (Nat.le_of_ble_eq_true rfl) ⟨(show 0 + 1 ≤ 12 + 1 * (r9 + 1) by omega), (show 8 + (3 + 11) + 40 * (0) ≤ 40 * (12 + 1 * (r9 + 1)) by omega)⟩ rfl rfl (Nat.le_of_ble_eq_true rfl) (Nat.le_of_ble_eq_true rfl) (fun r9 J_19 hq9 => ?_)
      obtain ⟨z_19, rfl, hz_19, rfl, hz19⟩ := hq9
      refine tz_istore_n (pc := 22) (L2 := [_, _, _, _, _, _, _, _]) dX12_normalOf_22 rfl (by decide) rfl ?_
      refine tz_iload_n (pc := 23) dX12_normalOf_23 rfl rfl ?_
      refine tz_iconst (pc := 24) dX12_normalOf_24 ?_
      refine tz_icmp_eq (pc := 25) (tgt := 66) dX12_normalOf_25 (by decide) (by omega) (by decide) (fun h_25 => ?_) (fun h_25 => ?_)
      · have gJ : NGO J := ng_y hs_1 (by omega)
        have hv9 : ¬ tb0 J 166 (0 + t) < 0 := by rw [(hM.oa ht).1]; omega
        have e40 : tb0 J 165 40 = J 165 40 := by rw [tb0_5, if_pos (by decide)]
        have e9 : mAt (tb0 J) t = tb0 J 165 40 := mAt_n (by rw [e40]; exact hm2.1) (fun q a c => by rw [e40] at c; rw [tb0_5, if_pos (by omega)]; exact (hz19.resolve_right (fun y => by have := y.1; omega)).2 q a c)
        obtain ⟨d9, hd9⟩ : ∃ d9 : Nat, J 168 (0 + t) = (d9 : Int) + 1 := ⟨(J 168 (0 + t)).toNat - 1, by omega⟩
        have dn9 : (J 168 (0 + t)).toNat = d9 + 1 := by omega
        have so0 := nso_0 (J := J) (t := t) gJ
        refine tz_aload_n (pc := 66) dX12_normalOf_66 rfl rfl ?_
        refine tz_iload_n (pc := 67) dX12_normalOf_67 rfl rfl ?_
        refine tz_cV (pc := 68) (m_arity hl n _ _ (by omega) 0 0 0 s m hM (by omega)) vl_X12_111 dX12_normalOf_68 o_164 rfl rfl (Nat.le_of_ble_eq_true rfl) ⟨(show 2 + 1 ≤ 12 + 1 * (r9 + 1) by omega), (show 8 + (2 + 11) + 40 * (2) ≤ 40 * (12 + 1 * (r9 + 1)) by omega)⟩ rfl rfl (Nat.le_of_ble_eq_true rfl) (Nat.le_of_ble_eq_true rfl) (fun r9 J_68 hq9 => ?_)
        obtain ⟨z_68, rfl, hz_68, rfl, rfl⟩ := hq9
        refine tz_istore_n (pc := 71) (L2 := [_, _, _, _, _, _, _, _]) dX12_normalOf_71 rfl (by decide) rfl ?_
        refine tz_iload_n (pc := 72) dX12_normalOf_72 rfl rfl ?_
        refine tz_if_le (pc := 73) (tgt := 89) dX12_normalOf_73 (by decide) (by omega) (fun h_73 => ?_) (fun h_73 => ?_)
        · refine tz_iconst (pc := 89) dX12_normalOf_89 ?_
          refine tz_istore (pc := 90) (L2 := [_, _, _, _, _, _, _, _]) dX12_normalOf_90 (by decide) rfl ?_
          refine tz_iload_n (pc := 92) dX12_normalOf_92 rfl rfl ?_
          refine tz_iconst (pc := 93) dX12_normalOf_93 ?_
          refine tz_icmp_leT (pc := 94) (tgt := 110) (by omega) dX12_normalOf_94 (by decide) (by omega) (by decide) ?_
          refine tz_iconst (pc := 110) dX12_normalOf_110 ?_
          refine tz_istore (pc := 111) (L2 := [_, _, _, _, _, _, _, _]) dX12_normalOf_111 (by decide) rfl ?_
          refine tz_iload_n (pc := 113) dX12_normalOf_113 rfl rfl ?_
          refine tz_iconst (pc := 114) dX12_normalOf_114 ?_
          refine tz_icmp_leT (pc := 115) (tgt := 131) (by omega) dX12_normalOf_115 (by decide) (by omega) (by decide) ?_
          refine tz_iconst (pc := 131) dX12_normalOf_131 ?_
          refine tz_istore (pc := 132) (L2 := [_, _, _, _, _, _, _, _]) dX12_normalOf_132 (by decide) rfl ?_
          refine tz_aload_n (pc := 134) dX12_normalOf_134 rfl rfl ?_
          refine tz_cV (pc := 135) (m_stopped hl n _) vl_X12_211 dX12_normalOf_135 o_164 rfl rfl (Nat.le_of_ble_eq_true rfl) ⟨(show 0 + 1 ≤ 12 + 1 * (r9 + 1) by omega), (show 8 + (1 + 11) + 40 * (0) ≤ 40 * (12 + 1 * (r9 + 1)) by omega)⟩ rfl rfl (Nat.le_of_ble_eq_true rfl) (Nat.le_of_ble_eq_true rfl) (fun r9 J_135 hq9 => ?_)
          obtain ⟨y_135, rfl, hz_135, rfl, hs_135⟩ := hq9
          refine tz_if_eq (pc := 138) (tgt := 145) dX12_normalOf_138 (by decide) (by omega) (fun h_138 => ?_) (fun h_138 => ?_)
          · have g135 := ng_y hs_135 (by omega)
            refine tz_aload_n (pc := 145) dX12_normalOf_145 rfl rfl ?_
            refine tz_iload_n (pc := 146) dX12_normalOf_146 rfl rfl ?_
            refine tz_iload (pc := 147) dX12_normalOf_147 rfl ?_
            refine tz_iload (pc := 149) dX12_normalOf_149 rfl ?_
            refine tz_iload (pc := 151) dX12_normalOf_151 rfl ?_
            refine tz_cV (pc := 153) (o_remade hl n _ _ _ _ _ (by omega) (by omega) (by omega) (by omega) s m (g0).1.1 (((g0).2.2.1.2.2.1 9 rfl).trans hs9) (by omega) (fun q9 => by have e9 := (g0).ar ht ((g0).2.2.1.2.2.2 170 rfl); rw [e9]; omega)) vl_X12_152 dX12_normalOf_153 o_164 rfl rfl (Nat.le_of_ble_eq_true rfl) ⟨(show 3 + 1 ≤ 12 + 1 * (r9 + 1) by omega), (show 8 + (5 + 11) + 40 * (3) ≤ 40 * (12 + 1 * (r9 + 1)) by omega)⟩ rfl rfl (Nat.le_of_ble_eq_true rfl) (Nat.le_of_ble_eq_true rfl) (fun r9 J_153 hq9 => ?_)
            obtain ⟨z_153, rfl, hz_153, m_153, n_153, h_153, x_153⟩ := hq9
            have p_153 : NP J_153 J 0 0 0 s m m_153 := (NP.rf hN).tr (NP.mg (NP.rf hN).1 n_153)
            have q_153 := p_153.2.1
            have u_153 := NP.fu (NP.mg (NP.rf hN).1 n_153)
            have v_153 := NP.fu p_153
            have k_153 : J_153 164 34 = J 164 34 := n_153.2.2.1.2.2.1 34 rfl
            have mk9 := x_153
            rw [← ((g0).1.1.oa (t := t) ⟨ht.1, by omega⟩).1] at mk9
            have hs8 := mar_at (g0) ((g0).2.2.1.2.2.2 170 rfl) ht
            refine tz_istore (pc := 156) (L2 := [_, _, _, _, _, _, _, _]) dX12_normalOf_156 (by decide) rfl ?_
            refine tz_aload_n (pc := 158) dX12_normalOf_158 rfl rfl ?_
            refine tz_cV (pc := 159) (m_stopped hl n _) vl_X12_211 dX12_normalOf_159 o_164 rfl rfl (Nat.le_of_ble_eq_true rfl) ⟨(show 0 + 1 ≤ 12 + 1 * (r9 + 1) by omega), (show 8 + (1 + 11) + 40 * (0) ≤ 40 * (12 + 1 * (r9 + 1)) by omega)⟩ rfl rfl (Nat.le_of_ble_eq_true rfl) (Nat.le_of_ble_eq_true rfl) (fun r9 J_159 hq9 => ?_)
            obtain ⟨y_159, rfl, hz_159, rfl, hs_159⟩ := hq9
            refine tz_if_eq (pc := 162) (tgt := 169) dX12_normalOf_162 (by decide) (by omega) (fun h_162 => ?_) (fun h_162 => ?_)
            · have g159 := ng_y hs_159 (by omega)
              refine tz_aload_n (pc := 169) dX12_normalOf_169 rfl rfl ?_
              refine tz_iload (pc := 170) dX12_normalOf_170 rfl ?_
              refine tz_cV (pc := 172) (ihL _ _ (by omega) s m_153 (p_153).1 (((p_153).2.1.2.2.1.2.2.1 9 rfl).trans hs9) (by omega) (by omega) (by omega) (by omega)) vl_X12_224 dX12_normalOf_172 o_164 rfl rfl (Nat.le_of_ble_eq_true rfl) ⟨(show (12 + 1 * r9) + 1 ≤ 12 + 1 * (r9 + 1) by omega), (show 8 + (4 + 11) + 40 * ((12 + 1 * r9)) ≤ 40 * (12 + 1 * (r9 + 1)) by omega)⟩ rfl rfl (Nat.le_of_ble_eq_true rfl) (Nat.le_of_ble_eq_true rfl) (fun r9 J_172 hq9 => ?_)
              obtain ⟨z_172, rfl, hz_172, m_172, n_172, h_172, x_172⟩ := hq9
              have p_172 : NP J_172 J 0 0 0 s m m_172 := (p_153).tr (n_172)
              have q_172 := p_172.2.1
              have u_172 := NP.fu (n_172)
              have v_172 := NP.fu p_172
              rw [k_153] at x_172
              refine tz_istore (pc := 175) (L2 := [_, _, _, _, _, _, _, _]) dX12_normalOf_175 (by decide) rfl ?_
              refine tz_aload_n (pc := 177) dX12_normalOf_177 rfl rfl ?_
              refine tz_cV (pc := 178) (m_stopped hl n _) vl_X12_211 dX12_normalOf_178 o_164 rfl rfl (Nat.le_of_ble_eq_true rfl) ⟨(show 0 + 1 ≤ 12 + 1 * (r9 + 1) by omega), (show 8 + (1 + 11) + 40 * (0) ≤ 40 * (12 + 1 * (r9 + 1)) by omega)⟩ rfl rfl (Nat.le_of_ble_eq_true rfl) (Nat.le_of_ble_eq_true rfl) (fun r9 J_178 hq9 => ?_)
              obtain ⟨y_178, rfl, hz_178, rfl, hs_178⟩ := hq9
              refine tz_if_ne (pc := 181) (tgt := 191) dX12_normalOf_181 (by decide) (by omega) (fun h_181 => ?_) (fun h_181 => ?_)
              · have n178 := ng_n hs_178 (by omega)
                refine tz_iload (pc := 191) dX12_normalOf_191 rfl ?_
                exact tz_iret (pc := 193) (z := z_172) dX12_normalOf_193 rfl (Nat.le_of_ble_eq_true rfl) (Nat.le_of_ble_eq_true rfl) ⟨Nat.le_refl _, Nat.le_add_right _ _⟩ ⟨_, rfl, (by omega), ⟨m_172, p_172, h_172, fun _ => (by rw [dn9]; exact NOC.m (noc_l hv9 e9 so0 g135 (by rw [hs8]; omega) mk9 g159.1 (h_153 g159.1).1 x_172 (fun q8 => absurd q8 n178) rfl rfl) (by show _ ≤ 3 * nWT d9 + 8; have := nWT_0 d9; omega)), fun q9 => absurd gJ q9⟩⟩
              · have g178 := ng_y hs_178 (by omega)
                refine tz_aload_n (pc := 184) dX12_normalOf_184 rfl rfl ?_
                refine tz_iload_n (pc := 185) dX12_normalOf_185 rfl rfl ?_
                refine tz_iload (pc := 186) dX12_normalOf_186 rfl ?_
                refine tz_cV (pc := 188) (x_memoGets hl n _ _ _ (by omega) (by omega) m_172 (p_172).1.2.2.1) vl_X12_218 dX12_normalOf_188 o_164 rfl rfl (Nat.le_of_ble_eq_true rfl) ⟨(show 1 + 1 ≤ 12 + 1 * (r9 + 1) by omega), (show 8 + (3 + 11) + 40 * (1) ≤ 40 * (12 + 1 * (r9 + 1)) by omega)⟩ rfl rfl (Nat.le_of_ble_eq_true rfl) (Nat.le_of_ble_eq_true rfl) (fun r9 J_188 hq9 => ?_)
                obtain ⟨rfl, f5, e5⟩ := hq9
                have m5 : MM (J_188 165) m_172 := by rw [e5]; exact (p_172).1.2.2.1.mg (by omega) (by omega)
                have M5 := mmf_mg f5 e5 (p_172).1.2.2.1
                have p_188 := (p_172).tr (NP.mmf (p_172).1 M5 m5)
                have k_188 : J_188 164 = J_172 164 := f5 164 rfl
                refine tz_iload (pc := 191) dX12_normalOf_191 rfl ?_
                exact tz_iret (pc := 193) (z := z_172) dX12_normalOf_193 rfl (Nat.le_of_ble_eq_true rfl) (Nat.le_of_ble_eq_true rfl) ⟨Nat.le_refl _, Nat.le_add_right _ _⟩ ⟨_, rfl, (by omega), ⟨m_172, p_188, fun _ _ => h_172 g178.1 g178.2, fun _ => (by rw [dn9]; exact NOC.m (noc_l hv9 e9 so0 g135 (by rw [hs8]; omega) mk9 g159.1 (h_153 g159.1).1 x_172 (fun _ => tb0_mg f5 e5 (mmb (p_172).1.2.2.1)) (by rw [k_188]) (by rw [k_188])) (by show _ ≤ 3 * nWT d9 + 8; have := nWT_0 d9; omega)), fun q9 => absurd gJ q9⟩⟩
            · have n159 := ng_n hs_159 (by omega)
              refine tz_iconst (pc := 165) dX12_normalOf_165 ?_
              refine tz_goto (pc := 166) (tgt := 175) dX12_normalOf_166 (by decide) ?_
              refine tz_istore (pc := 175) (L2 := [_, _, _, _, _, _, _, _]) dX12_normalOf_175 (by decide) rfl ?_
              refine tz_aload_n (pc := 177) dX12_normalOf_177 rfl rfl ?_
              refine tz_cV (pc := 178) (m_stopped hl n _) vl_X12_211 dX12_normalOf_178 o_164 rfl rfl (Nat.le_of_ble_eq_true rfl) ⟨(show 0 + 1 ≤ 12 + 1 * (r9 + 1) by omega), (show 8 + (1 + 11) + 40 * (0) ≤ 40 * (12 + 1 * (r9 + 1)) by omega)⟩ rfl rfl (Nat.le_of_ble_eq_true rfl) (Nat.le_of_ble_eq_true rfl) (fun r9 J_178 hq9 => ?_)
              obtain ⟨y_178, rfl, hz_178, rfl, hs_178⟩ := hq9
              refine tz_if_neT (pc := 181) (tgt := 191) (by omega) dX12_normalOf_181 (by decide) (by omega) ?_
              refine tz_iload (pc := 191) dX12_normalOf_191 rfl ?_
              exact tz_iret (pc := 193) (z := 0) dX12_normalOf_193 rfl (Nat.le_of_ble_eq_true rfl) (Nat.le_of_ble_eq_true rfl) ⟨Nat.le_refl _, Nat.le_add_right _ _⟩ ⟨_, rfl, (by decide), ⟨m_153, p_153, fun q9 q8 => absurd ⟨q9, q8⟩ n159, fun _ => (by rw [dn9]; exact NOC.m (noc_f (J1 := J) hv9 e9 so0 g135 (by rw [hs8]; omega) (by rw [← mk9]; exact fun q9 => n159 ⟨q9, by rw [k_153]; exact g135.2⟩) (fun q9 => n159 ⟨q9, by rw [k_153]; exact g135.2⟩) k_153) (by show _ ≤ 3 * nWT d9 + 8; have := nWT_0 d9; omega)), fun q9 => absurd gJ q9⟩⟩
          · have n135 := ng_n hs_135 (by omega)
            refine tz_iconst (pc := 141) dX12_normalOf_141 ?_
            refine tz_goto (pc := 142) (tgt := 156) dX12_normalOf_142 (by decide) ?_
            refine tz_istore (pc := 156) (L2 := [_, _, _, _, _, _, _, _]) dX12_normalOf_156 (by decide) rfl ?_
            refine tz_aload_n (pc := 158) dX12_normalOf_158 rfl rfl ?_
            refine tz_cV (pc := 159) (m_stopped hl n _) vl_X12_211 dX12_normalOf_159 o_164 rfl rfl (Nat.le_of_ble_eq_true rfl) ⟨(show 0 + 1 ≤ 12 + 1 * (r9 + 1) by omega), (show 8 + (1 + 11) + 40 * (0) ≤ 40 * (12 + 1 * (r9 + 1)) by omega)⟩ rfl rfl (Nat.le_of_ble_eq_true rfl) (Nat.le_of_ble_eq_true rfl) (fun r9 J_159 hq9 => ?_)
            obtain ⟨y_159, rfl, hz_159, rfl, hs_159⟩ := hq9
            refine tz_if_eqF (pc := 162) (tgt := 169) (by omega) dX12_normalOf_162 (by decide) (by omega) ?_
            refine tz_iconst (pc := 165) dX12_normalOf_165 ?_
            refine tz_goto (pc := 166) (tgt := 175) dX12_normalOf_166 (by decide) ?_
            refine tz_istore (pc := 175) (L2 := [_, _, _, _, _, _, _, _]) dX12_normalOf_175 (by decide) rfl ?_
            refine tz_aload_n (pc := 177) dX12_normalOf_177 rfl rfl ?_
            refine tz_cV (pc := 178) (m_stopped hl n _) vl_X12_211 dX12_normalOf_178 o_164 rfl rfl (Nat.le_of_ble_eq_true rfl) ⟨(show 0 + 1 ≤ 12 + 1 * (r9 + 1) by omega), (show 8 + (1 + 11) + 40 * (0) ≤ 40 * (12 + 1 * (r9 + 1)) by omega)⟩ rfl rfl (Nat.le_of_ble_eq_true rfl) (Nat.le_of_ble_eq_true rfl) (fun r9 J_178 hq9 => ?_)
            obtain ⟨y_178, rfl, hz_178, rfl, hs_178⟩ := hq9
            refine tz_if_neT (pc := 181) (tgt := 191) (by omega) dX12_normalOf_181 (by decide) (by omega) ?_
            refine tz_iload (pc := 191) dX12_normalOf_191 rfl ?_
            exact tz_iret (pc := 193) (z := 0) dX12_normalOf_193 rfl (Nat.le_of_ble_eq_true rfl) (Nat.le_of_ble_eq_true rfl) ⟨Nat.le_refl _, Nat.le_add_right _ _⟩ ⟨_, rfl, (by decide), ⟨m, NP.rf hN, fun q9 q8 => absurd ⟨q9, q8⟩ n135, fun _ => (by rw [dn9]; exact NOC.m (noc_s hv9 e9 so0 n135 rfl rfl) (by show _ ≤ 3 * nWT d9 + 8; have := nWT_0 d9; omega)), fun q9 => absurd gJ q9⟩⟩
        · refine tz_aload_n (pc := 76) dX12_normalOf_76 rfl rfl ?_
          refine tz_aload_n (pc := 77) dX12_normalOf_77 rfl rfl ?_
          refine tz_iload_n (pc := 78) dX12_normalOf_78 rfl rfl ?_
          refine tz_iconst (pc := 79) dX12_normalOf_79 ?_
          refine tz_cV (pc := 80) (m_arg hl n _ _ _ (by omega) (by decide) 0 0 0 s m hM (by omega) (by omega)) vl_X12_88 dX12_normalOf_80 o_164 rfl rfl (Nat.le_of_ble_eq_true rfl) ⟨(show 0 + 1 ≤ 12 + 1 * (r9 + 1) by omega), (show 8 + (3 + 11) + 40 * (0) ≤ 40 * (12 + 1 * (r9 + 1)) by omega)⟩ rfl rfl (Nat.le_of_ble_eq_true rfl) (Nat.le_of_ble_eq_true rfl) (fun r9 J_80 hq9 => ?_)
          obtain ⟨z_80, rfl, hz_80, rfl, rfl⟩ := hq9
          have a_83 := hM.arg (t := t) (i := 0) ht (by omega)
          refine tz_cV (pc := 83) (ihN _ _ (by omega) s m (NP.rf hN).1 (((NP.rf hN).2.1.2.2.1.2.2.1 9 rfl).trans hs9) (by omega) (by rw [((g0).2.1 _ (by omega) (by omega)).1.2]; omega)) vl_X12_221 dX12_normalOf_83 o_164 rfl rfl (Nat.le_of_ble_eq_true rfl) ⟨(show (12 + 1 * r9) + 1 ≤ 12 + 1 * (r9 + 1) by omega), (show 8 + (8 + 11) + 40 * ((12 + 1 * r9)) ≤ 40 * (12 + 1 * (r9 + 1)) by omega)⟩ rfl rfl (Nat.le_of_ble_eq_true rfl) (Nat.le_of_ble_eq_true rfl) (fun r9 J_83 hq9 => ?_)
          obtain ⟨z_83, rfl, hz_83, m_83, n_83, h_83, x_83, y_83⟩ := hq9
          have p_83 : NP J_83 J 0 0 0 s m m_83 := (NP.rf hN).tr (n_83)
          have q_83 := p_83.2.1
          have u_83 := NP.fu (n_83)
          have v_83 := NP.fu p_83
          have at_83 := noc_at hM (g0) ht (i := 0) (by omega) (d := d9) hd9 x_83
          have so_83 := nso_a0 so0 at_83.1 at_83.2 y_83 (nWT_0 d9)
          refine tz_goto (pc := 86) (tgt := 90) dX12_normalOf_86 (by decide) ?_
          refine tz_istore (pc := 90) (L2 := [_, _, _, _, _, _, _, _]) dX12_normalOf_90 (by decide) rfl ?_
          refine tz_iload_n (pc := 92) dX12_normalOf_92 rfl rfl ?_
          refine tz_iconst (pc := 93) dX12_normalOf_93 ?_
          refine tz_icmp_le (pc := 94) (tgt := 110) dX12_normalOf_94 (by decide) (by omega) (by decide) (fun h_94 => ?_) (fun h_94 => ?_)
          · refine tz_iconst (pc := 110) dX12_normalOf_110 ?_
            refine tz_istore (pc := 111) (L2 := [_, _, _, _, _, _, _, _]) dX12_normalOf_111 (by decide) rfl ?_
            refine tz_iload_n (pc := 113) dX12_normalOf_113 rfl rfl ?_
            refine tz_iconst (pc := 114) dX12_normalOf_114 ?_
            refine tz_icmp_leT (pc := 115) (tgt := 131) (by omega) dX12_normalOf_115 (by decide) (by omega) (by decide) ?_
            refine tz_iconst (pc := 131) dX12_normalOf_131 ?_
            refine tz_istore (pc := 132) (L2 := [_, _, _, _, _, _, _, _]) dX12_normalOf_132 (by decide) rfl ?_
            refine tz_aload_n (pc := 134) dX12_normalOf_134 rfl rfl ?_
            refine tz_cV (pc := 135) (m_stopped hl n _) vl_X12_211 dX12_normalOf_135 o_164 rfl rfl (Nat.le_of_ble_eq_true rfl) ⟨(show 0 + 1 ≤ 12 + 1 * (r9 + 1) by omega), (show 8 + (1 + 11) + 40 * (0) ≤ 40 * (12 + 1 * (r9 + 1)) by omega)⟩ rfl rfl (Nat.le_of_ble_eq_true rfl) (Nat.le_of_ble_eq_true rfl) (fun r9 J_135 hq9 => ?_)
            obtain ⟨y_135, rfl, hz_135, rfl, hs_135⟩ := hq9
            refine tz_if_eq (pc := 138) (tgt := 145) dX12_normalOf_138 (by decide) (by omega) (fun h_138 => ?_) (fun h_138 => ?_)
            · have g135 := ng_y hs_135 (by omega)
              refine tz_aload_n (pc := 145) dX12_normalOf_145 rfl rfl ?_
              refine tz_iload_n (pc := 146) dX12_normalOf_146 rfl rfl ?_
              refine tz_iload (pc := 147) dX12_normalOf_147 rfl ?_
              refine tz_iload (pc := 149) dX12_normalOf_149 rfl ?_
              refine tz_iload (pc := 151) dX12_normalOf_151 rfl ?_
              refine tz_cV (pc := 153) (o_remade hl n _ _ _ _ _ (by omega) (by omega) (by omega) (by omega) s m_83 (q_83).1.1 (((q_83).2.2.1.2.2.1 9 rfl).trans hs9) (by omega) (fun q9 => by have e9 := (q_83).ar ht ((q_83).2.2.1.2.2.2 170 rfl); rw [e9]; omega)) vl_X12_152 dX12_normalOf_153 o_164 rfl rfl (Nat.le_of_ble_eq_true rfl) ⟨(show 3 + 1 ≤ 12 + 1 * (r9 + 1) by omega), (show 8 + (5 + 11) + 40 * (3) ≤ 40 * (12 + 1 * (r9 + 1)) by omega)⟩ rfl rfl (Nat.le_of_ble_eq_true rfl) (Nat.le_of_ble_eq_true rfl) (fun r9 J_153 hq9 => ?_)
              obtain ⟨z_153, rfl, hz_153, m_153, n_153, h_153, x_153⟩ := hq9
              have p_153 : NP J_153 J 0 0 0 s m m_153 := (p_83).tr (NP.mg (p_83).1 n_153)
              have q_153 := p_153.2.1
              have u_153 := NP.fu (NP.mg (p_83).1 n_153)
              have v_153 := NP.fu p_153
              have k_153 : J_153 164 34 = J_83 164 34 := n_153.2.2.1.2.2.1 34 rfl
              have mk9 := x_153
              rw [← ((q_83).1.1.oa (t := t) ⟨ht.1, by omega⟩).1] at mk9
              have hs8 := mar_at (q_83) ((q_83).2.2.1.2.2.2 170 rfl) ht
              refine tz_istore (pc := 156) (L2 := [_, _, _, _, _, _, _, _]) dX12_normalOf_156 (by decide) rfl ?_
              refine tz_aload_n (pc := 158) dX12_normalOf_158 rfl rfl ?_
              refine tz_cV (pc := 159) (m_stopped hl n _) vl_X12_211 dX12_normalOf_159 o_164 rfl rfl (Nat.le_of_ble_eq_true rfl) ⟨(show 0 + 1 ≤ 12 + 1 * (r9 + 1) by omega), (show 8 + (1 + 11) + 40 * (0) ≤ 40 * (12 + 1 * (r9 + 1)) by omega)⟩ rfl rfl (Nat.le_of_ble_eq_true rfl) (Nat.le_of_ble_eq_true rfl) (fun r9 J_159 hq9 => ?_)
              obtain ⟨y_159, rfl, hz_159, rfl, hs_159⟩ := hq9
              refine tz_if_eq (pc := 162) (tgt := 169) dX12_normalOf_162 (by decide) (by omega) (fun h_162 => ?_) (fun h_162 => ?_)
              · have g159 := ng_y hs_159 (by omega)
                refine tz_aload_n (pc := 169) dX12_normalOf_169 rfl rfl ?_
                refine tz_iload (pc := 170) dX12_normalOf_170 rfl ?_
                refine tz_cV (pc := 172) (ihL _ _ (by omega) s m_153 (p_153).1 (((p_153).2.1.2.2.1.2.2.1 9 rfl).trans hs9) (by omega) (by omega) (by omega) (by omega)) vl_X12_224 dX12_normalOf_172 o_164 rfl rfl (Nat.le_of_ble_eq_true rfl) ⟨(show (12 + 1 * r9) + 1 ≤ 12 + 1 * (r9 + 1) by omega), (show 8 + (4 + 11) + 40 * ((12 + 1 * r9)) ≤ 40 * (12 + 1 * (r9 + 1)) by omega)⟩ rfl rfl (Nat.le_of_ble_eq_true rfl) (Nat.le_of_ble_eq_true rfl) (fun r9 J_172 hq9 => ?_)
                obtain ⟨z_172, rfl, hz_172, m_172, n_172, h_172, x_172⟩ := hq9
                have p_172 : NP J_172 J 0 0 0 s m m_172 := (p_153).tr (n_172)
                have q_172 := p_172.2.1
                have u_172 := NP.fu (n_172)
                have v_172 := NP.fu p_172
                rw [k_153] at x_172
                refine tz_istore (pc := 175) (L2 := [_, _, _, _, _, _, _, _]) dX12_normalOf_175 (by decide) rfl ?_
                refine tz_aload_n (pc := 177) dX12_normalOf_177 rfl rfl ?_
                refine tz_cV (pc := 178) (m_stopped hl n _) vl_X12_211 dX12_normalOf_178 o_164 rfl rfl (Nat.le_of_ble_eq_true rfl) ⟨(show 0 + 1 ≤ 12 + 1 * (r9 + 1) by omega), (show 8 + (1 + 11) + 40 * (0) ≤ 40 * (12 + 1 * (r9 + 1)) by omega)⟩ rfl rfl (Nat.le_of_ble_eq_true rfl) (Nat.le_of_ble_eq_true rfl) (fun r9 J_178 hq9 => ?_)
                obtain ⟨y_178, rfl, hz_178, rfl, hs_178⟩ := hq9
                refine tz_if_ne (pc := 181) (tgt := 191) dX12_normalOf_181 (by decide) (by omega) (fun h_181 => ?_) (fun h_181 => ?_)
                · have n178 := ng_n hs_178 (by omega)
                  refine tz_iload (pc := 191) dX12_normalOf_191 rfl ?_
                  exact tz_iret (pc := 193) (z := z_172) dX12_normalOf_193 rfl (Nat.le_of_ble_eq_true rfl) (Nat.le_of_ble_eq_true rfl) ⟨Nat.le_refl _, Nat.le_add_right _ _⟩ ⟨_, rfl, (by omega), ⟨m_172, p_172, h_172, fun _ => (by rw [dn9]; exact NOC.m (noc_l hv9 e9 so_83 g135 (by rw [hs8]; omega) mk9 g159.1 (h_153 g159.1).1 x_172 (fun q8 => absurd q8 n178) rfl rfl) (by show _ ≤ 3 * nWT d9 + 8; have := nWT_0 d9; omega)), fun q9 => absurd gJ q9⟩⟩
                · have g178 := ng_y hs_178 (by omega)
                  refine tz_aload_n (pc := 184) dX12_normalOf_184 rfl rfl ?_
                  refine tz_iload_n (pc := 185) dX12_normalOf_185 rfl rfl ?_
                  refine tz_iload (pc := 186) dX12_normalOf_186 rfl ?_
                  refine tz_cV (pc := 188) (x_memoGets hl n _ _ _ (by omega) (by omega) m_172 (p_172).1.2.2.1) vl_X12_218 dX12_normalOf_188 o_164 rfl rfl (Nat.le_of_ble_eq_true rfl) ⟨(show 1 + 1 ≤ 12 + 1 * (r9 + 1) by omega), (show 8 + (3 + 11) + 40 * (1) ≤ 40 * (12 + 1 * (r9 + 1)) by omega)⟩ rfl rfl (Nat.le_of_ble_eq_true rfl) (Nat.le_of_ble_eq_true rfl) (fun r9 J_188 hq9 => ?_)
                  obtain ⟨rfl, f5, e5⟩ := hq9
                  have m5 : MM (J_188 165) m_172 := by rw [e5]; exact (p_172).1.2.2.1.mg (by omega) (by omega)
                  have M5 := mmf_mg f5 e5 (p_172).1.2.2.1
                  have p_188 := (p_172).tr (NP.mmf (p_172).1 M5 m5)
                  have k_188 : J_188 164 = J_172 164 := f5 164 rfl
                  refine tz_iload (pc := 191) dX12_normalOf_191 rfl ?_
                  exact tz_iret (pc := 193) (z := z_172) dX12_normalOf_193 rfl (Nat.le_of_ble_eq_true rfl) (Nat.le_of_ble_eq_true rfl) ⟨Nat.le_refl _, Nat.le_add_right _ _⟩ ⟨_, rfl, (by omega), ⟨m_172, p_188, fun _ _ => h_172 g178.1 g178.2, fun _ => (by rw [dn9]; exact NOC.m (noc_l hv9 e9 so_83 g135 (by rw [hs8]; omega) mk9 g159.1 (h_153 g159.1).1 x_172 (fun _ => tb0_mg f5 e5 (mmb (p_172).1.2.2.1)) (by rw [k_188]) (by rw [k_188])) (by show _ ≤ 3 * nWT d9 + 8; have := nWT_0 d9; omega)), fun q9 => absurd gJ q9⟩⟩
              · have n159 := ng_n hs_159 (by omega)
                refine tz_iconst (pc := 165) dX12_normalOf_165 ?_
                refine tz_goto (pc := 166) (tgt := 175) dX12_normalOf_166 (by decide) ?_
                refine tz_istore (pc := 175) (L2 := [_, _, _, _, _, _, _, _]) dX12_normalOf_175 (by decide) rfl ?_
                refine tz_aload_n (pc := 177) dX12_normalOf_177 rfl rfl ?_
                refine tz_cV (pc := 178) (m_stopped hl n _) vl_X12_211 dX12_normalOf_178 o_164 rfl rfl (Nat.le_of_ble_eq_true rfl) ⟨(show 0 + 1 ≤ 12 + 1 * (r9 + 1) by omega), (show 8 + (1 + 11) + 40 * (0) ≤ 40 * (12 + 1 * (r9 + 1)) by omega)⟩ rfl rfl (Nat.le_of_ble_eq_true rfl) (Nat.le_of_ble_eq_true rfl) (fun r9 J_178 hq9 => ?_)
                obtain ⟨y_178, rfl, hz_178, rfl, hs_178⟩ := hq9
                refine tz_if_neT (pc := 181) (tgt := 191) (by omega) dX12_normalOf_181 (by decide) (by omega) ?_
                refine tz_iload (pc := 191) dX12_normalOf_191 rfl ?_
                exact tz_iret (pc := 193) (z := 0) dX12_normalOf_193 rfl (Nat.le_of_ble_eq_true rfl) (Nat.le_of_ble_eq_true rfl) ⟨Nat.le_refl _, Nat.le_add_right _ _⟩ ⟨_, rfl, (by decide), ⟨m_153, p_153, fun q9 q8 => absurd ⟨q9, q8⟩ n159, fun _ => (by rw [dn9]; exact NOC.m (noc_f (J1 := J_83) hv9 e9 so_83 g135 (by rw [hs8]; omega) (by rw [← mk9]; exact fun q9 => n159 ⟨q9, by rw [k_153]; exact g135.2⟩) (fun q9 => n159 ⟨q9, by rw [k_153]; exact g135.2⟩) k_153) (by show _ ≤ 3 * nWT d9 + 8; have := nWT_0 d9; omega)), fun q9 => absurd gJ q9⟩⟩
            · have n135 := ng_n hs_135 (by omega)
              refine tz_iconst (pc := 141) dX12_normalOf_141 ?_
              refine tz_goto (pc := 142) (tgt := 156) dX12_normalOf_142 (by decide) ?_
              refine tz_istore (pc := 156) (L2 := [_, _, _, _, _, _, _, _]) dX12_normalOf_156 (by decide) rfl ?_
              refine tz_aload_n (pc := 158) dX12_normalOf_158 rfl rfl ?_
              refine tz_cV (pc := 159) (m_stopped hl n _) vl_X12_211 dX12_normalOf_159 o_164 rfl rfl (Nat.le_of_ble_eq_true rfl) ⟨(show 0 + 1 ≤ 12 + 1 * (r9 + 1) by omega), (show 8 + (1 + 11) + 40 * (0) ≤ 40 * (12 + 1 * (r9 + 1)) by omega)⟩ rfl rfl (Nat.le_of_ble_eq_true rfl) (Nat.le_of_ble_eq_true rfl) (fun r9 J_159 hq9 => ?_)
              obtain ⟨y_159, rfl, hz_159, rfl, hs_159⟩ := hq9
              refine tz_if_eqF (pc := 162) (tgt := 169) (by omega) dX12_normalOf_162 (by decide) (by omega) ?_
              refine tz_iconst (pc := 165) dX12_normalOf_165 ?_
              refine tz_goto (pc := 166) (tgt := 175) dX12_normalOf_166 (by decide) ?_
              refine tz_istore (pc := 175) (L2 := [_, _, _, _, _, _, _, _]) dX12_normalOf_175 (by decide) rfl ?_
              refine tz_aload_n (pc := 177) dX12_normalOf_177 rfl rfl ?_
              refine tz_cV (pc := 178) (m_stopped hl n _) vl_X12_211 dX12_normalOf_178 o_164 rfl rfl (Nat.le_of_ble_eq_true rfl) ⟨(show 0 + 1 ≤ 12 + 1 * (r9 + 1) by omega), (show 8 + (1 + 11) + 40 * (0) ≤ 40 * (12 + 1 * (r9 + 1)) by omega)⟩ rfl rfl (Nat.le_of_ble_eq_true rfl) (Nat.le_of_ble_eq_true rfl) (fun r9 J_178 hq9 => ?_)
              obtain ⟨y_178, rfl, hz_178, rfl, hs_178⟩ := hq9
              refine tz_if_neT (pc := 181) (tgt := 191) (by omega) dX12_normalOf_181 (by decide) (by omega) ?_
              refine tz_iload (pc := 191) dX12_normalOf_191 rfl ?_
              exact tz_iret (pc := 193) (z := 0) dX12_normalOf_193 rfl (Nat.le_of_ble_eq_true rfl) (Nat.le_of_ble_eq_true rfl) ⟨Nat.le_refl _, Nat.le_add_right _ _⟩ ⟨_, rfl, (by decide), ⟨m_83, p_83, fun q9 q8 => absurd ⟨q9, q8⟩ n135, fun _ => (by rw [dn9]; exact NOC.m (noc_s hv9 e9 so_83 n135 rfl rfl) (by show _ ≤ 3 * nWT d9 + 8; have := nWT_0 d9; omega)), fun q9 => absurd gJ q9⟩⟩
          · refine tz_aload_n (pc := 97) dX12_normalOf_97 rfl rfl ?_
            refine tz_aload_n (pc := 98) dX12_normalOf_98 rfl rfl ?_
            refine tz_iload_n (pc := 99) dX12_normalOf_99 rfl rfl ?_
            refine tz_iconst (pc := 100) dX12_normalOf_100 ?_
            have l_101 := (q_83).1.2
            have tt_101 := (q_83).1.1.told
            refine tz_cV (pc := 101) (m_arg hl n _ _ _ (by omega) (by decide) 0 0 0 s m_83 (q_83).1.1 (by omega) (by omega)) vl_X12_88 dX12_normalOf_101 o_164 rfl rfl (Nat.le_of_ble_eq_true rfl) ⟨(show 0 + 1 ≤ 12 + 1 * (r9 + 1) by omega), (show 8 + (3 + 11) + 40 * (0) ≤ 40 * (12 + 1 * (r9 + 1)) by omega)⟩ rfl rfl (Nat.le_of_ble_eq_true rfl) (Nat.le_of_ble_eq_true rfl) (fun r9 J_101 hq9 => ?_)
            obtain ⟨z_101, rfl, hz_101, rfl, hv_101⟩ := hq9
            have he_101 : J_83 167 (3 * (0 + t) + 1) = J 167 (3 * (0 + t) + 1) := ((q_83).2.1 t ht.1 ht.2).2 1 (by omega) (by omega)
            rw [he_101] at hv_101
            obtain rfl : J 167 (3 * (0 + t) + 1) = z_101 := hv_101
            have a_104 := hM.arg (t := t) (i := 1) ht (by omega)
            refine tz_cV (pc := 104) (ihN _ _ (by omega) s m_83 (p_83).1 (((p_83).2.1.2.2.1.2.2.1 9 rfl).trans hs9) (by omega) (by rw [((q_83).2.1 _ (by omega) (by omega)).1.2]; omega)) vl_X12_221 dX12_normalOf_104 o_164 rfl rfl (Nat.le_of_ble_eq_true rfl) ⟨(show (12 + 1 * r9) + 1 ≤ 12 + 1 * (r9 + 1) by omega), (show 8 + (8 + 11) + 40 * ((12 + 1 * r9)) ≤ 40 * (12 + 1 * (r9 + 1)) by omega)⟩ rfl rfl (Nat.le_of_ble_eq_true rfl) (Nat.le_of_ble_eq_true rfl) (fun r9 J_104 hq9 => ?_)
            obtain ⟨z_104, rfl, hz_104, m_104, n_104, h_104, x_104, y_104⟩ := hq9
            have p_104 : NP J_104 J 0 0 0 s m m_104 := (p_83).tr (n_104)
            have q_104 := p_104.2.1
            have u_104 := NP.fu (n_104)
            have v_104 := NP.fu p_104
            have at_104 := noc_at hM (q_83) ht (i := 1) (by omega) (d := d9) hd9 x_104
            have so_104 := nso_a1 so_83 at_104.1 at_104.2 y_104 (nWT_0 d9)
            refine tz_goto (pc := 107) (tgt := 111) dX12_normalOf_107 (by decide) ?_
            refine tz_istore (pc := 111) (L2 := [_, _, _, _, _, _, _, _]) dX12_normalOf_111 (by decide) rfl ?_
            refine tz_iload_n (pc := 113) dX12_normalOf_113 rfl rfl ?_
            refine tz_iconst (pc := 114) dX12_normalOf_114 ?_
            refine tz_icmp_le (pc := 115) (tgt := 131) dX12_normalOf_115 (by decide) (by omega) (by decide) (fun h_115 => ?_) (fun h_115 => ?_)
            · refine tz_iconst (pc := 131) dX12_normalOf_131 ?_
              refine tz_istore (pc := 132) (L2 := [_, _, _, _, _, _, _, _]) dX12_normalOf_132 (by decide) rfl ?_
              refine tz_aload_n (pc := 134) dX12_normalOf_134 rfl rfl ?_
              refine tz_cV (pc := 135) (m_stopped hl n _) vl_X12_211 dX12_normalOf_135 o_164 rfl rfl (Nat.le_of_ble_eq_true rfl) ⟨(show 0 + 1 ≤ 12 + 1 * (r9 + 1) by omega), (show 8 + (1 + 11) + 40 * (0) ≤ 40 * (12 + 1 * (r9 + 1)) by omega)⟩ rfl rfl (Nat.le_of_ble_eq_true rfl) (Nat.le_of_ble_eq_true rfl) (fun r9 J_135 hq9 => ?_)
              obtain ⟨y_135, rfl, hz_135, rfl, hs_135⟩ := hq9
              refine tz_if_eq (pc := 138) (tgt := 145) dX12_normalOf_138 (by decide) (by omega) (fun h_138 => ?_) (fun h_138 => ?_)
              · have g135 := ng_y hs_135 (by omega)
                refine tz_aload_n (pc := 145) dX12_normalOf_145 rfl rfl ?_
                refine tz_iload_n (pc := 146) dX12_normalOf_146 rfl rfl ?_
                refine tz_iload (pc := 147) dX12_normalOf_147 rfl ?_
                refine tz_iload (pc := 149) dX12_normalOf_149 rfl ?_
                refine tz_iload (pc := 151) dX12_normalOf_151 rfl ?_
                refine tz_cV (pc := 153) (o_remade hl n _ _ _ _ _ (by omega) (by omega) (by omega) (by omega) s m_104 (q_104).1.1 (((q_104).2.2.1.2.2.1 9 rfl).trans hs9) (by omega) (fun q9 => by have e9 := (q_104).ar ht ((q_104).2.2.1.2.2.2 170 rfl); rw [e9]; omega)) vl_X12_152 dX12_normalOf_153 o_164 rfl rfl (Nat.le_of_ble_eq_true rfl) ⟨(show 3 + 1 ≤ 12 + 1 * (r9 + 1) by omega), (show 8 + (5 + 11) + 40 * (3) ≤ 40 * (12 + 1 * (r9 + 1)) by omega)⟩ rfl rfl (Nat.le_of_ble_eq_true rfl) (Nat.le_of_ble_eq_true rfl) (fun r9 J_153 hq9 => ?_)
                obtain ⟨z_153, rfl, hz_153, m_153, n_153, h_153, x_153⟩ := hq9
                have p_153 : NP J_153 J 0 0 0 s m m_153 := (p_104).tr (NP.mg (p_104).1 n_153)
                have q_153 := p_153.2.1
                have u_153 := NP.fu (NP.mg (p_104).1 n_153)
                have v_153 := NP.fu p_153
                have k_153 : J_153 164 34 = J_104 164 34 := n_153.2.2.1.2.2.1 34 rfl
                have mk9 := x_153
                rw [← ((q_104).1.1.oa (t := t) ⟨ht.1, by omega⟩).1] at mk9
                have hs8 := mar_at (q_104) ((q_104).2.2.1.2.2.2 170 rfl) ht
                refine tz_istore (pc := 156) (L2 := [_, _, _, _, _, _, _, _]) dX12_normalOf_156 (by decide) rfl ?_
                refine tz_aload_n (pc := 158) dX12_normalOf_158 rfl rfl ?_
                refine tz_cV (pc := 159) (m_stopped hl n _) vl_X12_211 dX12_normalOf_159 o_164 rfl rfl (Nat.le_of_ble_eq_true rfl) ⟨(show 0 + 1 ≤ 12 + 1 * (r9 + 1) by omega), (show 8 + (1 + 11) + 40 * (0) ≤ 40 * (12 + 1 * (r9 + 1)) by omega)⟩ rfl rfl (Nat.le_of_ble_eq_true rfl) (Nat.le_of_ble_eq_true rfl) (fun r9 J_159 hq9 => ?_)
                obtain ⟨y_159, rfl, hz_159, rfl, hs_159⟩ := hq9
                refine tz_if_eq (pc := 162) (tgt := 169) dX12_normalOf_162 (by decide) (by omega) (fun h_162 => ?_) (fun h_162 => ?_)
                · have g159 := ng_y hs_159 (by omega)
                  refine tz_aload_n (pc := 169) dX12_normalOf_169 rfl rfl ?_
                  refine tz_iload (pc := 170) dX12_normalOf_170 rfl ?_
                  refine tz_cV (pc := 172) (ihL _ _ (by omega) s m_153 (p_153).1 (((p_153).2.1.2.2.1.2.2.1 9 rfl).trans hs9) (by omega) (by omega) (by omega) (by omega)) vl_X12_224 dX12_normalOf_172 o_164 rfl rfl (Nat.le_of_ble_eq_true rfl) ⟨(show (12 + 1 * r9) + 1 ≤ 12 + 1 * (r9 + 1) by omega), (show 8 + (4 + 11) + 40 * ((12 + 1 * r9)) ≤ 40 * (12 + 1 * (r9 + 1)) by omega)⟩ rfl rfl (Nat.le_of_ble_eq_true rfl) (Nat.le_of_ble_eq_true rfl) (fun r9 J_172 hq9 => ?_)
                  obtain ⟨z_172, rfl, hz_172, m_172, n_172, h_172, x_172⟩ := hq9
                  have p_172 : NP J_172 J 0 0 0 s m m_172 := (p_153).tr (n_172)
                  have q_172 := p_172.2.1
                  have u_172 := NP.fu (n_172)
                  have v_172 := NP.fu p_172
                  rw [k_153] at x_172
                  refine tz_istore (pc := 175) (L2 := [_, _, _, _, _, _, _, _]) dX12_normalOf_175 (by decide) rfl ?_
                  refine tz_aload_n (pc := 177) dX12_normalOf_177 rfl rfl ?_
                  refine tz_cV (pc := 178) (m_stopped hl n _) vl_X12_211 dX12_normalOf_178 o_164 rfl rfl (Nat.le_of_ble_eq_true rfl) ⟨(show 0 + 1 ≤ 12 + 1 * (r9 + 1) by omega), (show 8 + (1 + 11) + 40 * (0) ≤ 40 * (12 + 1 * (r9 + 1)) by omega)⟩ rfl rfl (Nat.le_of_ble_eq_true rfl) (Nat.le_of_ble_eq_true rfl) (fun r9 J_178 hq9 => ?_)
                  obtain ⟨y_178, rfl, hz_178, rfl, hs_178⟩ := hq9
                  refine tz_if_ne (pc := 181) (tgt := 191) dX12_normalOf_181 (by decide) (by omega) (fun h_181 => ?_) (fun h_181 => ?_)
                  · have n178 := ng_n hs_178 (by omega)
                    refine tz_iload (pc := 191) dX12_normalOf_191 rfl ?_
                    exact tz_iret (pc := 193) (z := z_172) dX12_normalOf_193 rfl (Nat.le_of_ble_eq_true rfl) (Nat.le_of_ble_eq_true rfl) ⟨Nat.le_refl _, Nat.le_add_right _ _⟩ ⟨_, rfl, (by omega), ⟨m_172, p_172, h_172, fun _ => (by rw [dn9]; exact NOC.m (noc_l hv9 e9 so_104 g135 (by rw [hs8]; omega) mk9 g159.1 (h_153 g159.1).1 x_172 (fun q8 => absurd q8 n178) rfl rfl) (by show _ ≤ 3 * nWT d9 + 8; have := nWT_0 d9; omega)), fun q9 => absurd gJ q9⟩⟩
                  · have g178 := ng_y hs_178 (by omega)
                    refine tz_aload_n (pc := 184) dX12_normalOf_184 rfl rfl ?_
                    refine tz_iload_n (pc := 185) dX12_normalOf_185 rfl rfl ?_
                    refine tz_iload (pc := 186) dX12_normalOf_186 rfl ?_
                    refine tz_cV (pc := 188) (x_memoGets hl n _ _ _ (by omega) (by omega) m_172 (p_172).1.2.2.1) vl_X12_218 dX12_normalOf_188 o_164 rfl rfl (Nat.le_of_ble_eq_true rfl) ⟨(show 1 + 1 ≤ 12 + 1 * (r9 + 1) by omega), (show 8 + (3 + 11) + 40 * (1) ≤ 40 * (12 + 1 * (r9 + 1)) by omega)⟩ rfl rfl (Nat.le_of_ble_eq_true rfl) (Nat.le_of_ble_eq_true rfl) (fun r9 J_188 hq9 => ?_)
                    obtain ⟨rfl, f5, e5⟩ := hq9
                    have m5 : MM (J_188 165) m_172 := by rw [e5]; exact (p_172).1.2.2.1.mg (by omega) (by omega)
                    have M5 := mmf_mg f5 e5 (p_172).1.2.2.1
                    have p_188 := (p_172).tr (NP.mmf (p_172).1 M5 m5)
                    have k_188 : J_188 164 = J_172 164 := f5 164 rfl
                    refine tz_iload (pc := 191) dX12_normalOf_191 rfl ?_
                    exact tz_iret (pc := 193) (z := z_172) dX12_normalOf_193 rfl (Nat.le_of_ble_eq_true rfl) (Nat.le_of_ble_eq_true rfl) ⟨Nat.le_refl _, Nat.le_add_right _ _⟩ ⟨_, rfl, (by omega), ⟨m_172, p_188, fun _ _ => h_172 g178.1 g178.2, fun _ => (by rw [dn9]; exact NOC.m (noc_l hv9 e9 so_104 g135 (by rw [hs8]; omega) mk9 g159.1 (h_153 g159.1).1 x_172 (fun _ => tb0_mg f5 e5 (mmb (p_172).1.2.2.1)) (by rw [k_188]) (by rw [k_188])) (by show _ ≤ 3 * nWT d9 + 8; have := nWT_0 d9; omega)), fun q9 => absurd gJ q9⟩⟩
                · have n159 := ng_n hs_159 (by omega)
                  refine tz_iconst (pc := 165) dX12_normalOf_165 ?_
                  refine tz_goto (pc := 166) (tgt := 175) dX12_normalOf_166 (by decide) ?_
                  refine tz_istore (pc := 175) (L2 := [_, _, _, _, _, _, _, _]) dX12_normalOf_175 (by decide) rfl ?_
                  refine tz_aload_n (pc := 177) dX12_normalOf_177 rfl rfl ?_
                  refine tz_cV (pc := 178) (m_stopped hl n _) vl_X12_211 dX12_normalOf_178 o_164 rfl rfl (Nat.le_of_ble_eq_true rfl) ⟨(show 0 + 1 ≤ 12 + 1 * (r9 + 1) by omega), (show 8 + (1 + 11) + 40 * (0) ≤ 40 * (12 + 1 * (r9 + 1)) by omega)⟩ rfl rfl (Nat.le_of_ble_eq_true rfl) (Nat.le_of_ble_eq_true rfl) (fun r9 J_178 hq9 => ?_)
                  obtain ⟨y_178, rfl, hz_178, rfl, hs_178⟩ := hq9
                  refine tz_if_neT (pc := 181) (tgt := 191) (by omega) dX12_normalOf_181 (by decide) (by omega) ?_
                  refine tz_iload (pc := 191) dX12_normalOf_191 rfl ?_
                  exact tz_iret (pc := 193) (z := 0) dX12_normalOf_193 rfl (Nat.le_of_ble_eq_true rfl) (Nat.le_of_ble_eq_true rfl) ⟨Nat.le_refl _, Nat.le_add_right _ _⟩ ⟨_, rfl, (by decide), ⟨m_153, p_153, fun q9 q8 => absurd ⟨q9, q8⟩ n159, fun _ => (by rw [dn9]; exact NOC.m (noc_f (J1 := J_104) hv9 e9 so_104 g135 (by rw [hs8]; omega) (by rw [← mk9]; exact fun q9 => n159 ⟨q9, by rw [k_153]; exact g135.2⟩) (fun q9 => n159 ⟨q9, by rw [k_153]; exact g135.2⟩) k_153) (by show _ ≤ 3 * nWT d9 + 8; have := nWT_0 d9; omega)), fun q9 => absurd gJ q9⟩⟩
              · have n135 := ng_n hs_135 (by omega)
                refine tz_iconst (pc := 141) dX12_normalOf_141 ?_
                refine tz_goto (pc := 142) (tgt := 156) dX12_normalOf_142 (by decide) ?_
                refine tz_istore (pc := 156) (L2 := [_, _, _, _, _, _, _, _]) dX12_normalOf_156 (by decide) rfl ?_
                refine tz_aload_n (pc := 158) dX12_normalOf_158 rfl rfl ?_
                refine tz_cV (pc := 159) (m_stopped hl n _) vl_X12_211 dX12_normalOf_159 o_164 rfl rfl (Nat.le_of_ble_eq_true rfl) ⟨(show 0 + 1 ≤ 12 + 1 * (r9 + 1) by omega), (show 8 + (1 + 11) + 40 * (0) ≤ 40 * (12 + 1 * (r9 + 1)) by omega)⟩ rfl rfl (Nat.le_of_ble_eq_true rfl) (Nat.le_of_ble_eq_true rfl) (fun r9 J_159 hq9 => ?_)
                obtain ⟨y_159, rfl, hz_159, rfl, hs_159⟩ := hq9
                refine tz_if_eqF (pc := 162) (tgt := 169) (by omega) dX12_normalOf_162 (by decide) (by omega) ?_
                refine tz_iconst (pc := 165) dX12_normalOf_165 ?_
                refine tz_goto (pc := 166) (tgt := 175) dX12_normalOf_166 (by decide) ?_
                refine tz_istore (pc := 175) (L2 := [_, _, _, _, _, _, _, _]) dX12_normalOf_175 (by decide) rfl ?_
                refine tz_aload_n (pc := 177) dX12_normalOf_177 rfl rfl ?_
                refine tz_cV (pc := 178) (m_stopped hl n _) vl_X12_211 dX12_normalOf_178 o_164 rfl rfl (Nat.le_of_ble_eq_true rfl) ⟨(show 0 + 1 ≤ 12 + 1 * (r9 + 1) by omega), (show 8 + (1 + 11) + 40 * (0) ≤ 40 * (12 + 1 * (r9 + 1)) by omega)⟩ rfl rfl (Nat.le_of_ble_eq_true rfl) (Nat.le_of_ble_eq_true rfl) (fun r9 J_178 hq9 => ?_)
                obtain ⟨y_178, rfl, hz_178, rfl, hs_178⟩ := hq9
                refine tz_if_neT (pc := 181) (tgt := 191) (by omega) dX12_normalOf_181 (by decide) (by omega) ?_
                refine tz_iload (pc := 191) dX12_normalOf_191 rfl ?_
                exact tz_iret (pc := 193) (z := 0) dX12_normalOf_193 rfl (Nat.le_of_ble_eq_true rfl) (Nat.le_of_ble_eq_true rfl) ⟨Nat.le_refl _, Nat.le_add_right _ _⟩ ⟨_, rfl, (by decide), ⟨m_104, p_104, fun q9 q8 => absurd ⟨q9, q8⟩ n135, fun _ => (by rw [dn9]; exact NOC.m (noc_s hv9 e9 so_104 n135 rfl rfl) (by show _ ≤ 3 * nWT d9 + 8; have := nWT_0 d9; omega)), fun q9 => absurd gJ q9⟩⟩
            · refine tz_aload_n (pc := 118) dX12_normalOf_118 rfl rfl ?_
              refine tz_aload_n (pc := 119) dX12_normalOf_119 rfl rfl ?_
              refine tz_iload_n (pc := 120) dX12_normalOf_120 rfl rfl ?_
              refine tz_iconst (pc := 121) dX12_normalOf_121 ?_
              have l_122 := (q_104).1.2
              have tt_122 := (q_104).1.1.told
              refine tz_cV (pc := 122) (m_arg hl n _ _ _ (by omega) (by decide) 0 0 0 s m_104 (q_104).1.1 (by omega) (by omega)) vl_X12_88 dX12_normalOf_122 o_164 rfl rfl (Nat.le_of_ble_eq_true rfl) ⟨(show 0 + 1 ≤ 12 + 1 * (r9 + 1) by omega), (show 8 + (3 + 11) + 40 * (0) ≤ 40 * (12 + 1 * (r9 + 1)) by omega)⟩ rfl rfl (Nat.le_of_ble_eq_true rfl) (Nat.le_of_ble_eq_true rfl) (fun r9 J_122 hq9 => ?_)
              obtain ⟨z_122, rfl, hz_122, rfl, hv_122⟩ := hq9
              have he_122 : J_104 167 (3 * (0 + t) + 2) = J 167 (3 * (0 + t) + 2) := ((q_104).2.1 t ht.1 ht.2).2 2 (by omega) (by omega)
              rw [he_122] at hv_122
              obtain rfl : J 167 (3 * (0 + t) + 2) = z_122 := hv_122
              have a_125 := hM.arg (t := t) (i := 2) ht (by omega)
              refine tz_cV (pc := 125) (ihN _ _ (by omega) s m_104 (p_104).1 (((p_104).2.1.2.2.1.2.2.1 9 rfl).trans hs9) (by omega) (by rw [((q_104).2.1 _ (by omega) (by omega)).1.2]; omega)) vl_X12_221 dX12_normalOf_125 o_164 rfl rfl (Nat.le_of_ble_eq_true rfl) ⟨(show (12 + 1 * r9) + 1 ≤ 12 + 1 * (r9 + 1) by omega), (show 8 + (8 + 11) + 40 * ((12 + 1 * r9)) ≤ 40 * (12 + 1 * (r9 + 1)) by omega)⟩ rfl rfl (Nat.le_of_ble_eq_true rfl) (Nat.le_of_ble_eq_true rfl) (fun r9 J_125 hq9 => ?_)
              obtain ⟨z_125, rfl, hz_125, m_125, n_125, h_125, x_125, y_125⟩ := hq9
              have p_125 : NP J_125 J 0 0 0 s m m_125 := (p_104).tr (n_125)
              have q_125 := p_125.2.1
              have u_125 := NP.fu (n_125)
              have v_125 := NP.fu p_125
              have at_125 := noc_at hM (q_104) ht (i := 2) (by omega) (d := d9) hd9 x_125
              have so_125 := nso_a2 so_104 at_125.1 at_125.2 y_125 (nWT_0 d9)
              refine tz_goto (pc := 128) (tgt := 132) dX12_normalOf_128 (by decide) ?_
              refine tz_istore (pc := 132) (L2 := [_, _, _, _, _, _, _, _]) dX12_normalOf_132 (by decide) rfl ?_
              refine tz_aload_n (pc := 134) dX12_normalOf_134 rfl rfl ?_
              refine tz_cV (pc := 135) (m_stopped hl n _) vl_X12_211 dX12_normalOf_135 o_164 rfl rfl (Nat.le_of_ble_eq_true rfl) ⟨(show 0 + 1 ≤ 12 + 1 * (r9 + 1) by omega), (show 8 + (1 + 11) + 40 * (0) ≤ 40 * (12 + 1 * (r9 + 1)) by omega)⟩ rfl rfl (Nat.le_of_ble_eq_true rfl) (Nat.le_of_ble_eq_true rfl) (fun r9 J_135 hq9 => ?_)
              obtain ⟨y_135, rfl, hz_135, rfl, hs_135⟩ := hq9
              refine tz_if_eq (pc := 138) (tgt := 145) dX12_normalOf_138 (by decide) (by omega) (fun h_138 => ?_) (fun h_138 => ?_)
              · have g135 := ng_y hs_135 (by omega)
                refine tz_aload_n (pc := 145) dX12_normalOf_145 rfl rfl ?_
                refine tz_iload_n (pc := 146) dX12_normalOf_146 rfl rfl ?_
                refine tz_iload (pc := 147) dX12_normalOf_147 rfl ?_
                refine tz_iload (pc := 149) dX12_normalOf_149 rfl ?_
                refine tz_iload (pc := 151) dX12_normalOf_151 rfl ?_
                refine tz_cV (pc := 153) (o_remade hl n _ _ _ _ _ (by omega) (by omega) (by omega) (by omega) s m_125 (q_125).1.1 (((q_125).2.2.1.2.2.1 9 rfl).trans hs9) (by omega) (fun q9 => by have e9 := (q_125).ar ht ((q_125).2.2.1.2.2.2 170 rfl); rw [e9]; omega)) vl_X12_152 dX12_normalOf_153 o_164 rfl rfl (Nat.le_of_ble_eq_true rfl) ⟨(show 3 + 1 ≤ 12 + 1 * (r9 + 1) by omega), (show 8 + (5 + 11) + 40 * (3) ≤ 40 * (12 + 1 * (r9 + 1)) by omega)⟩ rfl rfl (Nat.le_of_ble_eq_true rfl) (Nat.le_of_ble_eq_true rfl) (fun r9 J_153 hq9 => ?_)
                obtain ⟨z_153, rfl, hz_153, m_153, n_153, h_153, x_153⟩ := hq9
                have p_153 : NP J_153 J 0 0 0 s m m_153 := (p_125).tr (NP.mg (p_125).1 n_153)
                have q_153 := p_153.2.1
                have u_153 := NP.fu (NP.mg (p_125).1 n_153)
                have v_153 := NP.fu p_153
                have k_153 : J_153 164 34 = J_125 164 34 := n_153.2.2.1.2.2.1 34 rfl
                have mk9 := x_153
                rw [← ((q_125).1.1.oa (t := t) ⟨ht.1, by omega⟩).1] at mk9
                have hs8 := mar_at (q_125) ((q_125).2.2.1.2.2.2 170 rfl) ht
                refine tz_istore (pc := 156) (L2 := [_, _, _, _, _, _, _, _]) dX12_normalOf_156 (by decide) rfl ?_
                refine tz_aload_n (pc := 158) dX12_normalOf_158 rfl rfl ?_
                refine tz_cV (pc := 159) (m_stopped hl n _) vl_X12_211 dX12_normalOf_159 o_164 rfl rfl (Nat.le_of_ble_eq_true rfl) ⟨(show 0 + 1 ≤ 12 + 1 * (r9 + 1) by omega), (show 8 + (1 + 11) + 40 * (0) ≤ 40 * (12 + 1 * (r9 + 1)) by omega)⟩ rfl rfl (Nat.le_of_ble_eq_true rfl) (Nat.le_of_ble_eq_true rfl) (fun r9 J_159 hq9 => ?_)
                obtain ⟨y_159, rfl, hz_159, rfl, hs_159⟩ := hq9
                refine tz_if_eq (pc := 162) (tgt := 169) dX12_normalOf_162 (by decide) (by omega) (fun h_162 => ?_) (fun h_162 => ?_)
                · have g159 := ng_y hs_159 (by omega)
                  refine tz_aload_n (pc := 169) dX12_normalOf_169 rfl rfl ?_
                  refine tz_iload (pc := 170) dX12_normalOf_170 rfl ?_
                  refine tz_cV (pc := 172) (ihL _ _ (by omega) s m_153 (p_153).1 (((p_153).2.1.2.2.1.2.2.1 9 rfl).trans hs9) (by omega) (by omega) (by omega) (by omega)) vl_X12_224 dX12_normalOf_172 o_164 rfl rfl (Nat.le_of_ble_eq_true rfl) ⟨(show (12 + 1 * r9) + 1 ≤ 12 + 1 * (r9 + 1) by omega), (show 8 + (4 + 11) + 40 * ((12 + 1 * r9)) ≤ 40 * (12 + 1 * (r9 + 1)) by omega)⟩ rfl rfl (Nat.le_of_ble_eq_true rfl) (Nat.le_of_ble_eq_true rfl) (fun r9 J_172 hq9 => ?_)
                  obtain ⟨z_172, rfl, hz_172, m_172, n_172, h_172, x_172⟩ := hq9
                  have p_172 : NP J_172 J 0 0 0 s m m_172 := (p_153).tr (n_172)
                  have q_172 := p_172.2.1
                  have u_172 := NP.fu (n_172)
                  have v_172 := NP.fu p_172
                  rw [k_153] at x_172
                  refine tz_istore (pc := 175) (L2 := [_, _, _, _, _, _, _, _]) dX12_normalOf_175 (by decide) rfl ?_
                  refine tz_aload_n (pc := 177) dX12_normalOf_177 rfl rfl ?_
                  refine tz_cV (pc := 178) (m_stopped hl n _) vl_X12_211 dX12_normalOf_178 o_164 rfl rfl (Nat.le_of_ble_eq_true rfl) ⟨(show 0 + 1 ≤ 12 + 1 * (r9 + 1) by omega), (show 8 + (1 + 11) + 40 * (0) ≤ 40 * (12 + 1 * (r9 + 1)) by omega)⟩ rfl rfl (Nat.le_of_ble_eq_true rfl) (Nat.le_of_ble_eq_true rfl) (fun r9 J_178 hq9 => ?_)
                  obtain ⟨y_178, rfl, hz_178, rfl, hs_178⟩ := hq9
                  refine tz_if_ne (pc := 181) (tgt := 191) dX12_normalOf_181 (by decide) (by omega) (fun h_181 => ?_) (fun h_181 => ?_)
                  · have n178 := ng_n hs_178 (by omega)
                    refine tz_iload (pc := 191) dX12_normalOf_191 rfl ?_
                    exact tz_iret (pc := 193) (z := z_172) dX12_normalOf_193 rfl (Nat.le_of_ble_eq_true rfl) (Nat.le_of_ble_eq_true rfl) ⟨Nat.le_refl _, Nat.le_add_right _ _⟩ ⟨_, rfl, (by omega), ⟨m_172, p_172, h_172, fun _ => (by rw [dn9]; exact NOC.m (noc_l hv9 e9 so_125 g135 (by rw [hs8]; omega) mk9 g159.1 (h_153 g159.1).1 x_172 (fun q8 => absurd q8 n178) rfl rfl) (by show _ ≤ 3 * nWT d9 + 8; have := nWT_0 d9; omega)), fun q9 => absurd gJ q9⟩⟩
                  · have g178 := ng_y hs_178 (by omega)
                    refine tz_aload_n (pc := 184) dX12_normalOf_184 rfl rfl ?_
                    refine tz_iload_n (pc := 185) dX12_normalOf_185 rfl rfl ?_
                    refine tz_iload (pc := 186) dX12_normalOf_186 rfl ?_
                    refine tz_cV (pc := 188) (x_memoGets hl n _ _ _ (by omega) (by omega) m_172 (p_172).1.2.2.1) vl_X12_218 dX12_normalOf_188 o_164 rfl rfl (Nat.le_of_ble_eq_true rfl) ⟨(show 1 + 1 ≤ 12 + 1 * (r9 + 1) by omega), (show 8 + (3 + 11) + 40 * (1) ≤ 40 * (12 + 1 * (r9 + 1)) by omega)⟩ rfl rfl (Nat.le_of_ble_eq_true rfl) (Nat.le_of_ble_eq_true rfl) (fun r9 J_188 hq9 => ?_)
                    obtain ⟨rfl, f5, e5⟩ := hq9
                    have m5 : MM (J_188 165) m_172 := by rw [e5]; exact (p_172).1.2.2.1.mg (by omega) (by omega)
                    have M5 := mmf_mg f5 e5 (p_172).1.2.2.1
                    have p_188 := (p_172).tr (NP.mmf (p_172).1 M5 m5)
                    have k_188 : J_188 164 = J_172 164 := f5 164 rfl
                    refine tz_iload (pc := 191) dX12_normalOf_191 rfl ?_
                    exact tz_iret (pc := 193) (z := z_172) dX12_normalOf_193 rfl (Nat.le_of_ble_eq_true rfl) (Nat.le_of_ble_eq_true rfl) ⟨Nat.le_refl _, Nat.le_add_right _ _⟩ ⟨_, rfl, (by omega), ⟨m_172, p_188, fun _ _ => h_172 g178.1 g178.2, fun _ => (by rw [dn9]; exact NOC.m (noc_l hv9 e9 so_125 g135 (by rw [hs8]; omega) mk9 g159.1 (h_153 g159.1).1 x_172 (fun _ => tb0_mg f5 e5 (mmb (p_172).1.2.2.1)) (by rw [k_188]) (by rw [k_188])) (by show _ ≤ 3 * nWT d9 + 8; have := nWT_0 d9; omega)), fun q9 => absurd gJ q9⟩⟩
                · have n159 := ng_n hs_159 (by omega)
                  refine tz_iconst (pc := 165) dX12_normalOf_165 ?_
                  refine tz_goto (pc := 166) (tgt := 175) dX12_normalOf_166 (by decide) ?_
                  refine tz_istore (pc := 175) (L2 := [_, _, _, _, _, _, _, _]) dX12_normalOf_175 (by decide) rfl ?_
                  refine tz_aload_n (pc := 177) dX12_normalOf_177 rfl rfl ?_
                  refine tz_cV (pc := 178) (m_stopped hl n _) vl_X12_211 dX12_normalOf_178 o_164 rfl rfl (Nat.le_of_ble_eq_true rfl) ⟨(show 0 + 1 ≤ 12 + 1 * (r9 + 1) by omega), (show 8 + (1 + 11) + 40 * (0) ≤ 40 * (12 + 1 * (r9 + 1)) by omega)⟩ rfl rfl (Nat.le_of_ble_eq_true rfl) (Nat.le_of_ble_eq_true rfl) (fun r9 J_178 hq9 => ?_)
                  obtain ⟨y_178, rfl, hz_178, rfl, hs_178⟩ := hq9
                  refine tz_if_neT (pc := 181) (tgt := 191) (by omega) dX12_normalOf_181 (by decide) (by omega) ?_
                  refine tz_iload (pc := 191) dX12_normalOf_191 rfl ?_
                  exact tz_iret (pc := 193) (z := 0) dX12_normalOf_193 rfl (Nat.le_of_ble_eq_true rfl) (Nat.le_of_ble_eq_true rfl) ⟨Nat.le_refl _, Nat.le_add_right _ _⟩ ⟨_, rfl, (by decide), ⟨m_153, p_153, fun q9 q8 => absurd ⟨q9, q8⟩ n159, fun _ => (by rw [dn9]; exact NOC.m (noc_f (J1 := J_125) hv9 e9 so_125 g135 (by rw [hs8]; omega) (by rw [← mk9]; exact fun q9 => n159 ⟨q9, by rw [k_153]; exact g135.2⟩) (fun q9 => n159 ⟨q9, by rw [k_153]; exact g135.2⟩) k_153) (by show _ ≤ 3 * nWT d9 + 8; have := nWT_0 d9; omega)), fun q9 => absurd gJ q9⟩⟩
              · have n135 := ng_n hs_135 (by omega)
                refine tz_iconst (pc := 141) dX12_normalOf_141 ?_
                refine tz_goto (pc := 142) (tgt := 156) dX12_normalOf_142 (by decide) ?_
                refine tz_istore (pc := 156) (L2 := [_, _, _, _, _, _, _, _]) dX12_normalOf_156 (by decide) rfl ?_
                refine tz_aload_n (pc := 158) dX12_normalOf_158 rfl rfl ?_
                refine tz_cV (pc := 159) (m_stopped hl n _) vl_X12_211 dX12_normalOf_159 o_164 rfl rfl (Nat.le_of_ble_eq_true rfl) ⟨(show 0 + 1 ≤ 12 + 1 * (r9 + 1) by omega), (show 8 + (1 + 11) + 40 * (0) ≤ 40 * (12 + 1 * (r9 + 1)) by omega)⟩ rfl rfl (Nat.le_of_ble_eq_true rfl) (Nat.le_of_ble_eq_true rfl) (fun r9 J_159 hq9 => ?_)
                obtain ⟨y_159, rfl, hz_159, rfl, hs_159⟩ := hq9
                refine tz_if_eqF (pc := 162) (tgt := 169) (by omega) dX12_normalOf_162 (by decide) (by omega) ?_
                refine tz_iconst (pc := 165) dX12_normalOf_165 ?_
                refine tz_goto (pc := 166) (tgt := 175) dX12_normalOf_166 (by decide) ?_
                refine tz_istore (pc := 175) (L2 := [_, _, _, _, _, _, _, _]) dX12_normalOf_175 (by decide) rfl ?_
                refine tz_aload_n (pc := 177) dX12_normalOf_177 rfl rfl ?_
                refine tz_cV (pc := 178) (m_stopped hl n _) vl_X12_211 dX12_normalOf_178 o_164 rfl rfl (Nat.le_of_ble_eq_true rfl) ⟨(show 0 + 1 ≤ 12 + 1 * (r9 + 1) by omega), (show 8 + (1 + 11) + 40 * (0) ≤ 40 * (12 + 1 * (r9 + 1)) by omega)⟩ rfl rfl (Nat.le_of_ble_eq_true rfl) (Nat.le_of_ble_eq_true rfl) (fun r9 J_178 hq9 => ?_)
                obtain ⟨y_178, rfl, hz_178, rfl, hs_178⟩ := hq9
                refine tz_if_neT (pc := 181) (tgt := 191) (by omega) dX12_normalOf_181 (by decide) (by omega) ?_
                refine tz_iload (pc := 191) dX12_normalOf_191 rfl ?_
                exact tz_iret (pc := 193) (z := 0) dX12_normalOf_193 rfl (Nat.le_of_ble_eq_true rfl) (Nat.le_of_ble_eq_true rfl) ⟨Nat.le_refl _, Nat.le_add_right _ _⟩ ⟨_, rfl, (by decide), ⟨m_125, p_125, fun q9 q8 => absurd ⟨q9, q8⟩ n135, fun _ => (by rw [dn9]; exact NOC.m (noc_s hv9 e9 so_125 n135 rfl rfl) (by show _ ≤ 3 * nWT d9 + 8; have := nWT_0 d9; omega)), fun q9 => absurd gJ q9⟩⟩
      · have gJ : NGO J := ng_y hs_1 (by omega)
        have hz18 := hz19.resolve_left (fun y => by have := y.1; omega)
        refine tz_aload_n (pc := 28) dX12_normalOf_28 rfl rfl ?_
        refine tz_fR (pc := 29) dX12_normalOf_29 fl_X12_9 r_164_0 ?_
        refine tz_bipush (pc := 32) dX12_normalOf_32 (by decide) ?_
        refine tz_iconst (pc := 34) dX12_normalOf_34 ?_
        refine tz_iload_n (pc := 35) dX12_normalOf_35 rfl rfl ?_
        refine tz_imul (pc := 36) (v := 2 * z_19) dX12_normalOf_36 rfl ?_
        refine tz_iadd (pc := 37) (v := 41 + (2 * z_19)) dX12_normalOf_37 rfl ?_
        refine tz_iconst (pc := 38) dX12_normalOf_38 ?_
        refine tz_iadd (pc := 39) (v := (41 + (2 * z_19)) + 1) dX12_normalOf_39 rfl ?_
        refine tz_aL (pc := 40) (z := ((41 + (2 * z_19)) + 1)) (v := (J 165 ((41 + (2 * z_19)) + 1))) dX12_normalOf_40 a_165 rfl (by omega) rfl (fun r_40 => ?_)
        have hu0 := hm.2.2 (2 * z_19 + 1) (by omega) (by omega)
        rw [show 41 + (2 * z_19 + 1) = 41 + 2 * z_19 + 1 by omega] at hu0
        generalize hu9 : J 165 (41 + 2 * z_19 + 1) = u at hu0 ⊢
        have hu : 0 ≤ u ∧ u < m := hu0
        refine tz_istore_n (pc := 41) (L2 := [_, _, _, _, _, _, _, _]) dX12_normalOf_41 rfl (by decide) rfl ?_
        refine tz_aload_n (pc := 42) dX12_normalOf_42 rfl rfl ?_
        refine tz_iload_n (pc := 43) dX12_normalOf_43 rfl rfl ?_
        refine tz_cV (pc := 44) (x_memoLoses hl n _ _ (by omega) m hm (by omega)) vl_X12_204 dX12_normalOf_44 o_164 rfl rfl (Nat.le_of_ble_eq_true rfl) ⟨(show 0 + 1 ≤ 12 + 1 * (r9 + 1) by omega), (show 8 + (3 + 11) + 40 * (0) ≤ 40 * (12 + 1 * (r9 + 1)) by omega)⟩ rfl rfl (Nat.le_of_ble_eq_true rfl) (Nat.le_of_ble_eq_true rfl) (fun r9 J_44 hq9 => ?_)
        obtain ⟨rfl, f4, e4⟩ := hq9
        have m4 : MM (J_44 165) m := by rw [e4]; exact hm.ml (by omega)
        have M4 := mmf_ml f4 e4 hm (by omega)
        refine tz_aload_n (pc := 47) dX12_normalOf_47 rfl rfl ?_
        refine tz_iload_n (pc := 48) dX12_normalOf_48 rfl rfl ?_
        refine tz_iload_n (pc := 49) dX12_normalOf_49 rfl rfl ?_
        refine tz_cV (pc := 50) (x_memoGets hl n _ _ _ (by omega) (by omega) m m4) vl_X12_218 dX12_normalOf_50 o_164 rfl rfl (Nat.le_of_ble_eq_true rfl) ⟨(show 1 + 1 ≤ 12 + 1 * (r9 + 1) by omega), (show 8 + (3 + 11) + 40 * (1) ≤ 40 * (12 + 1 * (r9 + 1)) by omega)⟩ rfl rfl (Nat.le_of_ble_eq_true rfl) (Nat.le_of_ble_eq_true rfl) (fun r9 J_50 hq9 => ?_)
        obtain ⟨rfl, f5, e5⟩ := hq9
        have m5 : MM (J_50 165) m := by rw [e5]; exact m4.mg ht hu
        have M5 := mmf_mg f5 e5 m4
        refine tz_aload_n (pc := 53) dX12_normalOf_53 rfl rfl ?_
        refine tz_fR (pc := 54) dX12_normalOf_54 fl_X12_9 r_164_0 ?_
        refine tz_bipush (pc := 57) dX12_normalOf_57 (by decide) ?_
        refine tz_dup2 (pc := 59) dX12_normalOf_59 rfl rfl ?_
        refine tz_aL (pc := 60) (z := 61) (v := (J_50 165 61)) dX12_normalOf_60 a_165 rfl (by decide) rfl (fun r_60 => ?_)
        refine tz_iconst (pc := 61) dX12_normalOf_61 ?_
        refine tz_iadd (pc := 62) (v := (J_50 165 61) + 1) dX12_normalOf_62 rfl ?_
        refine tz_tw ?_
        have rw_63 := zw_rg ((J_50 165 61) + 1)
        refine tz_aS (pc := 63) (z := 61) dX12_normalOf_63 a_165 rfl (by decide) (zw_rg _) ?_
        refine tz_iload_n (pc := 64) dX12_normalOf_64 rfl rfl ?_
        exact tz_iret (pc := 65) (z := u) dX12_normalOf_65 rfl (Nat.le_of_ble_eq_true rfl) (Nat.le_of_ble_eq_true rfl) ⟨Nat.le_refl _, Nat.le_add_right _ _⟩ ⟨_, rfl, (by omega), ⟨m, ((NP.mmf hN (M5.tr M4) m5)).tr (NP.hit (NP.mmf hN (M5.tr M4) m5).1), fun _ _ => hu, fun _ => NOC.m (noc_h (w := z_19) (m := m) ⟨by show J_50 164 21 = 0; rw [f5 164 rfl, f4 164 rfl]; omega, by show J_50 164 34 ≤ 100; rw [f5 164 rfl, f4 164 rfl]; omega⟩ (by rw [(hM.oa ht).1]; omega) hm (by omega) hz18.2.1 hz18.2.2 hu9 (zOf.up rfl (f5.tr f4)) (hit_e hm (by omega) hz18.2.1 hu9 (by rw [e5, e4]))) (nWT_0 _), fun q9 => absurd gJ q9⟩⟩

theorem x_normR {l : Launch} {G : tb_G} (hl : l.stackTraces = false) (n : Nat) : ∀ r9 : Nat, (∀ (J : zJ) (t : Int) (hr_t : -2147483648 ≤ t ∧ t < 2147483648) (s m : Int) (hN : NZ J 0 0 0 s m) (hs9 : J 164 9 = s) (ht : 0 ≤ t ∧ t < m), (7 * (100 - J 164 34) + J 168 (0 + t)).toNat < r9 → tz_Ok l G M_X12_normalOf (12 + 1 * r9) 0 0 [.ref 164, zi t] n J (zqi (fun z J' => ∃ m', NP J' J 0 0 0 s m m' ∧ (J' 164 21 = 0 → J' 164 34 ≤ 100 → 0 ≤ z ∧ z < m') ∧ IFN J (NOC (nWT (J 168 (0 + t)).toNat) (tb0 J) (J 164 34) t J' z) ∧ IFS J (J' 164 21 = J 164 21 ∧ J' 164 34 = J 164 34))) zN) ∧ (∀ (J : zJ) (t : Int) (hr_t : -2147483648 ≤ t ∧ t < 2147483648) (s m : Int) (hN : NZ J 0 0 0 s m) (hs9 : J 164 9 = s) (ht : 0 ≤ t ∧ t < m) (h0 : J 164 21 = 0) (h1 : J 164 34 ≤ 100), (7 * (100 - J 164 34)).toNat < r9 → tz_Ok l G M_X12_lessened (12 + 1 * r9) 0 0 [.ref 164, zi t] n J (zqi (fun z J' => ∃ m', NP J' J 0 0 0 s m m' ∧ (J' 164 21 = 0 → J' 164 34 ≤ 100 → 0 ≤ z ∧ z < m') ∧ LES (tb0 J) (J 164 34) t J' z)) zN) := by
  intro r9
  induction r9 with
  | zero => exact ⟨fun _ _ _ _ _ _ _ _ h => absurd h (Nat.not_lt_zero _), fun _ _ _ _ _ _ _ _ _ _ h => absurd h (Nat.not_lt_zero _)⟩
  | succ r9 ih => exact ⟨fun J t ht1 s m hN hs9 ht h => x_normS hl n J t ht1 s m r9 hN hs9 ht ih.1 ih.2 h, fun J t ht1 s m hN hs9 ht h0 h1 h => x_lessS hl n J t ht1 s m r9 hN hs9 ht h0 h1 ih.1 h⟩
theorem x_normal {l : Launch} {G : tb_G} (hl : l.stackTraces = false) (n : Nat) (J : zJ) (t : Int) (hr_t : -2147483648 ≤ t ∧ t < 2147483648) (s m : Int) (hN : NZ J 0 0 0 s m) (hs9 : J 164 9 = s) (ht : 0 ≤ t ∧ t < m) : tz_Ok l G M_X12_normalOf 730 0 0 [.ref 164, zi t] n J (zqi (fun z J' => ∃ m', NP J' J 0 0 0 s m m' ∧ (J' 164 21 = 0 → J' 164 34 ≤ 100 → 0 ≤ z ∧ z < m') ∧ IFN J (NOC (nWT (J 168 (0 + t)).toNat) (tb0 J) (J 164 34) t J' z) ∧ IFS J (J' 164 21 = J 164 21 ∧ J' 164 34 = J 164 34))) zN := (x_normR hl n 718).1 J t hr_t s m hN hs9 ht (by have := (hN.1.ar ht).2.2.1; have := hN.2.2.2; omega)
end
section
/-! ===== normalOf of the class: what its rows show of the machine ===== -/
theorem zof_sr {S : zJ} {f : Int → Int} : zOf (zbut [165]) (sr S f) S := fun c hc => by
  have h : ¬ c = 165 := fun e => by rw [e] at hc; cases hc
  exact if_neg h
theorem sr_5 {S : zJ} {f : Int → Int} : sr S f 165 = f := if_pos rfl
theorem sr_4 {S : zJ} {f : Int → Int} : sr S f 164 = S 164 := if_neg (by decide)
theorem A0.sr {J S : zJ} {f : Int → Int} (E : A0 J S) (h : f 0 = S 165 0) : A0 J (sr S f) := E.g (by rw [sr_5]; exact h) zof_sr
/-- the frames -/
def NFK (m : Int) (J : zJ) (σ : Int) : List NFr → Prop
  | [] => True
  | F :: K => ((0 ≤ F.1 ∧ F.1 < m) ∧ J 159 (K.length : Int) = F.1 ∧ J 160 (K.length : Int) = F.2.1 ∧ (F.2.1 < 4 → (0 < F.2.1 → J 161 ((K.length : Int) * 3) = F.2.2.1 ∧ 0 ≤ F.2.2.1) ∧ (1 < F.2.1 → J 161 ((K.length : Int) * 3 + 1) = F.2.2.2.1 ∧ 0 ≤ F.2.2.2.1) ∧ (2 < F.2.1 → J 161 ((K.length : Int) * 3 + 2) = F.2.2.2.2 ∧ 0 ≤ F.2.2.2.2)) ∧ (K.length : Int) + J 12 F.1 ≤ 6 * (σ + 1)) ∧ NFK m J σ K
theorem nfk_l {F : NFr} {K : List NFr} : (((F :: K).length : Nat) : Int) = (K.length : Int) + 1 := by
  rw [List.length_cons]
  omega
theorem NFK.of {m m' σ σ' : Int} {J' J : zJ} (l : m ≤ m') (s : σ ≤ σ') (e2 : ∀ t, 0 ≤ t → t < m → J' 12 t = J 12 t) : ∀ (K : List NFr), (∀ f, 0 ≤ f → f < (K.length : Int) → J' 159 f = J 159 f ∧ J' 160 f = J 160 f) → (∀ q, 0 ≤ q → q < (K.length : Int) * 3 → J' 161 q = J 161 q) → NFK m J σ K → NFK m' J' σ' K
  | [], _, _, _ => trivial
  | F :: K, e, e1, ⟨⟨a, b, c, d, x⟩, r⟩ => by
    have hl := nfk_l (F := F) (K := K)
    have q := e (K.length : Int) (by omega) (by omega)
    refine ⟨⟨⟨a.1, by omega⟩, q.1.trans b, q.2.trans c, fun y => ?_, ?_⟩, NFK.of l s e2 K (fun f p r => e f p (by omega)) (fun f p r => e1 f p (by omega)) r⟩
    · obtain ⟨d0, d1, d2⟩ := d y
      exact ⟨fun w => ⟨(e1 _ (by omega) (by omega)).trans (d0 w).1, (d0 w).2⟩, fun w => ⟨(e1 _ (by omega) (by omega)).trans (d1 w).1, (d1 w).2⟩, fun w => ⟨(e1 _ (by omega) (by omega)).trans (d2 w).1, (d2 w).2⟩⟩
    · rw [e2 _ a.1 a.2]; omega
theorem NFK.fr {m m' σ σ' : Int} {J' J : zJ} {K : List NFr} (r : NFK m J σ K) (l : m ≤ m') (s : σ ≤ σ') (e2 : ∀ t, 0 ≤ t → t < m → J' 12 t = J 12 t) (e : ∀ f, 0 ≤ f → f < (K.length : Int) → J' 159 f = J 159 f ∧ J' 160 f = J 160 f) (e1 : ∀ q, 0 ≤ q → q < (K.length : Int) * 3 → J' 161 q = J 161 q) : NFK m' J' σ' K := NFK.of l s e2 K e e1 r
/-- the class is where the machine is -/
def NSH (m : Int) (J S : zJ) (σ : Int) (K : List NFr) : Prop := (A0 J S ∧ RW (J 19) (S 165) ∧ S 164 21 = 0 ∧ S 165 40 ≤ S 165 39) ∧ (J 158 8 = 100 - σ ∧ 0 ≤ σ ∧ σ ≤ 100) ∧ J 158 7 = (K.length : Int) ∧ NFK m J σ K
def NCG (m : Int) (J : zJ) (z : Int) (c : NCf) : Prop := (((c.2.2 = -1 ∧ ∃ F K, c.2.1 = F :: K ∧ F.2.1 < 4) ∨ 0 ≤ c.2.2) ∧ z = c.2.2 ∧ NSH m J c.1.1 c.1.2 c.2.1) ∨ (c.2.1 = [] ∧ ((c.2.2 = -3 ∧ z = -3) ∨ (c.2.2 = -4 ∧ z = -2)))
theorem NSH.as {m : Int} {J' J S' S : zJ} {σ : Int} {K : List NFr} (N : NSH m J S σ K) (f : zOf (zbut [19, 140]) J' J) (E : A0 J' S') (W : RW (J' 19) (S' 165)) (q : S' 164 21 = 0) (r : S' 165 40 ≤ S' 165 39) : NSH m J' S' σ K :=
  ⟨⟨E, W, q, r⟩, by rw [f 158 rfl]; exact N.2.1, by rw [f 158 rfl]; exact N.2.2.1, NFK.of (Int.le_refl _) (Int.le_refl _) (fun t _ _ => by rw [f 12 rfl]) K (fun q _ _ => by rw [f 159 rfl, f 160 rfl]; exact ⟨rfl, rfl⟩) (fun q _ _ => by rw [f 161 rfl]) N.2.2.2⟩
theorem z19f {J' J S : zJ} (E : A0 J S) (f : zOf (zbut [19, 140]) J' J) : A0 J' S := E.f (fun c hc => f c (by rcases hc with h | h | h | h | h | h | h | h | h <;> (rw [h]; rfl)))
theorem z19m {J' J : zJ} (f : zOf (zbut [19]) J' J) : zOf (zbut [19, 140]) J' J := f.mono (zbut_sub (fun c hc => by simp at hc ⊢; omega))
theorem NSH.c140 {m : Int} {J' J S : zJ} {σ : Int} {K : List NFr} (N : NSH m J S σ K) (f : zOf (zbut [140]) J' J) : NSH m J' S σ K := N.as (f.mono (zbut_sub (fun c hc => by simp at hc ⊢; omega))) (z19f N.1.1 (f.mono (zbut_sub (fun c hc => by simp at hc ⊢; omega)))) (by rw [f 19 rfl]; exact N.1.2.1) N.1.2.2.1 N.1.2.2.2
theorem NSH.made {m m' : Int} {J' J S' S : zJ} {σ : Int} {K : List NFr} (N : NSH m J S σ K) (g : GR J' J m m') (E : A0 J' S') (h5 : ∀ k, ¬ k = 0 → S' 165 k = S 165 k) (q : S' 164 21 = 0) (l : LI (J 19) m) : NSH m' J' S' σ K :=
  ⟨⟨E, by rw [g.2.2.2.2 19 rfl]; exact N.1.2.1.to l (fun k a b => h5 k (by omega)), q, by rw [h5 40 (by decide), h5 39 (by decide)]; exact N.1.2.2.2⟩, by rw [g.2.2.2.2 158 rfl]; exact N.2.1, by rw [g.2.2.2.2 158 rfl]; exact N.2.2.1, NFK.of g.1 (Int.le_refl _) (fun t a b => (g.2.2.2.1.1 t a b).2.2.2.2.1) K (fun q _ _ => by rw [g.2.2.2.2 159 rfl, g.2.2.2.2 160 rfl]; exact ⟨rfl, rfl⟩) (fun q _ _ => by rw [g.2.2.2.2 161 rfl]) N.2.2.2⟩
theorem ncg_v {m σ t : Int} {J S : zJ} {K : List NFr} (N : NSH m J S σ K) (C : CT J m) (hm : J 6 12 = m) (ht : 0 ≤ t ∧ t < m) (hv : J 7 t < 0) : NCG m J t (nOP S σ K t) := by
  unfold nOP
  rw [if_pos (by rw [(N.1.1.tm C hm ht).1]; exact hv)]
  exact Or.inl ⟨Or.inr ht.1, rfl, N⟩
theorem mhO_r {h : Int → Int} {w : Int} (r : h 40 ≤ h 39 ∧ h 39 ≤ 9) (hw : 0 ≤ w ∧ w < h 40) : mhO h w 40 ≤ mhO h w 39 ∧ mhO h w 0 = h 0 := by
  have a : ∀ k : Int, ¬ k = 61 → (fun k : Int => if k = 61 then zw (h 61 + 1) else h k) k = h k := fun k q => if_neg q
  have m40 : mlO (fun k : Int => if k = 61 then zw (h 61 + 1) else h k) w 40 = h 40 - 1 := (if_pos rfl : mlO (fun k : Int => if k = 61 then zw (h 61 + 1) else h k) w 40 = (fun k : Int => if k = 61 then zw (h 61 + 1) else h k) 40 - 1).trans (by rw [a 40 (by decide)])
  have e40 : mhO h w 40 = h 40 := by
    show maO (mlO (fun k : Int => if k = 61 then zw (h 61 + 1) else h k) w) _ _ 40 = _
    have : maO (mlO (fun k : Int => if k = 61 then zw (h 61 + 1) else h k) w) (h (41 + 2 * w)) (h (41 + 2 * w + 1)) 40 = mlO (fun k : Int => if k = 61 then zw (h 61 + 1) else h k) w 40 + 1 := if_pos rfl
    rw [this, m40]
    omega
  have o : ∀ k : Int, k < 40 → mhO h w k = h k := fun k q => by
    show maO (mlO (fun k : Int => if k = 61 then zw (h 61 + 1) else h k) w) _ _ k = _
    rw [maO_o (Or.inl q) (by rw [m40]; omega), mlO_o (Or.inl q) ⟨hw.1, by rw [if_neg (show ¬ (40 : Int) = 61 by decide)]; omega⟩]
    exact a k (by omega)
  rw [e40, o 39 (by decide), o 0 (by decide)]
  exact ⟨r.1, rfl⟩
theorem mgO_r {h : Int → Int} {t z : Int} (r : 0 ≤ h 40 ∧ h 40 ≤ h 39 ∧ h 39 ≤ 9) : mgO h t z 40 ≤ mgO h t z 39 := by
  rw [mgO_o (k := 39) (Or.inl (by decide)) r]
  unfold mgO
  by_cases a : h 39 = 0
  · rw [if_pos a]; exact r.2.1
  · rw [if_neg a]
    by_cases c : h 40 = h 39
    · rw [if_pos c]
      show mlO h 0 40 + 1 ≤ h 39
      have e40 : mlO h 0 40 = h 40 - 1 := if_pos rfl
      rw [e40]
      omega
    · rw [if_neg c]
      show h 40 + 1 ≤ h 39
      omega
theorem RW.r9 {f h : Int → Int} {m : Int} (W : RW f h) (l : LI f m) : 0 ≤ h 40 ∧ h 39 ≤ 9 := by
  have a := W.1.1
  have b := W.2.2.2.1.1
  have c := l.1
  omega
theorem ncg_m {m σ t i z : Int} {J' J S : zJ} {K : List NFr} (N : NSH m J S σ K) (C : CT J m) (hm : J 6 12 = m) (hL : LI (J 19) m) (ht : 0 ≤ t ∧ t < m) (hv : ¬ J 7 t < 0) (hi : 0 ≤ i ∧ i < J 19 6 ∧ J 19 (43 + i) = t) (hn : ∀ q, 0 ≤ q → q < i → ¬ J 19 (43 + q) = t) (hz : J 19 (52 + i) = z) (e : zaM (zdM (zup J 19 2 (zw (J 19 2 + 1))) i) t z = J') : NCG m J' z (nOP S σ K t) := by
  have W := N.1.2.1
  have b := W.b hL
  have r9 := W.r9 hL
  have d := W.2.2.2.1
  have di := d.2 i hi.1 (by omega)
  have hz0 := (hL.2.2.2.2 i hi.1 hi.2.1).2
  have a9 : mAt S t = i := mAt_y ⟨hi.1, by omega⟩ (di.1.symm.trans hi.2.2) (fun q a b => by rw [← (d.2 q a (by omega)).1]; exact hn q a b)
  have f : zOf (zbut [19]) J' J := by rw [← e]; exact zof_aM.tr (zof_dM.tr (zOf.up rfl zOf.rf))
  have W' := W.mh b (w := i) ⟨hi.1, by omega⟩
  rw [hi.2.2, hz, e] at W'
  have hr := mhO_r (h := S 165) (w := i) ⟨N.1.2.2.2, r9.2⟩ ⟨hi.1, by omega⟩
  unfold nOP
  rw [if_neg (by rw [(N.1.1.tm C hm ht).1]; exact hv), a9, if_neg (by omega)]
  refine Or.inl ⟨Or.inr (by show 0 ≤ S 165 (41 + 2 * i + 1); rw [← di.2]; exact hz0.1), hz.symm.trans di.2, ?_⟩
  exact N.as (z19m f) ((z19f N.1.1 (z19m f)).sr hr.2) (show RW (J' 19) (sr S (mhO (S 165) i) 165) by rw [sr_5]; exact W') (show sr S (mhO (S 165) i) 164 21 = 0 by rw [sr_4]; exact N.1.2.2.1) (show sr S (mhO (S 165) i) 165 40 ≤ sr S (mhO (S 165) i) 165 39 by rw [sr_5]; exact hr.1)
theorem ncg_p {m σ t : Int} {J S : zJ} {K : List NFr} (N : NSH m J S σ K) (C : CT J m) (hm : J 6 12 = m) (ht : 0 ≤ t ∧ t < m) (hv : ¬ J 7 t < 0) (hL : LI (J 19) m) (hn : ∀ i, 0 ≤ i → i < J 19 6 → ¬ J 19 (43 + i) = t) (hk : (K.length : Int) + J 12 t ≤ 6 * (σ + 1)) : NCG m (zup (zup (zup J 159 (J 158 7) t) 160 (J 158 7) 0) 158 7 (J 158 7 + 1)) (-1) (nOP S σ K t) := by
  have W := N.1.2.1
  have b := W.b hL
  have d := W.2.2.2.1
  have h7 := N.2.2.1
  rw [h7]
  have a9 : mAt S t = S 165 40 := mAt_n b.2.2.1 (fun q a c => by rw [← (d.2 q a c).1]; exact hn q a (by omega))
  rw [nop_f (by rw [(N.1.1.tm C hm ht).1]; exact hv) a9]
  refine Or.inl ⟨Or.inl ⟨rfl, _, _, rfl, (by decide : (0 : Int) < 4)⟩, rfl, ⟨N.1.1.f (fun c hc => by rcases hc with h | h | h | h | h | h | h | h | h <;> (rw [h]; rfl)), N.1.2.1, N.1.2.2⟩, N.2.1, ?_, ⟨⟨ht, (zup_at : zup J 159 (K.length : Int) t 159 (K.length : Int) = t), (zup_at : zup (zup J 159 (K.length : Int) t) 160 (K.length : Int) 0 160 (K.length : Int) = 0), fun _ => ⟨fun w => absurd w (by show ¬ (0 : Int) < 0; decide), fun w => absurd w (by show ¬ (1 : Int) < 0; decide), fun w => absurd w (by show ¬ (2 : Int) < 0; decide)⟩, hk⟩, ?_⟩⟩
  · show zup _ 158 7 ((K.length : Int) + 1) 158 7 = _
    rw [zup_at, nfk_l]
  · refine NFK.fr N.2.2.2 (Int.le_refl _) (Int.le_refl _) (fun t _ _ => rfl) (fun q a c => ?_) (fun q _ _ => rfl)
    exact ⟨(zup_ne (by omega) : zup J 159 (K.length : Int) t 159 q = J 159 q), (zup_ne (by omega) : zup J 160 (K.length : Int) 0 160 q = J 160 q)⟩
theorem NSH.close {m σ v : Int} {J S : zJ} {F : NFr} {K : List NFr} (N : NSH m J S σ (F :: K)) (hL : LI (J 19) m) : NSH m (zup (zrM J (J 159 (K.length : Int)) v) 158 7 (K.length : Int)) (sr S (mgO (S 165) F.1 v)) σ K := by
  have W := N.1.2.1
  have b := W.b hL
  have r9 := W.r9 hL
  have f : zOf (zbut [19]) (zrM J (J 159 (K.length : Int)) v) J := zof_rM
  have e9 := N.2.2.2.1.2.1
  rw [e9] at f ⊢
  refine ⟨⟨?_, ?_, by rw [sr_4]; exact N.1.2.2.1, by rw [sr_5]; exact mgO_r ⟨r9.1, N.1.2.2.2, r9.2⟩⟩, ?_, zup_at, ?_⟩
  · exact ((z19f N.1.1 (z19m f)).sr (mgO_o (Or.inl (by decide)) ⟨r9.1, N.1.2.2.2, r9.2⟩)).f (fun c hc => by rcases hc with h | h | h | h | h | h | h | h | h <;> (rw [h]; rfl))
  · rw [sr_5]
    show RW (zrM J F.1 v 19) _
    exact W.mg b ⟨N.1.2.2.2, r9.2⟩
  · have e : zup (zrM J F.1 v) 158 7 (K.length : Int) 158 8 = J 158 8 := (zup_ne (by decide)).trans (congrFun (f 158 rfl) 8)
    rw [e]; exact N.2.1
  · refine NFK.fr N.2.2.2.2 (Int.le_refl _) (Int.le_refl _) (fun t _ _ => ?_) (fun q _ _ => ⟨?_, ?_⟩) (fun q _ _ => ?_)
    · exact congrFun (f 12 rfl) t
    · exact congrFun (f 159 rfl) q
    · exact congrFun (f 160 rfl) q
    · exact congrFun (f 161 rfl) q
theorem NSH.part {m σ v s : Int} {J S : zJ} {F : NFr} {K : List NFr} (N : NSH m J S σ (F :: K)) (hs : F.2.1 = s) (h3 : 0 ≤ s ∧ s < 3) (hv : 0 ≤ v) : NSH m (zup (zup J 161 ((K.length : Int) * 3 + s) v) 160 (K.length : Int) (s + 1)) S σ ((F.1, s + 1, if s = 0 then v else F.2.2.1, if s = 1 then v else F.2.2.2.1, if s = 2 then v else F.2.2.2.2) :: K) := by
  obtain ⟨N1, N2, N3, ⟨a, b, c, d, x⟩, r⟩ := N
  rw [hs] at c d
  refine ⟨⟨N1.1.f (fun c hc => by rcases hc with h | h | h | h | h | h | h | h | h <;> (rw [h]; rfl)), N1.2⟩, N2, N3, ⟨a, b, zup_at, fun y => ?_, x⟩, ?_⟩
  · obtain ⟨d0, d1, d2⟩ := d (by omega)
    have e1 : ∀ k, zup (zup J 161 ((K.length : Int) * 3 + s) v) 160 (K.length : Int) (s + 1) 161 k = if k = (K.length : Int) * 3 + s then v else J 161 k := fun k => rfl
    rw [e1, e1, e1]
    refine ⟨fun w => ?_, fun w => ?_, fun w => ?_⟩
    · show _ = (if s = 0 then v else F.2.2.1) ∧ 0 ≤ (if s = 0 then v else F.2.2.1)
      have w : 0 < s + 1 := w
      by_cases q : s = 0
      · rw [if_pos (by omega), if_pos q]; exact ⟨rfl, hv⟩
      · rw [if_neg (by omega), if_neg q]; exact d0 (by omega)
    · show _ = (if s = 1 then v else F.2.2.2.1) ∧ 0 ≤ (if s = 1 then v else F.2.2.2.1)
      have w : 1 < s + 1 := w
      by_cases q : s = 1
      · rw [if_pos (by omega), if_pos q]; exact ⟨rfl, hv⟩
      · rw [if_neg (by omega), if_neg q]; exact d1 (by omega)
    · show _ = (if s = 2 then v else F.2.2.2.2) ∧ 0 ≤ (if s = 2 then v else F.2.2.2.2)
      have w : 2 < s + 1 := w
      by_cases q : s = 2
      · rw [if_pos (by omega), if_pos q]; exact ⟨rfl, hv⟩
      · omega
  · refine NFK.fr r (Int.le_refl _) (Int.le_refl _) (fun t _ _ => rfl) (fun q a c => ⟨rfl, (zup_ne (by omega) : zup J 160 (K.length : Int) (s + 1) 160 q = J 160 q)⟩) (fun q a c => (zup_ne (by omega) : zup J 161 ((K.length : Int) * 3 + s) v 161 q = J 161 q))
theorem RW.st {f h : Int → Int} (W : RW f h) (b : (0 ≤ h 9 ∧ h 9 ≤ 8) ∧ (0 ≤ h 26 ∧ h 26 ≤ 12) ∧ (0 ≤ h 40 ∧ h 40 ≤ 9)) : RW (fun k => if k = 3 then zw (f 3 + 1) else f k) (fun k => if k = 62 then zw (h 62 + 1) else h k) := by
  obtain ⟨⟨a1, a2, a3⟩, ⟨b1, b2⟩, ⟨c1, c2⟩, ⟨d1, d2⟩, v⟩ := W
  unfold RW
  dsimp only
  refine ⟨⟨a1, a2, ?_⟩, ⟨b1, fun i p q => ?_⟩, ⟨c1, fun i p q => ?_⟩, ⟨d1, fun i p q => ?_⟩, fun i p q => ?_⟩
  · rw [if_pos rfl, if_pos rfl, a3]
  · have q' : i < h 9 := q
    have := b2 i p q'
    rw [if_neg (by omega), if_neg (by omega), if_neg (by omega), if_neg (by omega)]; exact this
  · have q' : i < h 26 := q
    rw [if_neg (by omega), if_neg (by omega)]; exact c2 i p q'
  · have q' : i < h 40 := q
    have := d2 i p q'
    rw [if_neg (by omega), if_neg (by omega), if_neg (by omega), if_neg (by omega)]; exact this
  · rw [if_neg (by omega), if_neg (by omega)]; exact v i p q
theorem NSH.step {m σ : Int} {J S : zJ} {F : NFr} {K : List NFr} (N : NSH m J S σ (F :: K)) (hL : LI (J 19) m) (hσ : σ < 100) : NSH m (zup (zup (zup J 158 8 (J 158 8 - 1)) 19 3 (zw (J 19 3 + 1))) 160 (K.length : Int) 4) (zup S 165 62 (zw (S 165 62 + 1))) (σ + 1) ((F.1, 4, F.2.2) :: K) := by
  obtain ⟨N1, N2, N3, ⟨a, b, c, d, x⟩, r⟩ := N
  have bb := N1.2.1.b hL
  have e5 : ∀ k, ¬ k = 62 → zup S 165 62 (zw (S 165 62 + 1)) 165 k = S 165 k := fun k q => zup_ne q
  refine ⟨⟨(N1.1.r5 (q := 62) (by decide)).f (fun c hc => by rcases hc with h | h | h | h | h | h | h | h | h <;> (rw [h]; rfl)), N1.2.1.st bb, N1.2.2.1, by rw [e5 40 (by decide), e5 39 (by decide)]; exact N1.2.2.2⟩, ⟨?_, by omega, by omega⟩, N3, ⟨a, b, zup_at, fun y => absurd y (by show ¬ (4 : Int) < 4; decide), by show (K.length : Int) + J 12 F.1 ≤ _; omega⟩, ?_⟩
  · show zup J 158 8 (J 158 8 - 1) 158 8 = _
    rw [zup_at]; omega
  · refine NFK.fr r (Int.le_refl _) (by omega) (fun t _ _ => rfl) (fun q a c => ⟨rfl, (zup_ne (by omega) : zup J 160 (K.length : Int) 4 160 q = J 160 q)⟩) (fun q a c => rfl)
theorem st_arg {m σ : Int} {J S : zJ} {F : NFr} {K : List NFr} (N : NSH m J S σ (F :: K)) (C : CT J m) (hm : J 6 12 = m) (h0 : 0 ≤ J 160 (K.length : Int)) (h : J 160 (K.length : Int) < J 8 (J 159 (K.length : Int))) : nST ((S, σ), F :: K, -1) = nOP S σ (F :: K) (J 9 (J 159 (K.length : Int) * 3 + J 160 (K.length : Int))) := by
  obtain ⟨a, b, c, d, x⟩ := N.2.2.2.1
  rw [c] at h0
  rw [b, c] at h ⊢
  obtain ⟨t1, t2, t3⟩ := N.1.1.tm C hm a
  rw [nST_s, if_pos rfl, if_pos (by show F.2.1 < mar S 0 0 F.1; rw [t2]; exact h)]
  show nOP S σ (F :: K) (S 167 (3 * (0 + F.1) + F.2.1)) = _
  rw [t3 _ h0 h]
theorem st_md {m σ : Int} {J S : zJ} {F : NFr} {K : List NFr} (N : NSH m J S σ (F :: K)) (C : CT J m) (hm : J 6 12 = m) (h : ¬ J 160 (K.length : Int) < J 8 (J 159 (K.length : Int))) : nST ((S, σ), F :: K, -1) = nMD (tmO S (J 7 (J 159 (K.length : Int))) F.2.2.1 F.2.2.2.1 F.2.2.2.2) σ K F := by
  obtain ⟨a, b, c, d, x⟩ := N.2.2.2.1
  rw [b, c] at h
  rw [b]
  obtain ⟨t1, t2, t3⟩ := N.1.1.tm C hm a
  rw [nST_s, if_pos rfl, if_neg (by show ¬ F.2.1 < mar S 0 0 F.1; rw [t2]; exact h)]
  show nMD (tmO S (S 166 (0 + F.1)) _ _ _) σ K F = _
  rw [t1]
theorem ncg_c {m σ v : Int} {J S : zJ} {F : NFr} {K : List NFr} (N : NSH m J S σ (F :: K)) (hL : LI (J 19) m) (hv : 0 ≤ v) (h4 : 3 ≤ J 160 (K.length : Int)) : NCG m (zup (zrM J (J 159 (K.length : Int)) v) 158 7 (K.length : Int)) v (nST ((S, σ), F :: K, v)) := by
  have c := N.2.2.2.1.2.2.1
  rw [nST_s, if_neg (by omega), if_pos (by omega)]
  exact Or.inl ⟨Or.inr hv, rfl, N.close hL⟩
theorem ncg_h {m σ v : Int} {J S : zJ} {F : NFr} {K : List NFr} (N : NSH m J S σ (F :: K)) (hv : 0 ≤ v) (h0 : 0 ≤ J 160 (K.length : Int)) (h4 : J 160 (K.length : Int) < 3) : NCG m (zup (zup J 161 ((K.length : Int) * 3 + J 160 (K.length : Int)) v) 160 (K.length : Int) (J 160 (K.length : Int) + 1)) (-1) (nST ((S, σ), F :: K, v)) := by
  have c := N.2.2.2.1.2.2.1
  rw [nST_s, if_neg (by omega), if_neg (by omega), c]
  exact Or.inl ⟨Or.inl ⟨rfl, _, _, rfl, by show F.2.1 + 1 < 4; omega⟩, rfl, N.part rfl (by omega) hv⟩
theorem ncg_go {m z : Int} {J : zJ} {c : NCf} (h : NCG m J z c) (hz : z = -1) : ∃ S σ F K, c = ((S, σ), F :: K, -1) ∧ F.2.1 < 4 ∧ NSH m J S σ (F :: K) := by
  obtain ⟨⟨S, σ⟩, L, w⟩ := c
  rcases h with ⟨a, b, N⟩ | ⟨a, b | b⟩
  · have b' : z = w := b
    have w1 : w = -1 := by omega
    rcases a with ⟨a1, F, K, a2, a3⟩ | a1
    · have a2' : L = F :: K := a2
      subst a2' w1
      exact ⟨S, σ, F, K, rfl, a3, N⟩
    · have a1' : 0 ≤ w := a1
      omega
  · have := b.2; omega
  · have := b.2; omega
theorem ncg_ha {m z : Int} {J : zJ} {c : NCf} (h : NCG m J z c) (hz : 0 ≤ z) (h7 : 0 < J 158 7) : ∃ S σ F K, c = ((S, σ), F :: K, z) ∧ NSH m J S σ (F :: K) := by
  obtain ⟨⟨S, σ⟩, L, w⟩ := c
  rcases h with ⟨a, b, N⟩ | ⟨a, b | b⟩
  · have b' : z = w := b
    subst b'
    cases L with
    | nil =>
      have := N.2.2.1
      have e : J 158 7 = 0 := this
      omega
    | cons F K => exact ⟨S, σ, F, K, rfl, N⟩
  · have := b.2; omega
  · have := b.2; omega
theorem nIT_s2 {n : Nat} {c : NCf} : nIT (n + 1) c = nST (nIT n c) := by
  rw [nIT_add, nIT_1]
theorem ncg_end {m z k : Int} {J : zJ} {c0 : NCf} (h : NCG m J z (nIT k.toNat c0)) (hk : 0 ≤ k ∧ k ≤ 1000000) (he : J 158 7 ≤ 0 ∨ k = 1000000 ∨ z < -1) (f1 : (nIT 1000000 c0).2.1 = []) : NCG m J z (nIT 1000000 c0) ∧ ¬ z = -1 := by
  have e : nIT 1000000 c0 = nIT (1000000 - k.toNat) (nIT k.toNat c0) := by rw [← nIT_add, show k.toNat + (1000000 - k.toNat) = 1000000 by omega]
  have st : (nIT k.toNat c0).2.1 = [] → nIT 1000000 c0 = nIT k.toNat c0 := fun q => by
    rw [e]
    generalize nIT k.toNat c0 = c at q ⊢
    obtain ⟨Q, L, w⟩ := c
    have q' : L = [] := q
    subst q'
    exact nIT_e _ _ _
  have nn : (nIT k.toNat c0).2.1 = [] → NCG m J z (nIT 1000000 c0) ∧ ¬ z = -1 := fun q => by
    refine ⟨by rw [st q]; exact h, fun w => ?_⟩
    obtain ⟨S, σ, F, K, e9, _⟩ := ncg_go h w
    rw [e9] at q
    cases q
  rcases h with ⟨a, b, N⟩ | ⟨a, b⟩
  · rcases he with h7 | h7 | h7
    · refine nn ?_
      have l := N.2.2.1
      cases hL : (nIT k.toNat c0).2.1 with
      | nil => rfl
      | cons F K =>
        rw [hL, nfk_l] at l
        omega
    · have e7 : k.toNat = 1000000 := by omega
      exact nn (by rw [e7]; exact f1)
    · rcases a with ⟨a, _⟩ | a <;> omega
  · exact nn a
/-- a rule's step -/
theorem ncg_r {m9 m7 σ k t z : Int} {J4 J7 J' : zJ} {M : zJ × Int} {F : NFr} {K : List NFr} (h21 : M.1 164 21 = 0) (N : NSH m9 J4 (zup M.1 165 62 (zw (M.1 165 62 + 1))) (σ + 1) ((F.1, 4, F.2.2) :: K)) (hL : LI (J4 19) m9) (hf : nFR M.1 M.2 = k ∧ k < M.1 165 9) (hσ : σ < 100) (hK : (K.length : Int) + 1 ≤ 6 * (σ + 1)) (g : GR J7 J4 m9 m7) (o : EXO (nRT M.1 M.2 k) t J7) (hd : 0 ≤ t → J7 12 t ≤ 6) (x : 0 ≤ t → NSH m7 J7 (nRT M.1 M.2 k).1 (σ + 1) ((F.1, 4, F.2.2) :: K) → ((((F.1, 4, F.2.2) :: K : List NFr).length : Nat) : Int) + J7 12 t ≤ 6 * (σ + 1 + 1) → NCG m7 J' z (nOP (nRT M.1 M.2 k).1 (σ + 1) ((F.1, 4, F.2.2) :: K) t)) (y : t = -3 → z = -3) : NCG m7 J' z (nMD M σ K F) := by
  rw [nmd_u (k := k) h21 hf.1 hf.2]
  rcases o with ⟨o1, o2⟩ | ⟨o1, o2, o3, o4⟩
  · rw [nRU_f (by omega) o2]
    exact Or.inr ⟨rfl, Or.inl ⟨rfl, y o1⟩⟩
  · rw [nRU_o (by omega) o2, ← o4]
    refine x o1 (N.made g o3 (fun q hq => ?_) o2 hL) (by rw [nfk_l]; have := hd o1; omega)
    exact apO_5 6 _ _ q hq
theorem x7_o {J4 J7 : zJ} {M : zJ × Int} {k t z : Int} (x : ∀ (S : zJ) (β : Int → Int), (∀ v, 0 ≤ v → v < 8 → β v = J4 140 (0 + v)) → S 164 21 = 0 → A0 J4 S → EXO (apO β 6 S t) z J7) (h21 : M.1 164 21 = 0) (E : A0 J4 (zup M.1 165 62 (zw (M.1 165 62 + 1)))) (s : sgA (J4 140) (omt M.1 (M.1 165 (10 + 2 * k)) M.2).2) (et : t = M.1 165 (10 + 2 * k + 1)) : EXO (nRT M.1 M.2 k) z J7 := by
  subst et
  exact x _ _ (fun v a c => by rw [Int.zero_add]; exact (s v a c).symm) h21 E
end
section
/-! ===== normalOf of the class, exact ===== -/
set_option maxHeartbeats 4000000 in
set_option maxRecDepth 100000 in
theorem x_opened {l : Launch} {G : tb_G} (hl : l.stackTraces = false) (n : Nat) (J : zJ) (t : Int) (hr_t : -2147483648 ≤ t ∧ t < 2147483648) (m : Int) (S : zJ) (σ : Int) (K : List NFr) (C : CT J m) (hm : J 6 12 = m) (hL : LI (J 19) m) (hF : FR J m) (ht : t = -3 ∨ (0 ≤ t ∧ t < m)) (hk9 : J 158 7 < 612) : tz_Ok l G M_X6_opened 2 0 0 [.ref 158, zi t] n J (zqi (fun z J' => WR J' J m m ∧ (-3 ≤ z ∧ z < m) ∧ (0 ≤ t → NSH m J S σ K → (K.length : Int) + J 12 t ≤ 6 * (σ + 1) → NCG m J' z (nOP S σ K t)) ∧ (t = -3 → z = -3))) zN := by
  refine tz_Ok.of hl (by decide +kernel) rfl (tb_c1 rfl) (Nat.le_of_ble_eq_true rfl) ?_
  show tz_At l G M_X6_opened (tb_rm 2 0 0) none (tb_ZM G 0 0 (zQ n 0 (zqi (fun z J' => WR J' J m m ∧ (-3 ≤ z ∧ z < m) ∧ (0 ≤ t → NSH m J S σ K → (K.length : Int) + J 12 t ≤ 6 * (σ + 1) → NCG m J' z (nOP S σ K t)) ∧ (t = -3 → z = -3)))) (zX n 0 zN)) 0 0 n J 0 [some (.ref 158), some (zi t), none] []
  have hb := C.told
  have h7 := hF.1
  have h6 := hL.1.2.2.2
  refine tz_iload_n (pc := 0) dX6_opened_0 rfl rfl ?_
  refine tz_if_lt (pc := 1) (tgt := 15) dX6_opened_1 (by decide) (by omega) (fun h_1 => ?_) (fun h_1 => ?_)
  · refine tz_iload_n (pc := 15) dX6_opened_15 rfl rfl ?_
    exact tz_iret (pc := 16) (z := t) dX6_opened_16 rfl (Nat.le_of_ble_eq_true rfl) (Nat.le_of_ble_eq_true rfl) ⟨Nat.le_refl _, Nat.le_add_right _ _⟩ ⟨_, rfl, (by omega), (by first | exact ⟨(WR.rf C hm hL hF), by omega, fun q _ _ => absurd q (by omega), fun _ => by omega⟩ | exact ⟨(WR.rf C hm hL hF), by omega, fun _ N _ => ncg_v N C hm (by omega) (by omega), fun _ => by omega⟩)⟩
  · refine tz_aload_n (pc := 4) dX6_opened_4 rfl rfl ?_
    refine tz_fR (pc := 5) dX6_opened_5 fl_X6_38 r_158_1 ?_
    refine tz_iload_n (pc := 8) dX6_opened_8 rfl rfl ?_
    refine tz_cV (pc := 9) (c_isVar hl n _ _ (by omega) (by omega)) vl_X6_59 dX6_opened_9 o_6 rfl rfl (Nat.le_of_ble_eq_true rfl) ⟨(Nat.le_of_ble_eq_true rfl), (Nat.le_of_ble_eq_true rfl)⟩ rfl rfl (Nat.le_of_ble_eq_true rfl) (Nat.le_of_ble_eq_true rfl) (fun r9 J_9 hq9 => ?_)
    obtain ⟨z_9, rfl, hz_9, rfl, rfl⟩ := hq9
    by_cases hw_12 : J 7 t < 0
    · rw [show (if J 7 t < 0 then 1 else 0 : Int) = 1 from if_pos hw_12]
      refine tz_if_eqF (pc := 12) (tgt := 17) (by decide) dX6_opened_12 (by decide) (by decide) ?_
      refine tz_iload_n (pc := 15) dX6_opened_15 rfl rfl ?_
      exact tz_iret (pc := 16) (z := t) dX6_opened_16 rfl (Nat.le_of_ble_eq_true rfl) (Nat.le_of_ble_eq_true rfl) ⟨Nat.le_refl _, Nat.le_add_right _ _⟩ ⟨_, rfl, (by omega), (by first | exact ⟨(WR.rf C hm hL hF), by omega, fun q _ _ => absurd q (by omega), fun _ => by omega⟩ | exact ⟨(WR.rf C hm hL hF), by omega, fun _ N _ => ncg_v N C hm (by omega) (by omega), fun _ => by omega⟩)⟩
    · rw [show (if J 7 t < 0 then 1 else 0 : Int) = 0 from if_neg hw_12]
      refine tz_if_eqT (pc := 12) (tgt := 17) (by decide) dX6_opened_12 (by decide) (by decide) ?_
      refine tz_aload_n (pc := 17) dX6_opened_17 rfl rfl ?_
      refine tz_fR (pc := 18) dX6_opened_18 fl_X6_28 r_158_0 ?_
      refine tz_fR (pc := 21) dX6_opened_21 fl_X6_65 r_5_1 ?_
      refine tz_iload_n (pc := 24) dX6_opened_24 rfl rfl ?_
      refine tz_cV (pc := 25) (c_recalled hl n _ _ (by omega) (by omega)) vl_X6_69 dX6_opened_25 o_18 rfl rfl (Nat.le_of_ble_eq_true rfl) ⟨(Nat.le_of_ble_eq_true rfl), (Nat.le_of_ble_eq_true rfl)⟩ rfl rfl (Nat.le_of_ble_eq_true rfl) (Nat.le_of_ble_eq_true rfl) (fun r9 J_25 hq9 => ?_)
      obtain ⟨z_25, rfl, hz_25, p_25⟩ := hq9
      obtain ⟨g9, h9⟩ := WR.rec (WR.rf C hm hL hF) (by omega) p_25
      have hF9 := g9.2.2.1
      have k25 : J_25 158 7 = J 158 7 := by rcases p_25 with ⟨_, a, _⟩ | ⟨i, a, b, c, d⟩; (rw [← a]); (have f : zOf (zbut [19]) J_25 J := (by rw [← d]; exact zof_aM.tr (zof_dM.tr (zOf.up rfl zOf.rf))); exact congrFun (f 158 rfl) 7)
      have f25 : z_25 = -1 → J = J_25 := fun q => by rcases p_25 with ⟨_, a, _⟩ | ⟨i, a, _, b, _⟩; exact a; (have := (hL.2.2.2.2 i a.1 a.2.1).2; omega)
      refine tz_istore_n (pc := 28) (L2 := [_, _, _]) dX6_opened_28 rfl (by decide) rfl ?_
      refine tz_iload_n (pc := 29) dX6_opened_29 rfl rfl ?_
      refine tz_iconst (pc := 30) dX6_opened_30 ?_
      refine tz_icmp_eq (pc := 31) (tgt := 36) dX6_opened_31 (by decide) (by omega) (by decide) (fun h_31 => ?_) (fun h_31 => ?_)
      · refine tz_aload_n (pc := 36) dX6_opened_36 rfl rfl ?_
        refine tz_fI (pc := 37) (kz := 7) (v := (J_25 158 7)) dX6_opened_37 fl_X6_21 i_158_7 rfl rfl (fun r_37 => ?_)
        refine tz_sipush (pc := 40) dX6_opened_40 (by decide) ?_
        refine tz_icmp_ltT (pc := 43) (tgt := 49) (by omega) dX6_opened_43 (by decide) (by omega) (by decide) ?_
        refine tz_aload_n (pc := 49) dX6_opened_49 rfl rfl ?_
        refine tz_fR (pc := 50) dX6_opened_50 fl_X6_11 r_158_4 ?_
        refine tz_aload_n (pc := 53) dX6_opened_53 rfl rfl ?_
        refine tz_fI (pc := 54) (kz := 7) (v := (J_25 158 7)) dX6_opened_54 fl_X6_21 i_158_7 rfl rfl (fun r_54 => ?_)
        refine tz_iload_n (pc := 57) dX6_opened_57 rfl rfl ?_
        refine tz_aS (pc := 58) (z := (J_25 158 7)) dX6_opened_58 a_159 rfl (by omega) (by omega) ?_
        refine tz_aload_n (pc := 59) dX6_opened_59 rfl rfl ?_
        refine tz_fR (pc := 60) dX6_opened_60 fl_X6_15 r_158_5 ?_
        refine tz_aload_n (pc := 63) dX6_opened_63 rfl rfl ?_
        refine tz_fI (pc := 64) (kz := 7) (v := (J_25 158 7)) dX6_opened_64 fl_X6_21 i_158_7 rfl rfl (fun r_64 => ?_)
        refine tz_iconst (pc := 67) dX6_opened_67 ?_
        refine tz_aS (pc := 68) (z := (J_25 158 7)) dX6_opened_68 a_160 rfl (by omega) (by decide) ?_
        refine tz_aload_n (pc := 69) dX6_opened_69 rfl rfl ?_
        refine tz_dup (pc := 70) dX6_opened_70 rfl ?_
        refine tz_fI (pc := 71) (kz := 7) (v := (J_25 158 7)) dX6_opened_71 fl_X6_21 i_158_7 rfl rfl (fun r_71 => ?_)
        refine tz_iconst (pc := 74) dX6_opened_74 ?_
        refine tz_iadd (pc := 75) (v := (J_25 158 7) + 1) dX6_opened_75 rfl ?_
        refine tz_pI (pc := 76) (kz := 7) dX6_opened_76 fl_X6_21 i_158_7 rfl rfl (by omega) ?_
        refine tz_iconst (pc := 79) dX6_opened_79 ?_
        exact tz_iret (pc := 80) (z := (-1)) dX6_opened_80 rfl (Nat.le_of_ble_eq_true rfl) (Nat.le_of_ble_eq_true rfl) ⟨Nat.le_refl _, Nat.le_add_right _ _⟩ ⟨_, rfl, (by decide), ⟨g9.push (by omega) (by omega), by omega, fun _ N hk => by rw [← f25 (by omega)]; exact ncg_p N C hm (by omega) (by omega) hL (p_25.elim (fun q => q.2.2) (fun ⟨i, a, _, b, _⟩ => absurd (hL.2.2.2.2 i a.1 a.2.1).2 (by omega))) hk, fun _ => by omega⟩⟩
      · refine tz_iload_n (pc := 34) dX6_opened_34 rfl rfl ?_
        exact tz_iret (pc := 35) (z := z_25) dX6_opened_35 rfl (Nat.le_of_ble_eq_true rfl) (Nat.le_of_ble_eq_true rfl) ⟨Nat.le_refl _, Nat.le_add_right _ _⟩ ⟨_, rfl, (by omega), ⟨g9, by omega, fun _ N _ => by rcases p_25 with ⟨a, _⟩ | ⟨i, a, b, c, d⟩; exact absurd a (by omega); exact ncg_m N C hm hL (by omega) (by omega) a b c d, fun _ => by omega⟩⟩

set_option maxHeartbeats 4000000 in
set_option maxRecDepth 100000 in
theorem x_closedWith {l : Launch} {G : tb_G} (hl : l.stackTraces = false) (n : Nat) (J : zJ) (v : Int) (f : Int) (hr_v : -2147483648 ≤ v ∧ v < 2147483648) (hr_f : -2147483648 ≤ f ∧ f < 2147483648) (m : Int) (C : CT J m) (hm : J 6 12 = m) (hL : LI (J 19) m) (hF : FR J m) (hf : 0 ≤ f ∧ f < J 158 7) (hv : 0 ≤ v ∧ v < m) : tz_Ok l G M_X6_closedWith 2 0 0 [.ref 158, zi v, zi f] n J (zqi (fun z J' => WR J' J m m ∧ z = v ∧ zup (zrM J (J 159 f) v) 158 7 f = J')) zN := by
  refine tz_Ok.of hl (by decide +kernel) rfl (tb_c1 rfl) (Nat.le_of_ble_eq_true rfl) ?_
  show tz_At l G M_X6_closedWith (tb_rm 2 0 0) none (tb_ZM G 0 0 (zQ n 0 (zqi (fun z J' => WR J' J m m ∧ z = v ∧ zup (zrM J (J 159 f) v) 158 7 f = J'))) (zX n 0 zN)) 0 0 n J 0 [some (.ref 158), some (zi v), some (zi f)] []
  have h7 := hF.1
  have ha := (hF.2 f hf.1 hf.2).1
  have h6 := hL.1
  refine tz_aload_n (pc := 0) dX6_closedWith_0 rfl rfl ?_
  refine tz_fR (pc := 1) dX6_closedWith_1 fl_X6_28 r_158_0 ?_
  refine tz_fR (pc := 4) dX6_closedWith_4 fl_X6_65 r_5_1 ?_
  refine tz_aload_n (pc := 7) dX6_closedWith_7 rfl rfl ?_
  refine tz_fR (pc := 8) dX6_closedWith_8 fl_X6_11 r_158_4 ?_
  refine tz_iload_n (pc := 11) dX6_closedWith_11 rfl rfl ?_
  refine tz_aL (pc := 12) (z := f) (v := (J 159 f)) dX6_closedWith_12 a_159 rfl (by omega) rfl (fun r_12 => ?_)
  refine tz_iload_n (pc := 13) dX6_closedWith_13 rfl rfl ?_
  refine tz_cV (pc := 14) (c_remember hl n _ _ _ (by omega) (by omega) (by omega) (by omega)) vl_X6_114 dX6_closedWith_14 o_18 rfl rfl (Nat.le_of_ble_eq_true rfl) ⟨(Nat.le_of_ble_eq_true rfl), (Nat.le_of_ble_eq_true rfl)⟩ rfl rfl (Nat.le_of_ble_eq_true rfl) (Nat.le_of_ble_eq_true rfl) (fun r9 J9 hq9 => ?_)
  obtain ⟨rfl, rfl⟩ := hq9
  refine tz_aload_n (pc := 17) dX6_closedWith_17 rfl rfl ?_
  refine tz_iload_n (pc := 18) dX6_closedWith_18 rfl rfl ?_
  refine tz_pI (pc := 19) (kz := 7) dX6_closedWith_19 fl_X6_21 i_158_7 rfl rfl (by omega) ?_
  refine tz_iload_n (pc := 22) dX6_closedWith_22 rfl rfl ?_
  exact tz_iret (pc := 23) (z := v) dX6_closedWith_23 rfl (Nat.le_of_ble_eq_true rfl) (Nat.le_of_ble_eq_true rfl) ⟨Nat.le_refl _, Nat.le_add_right _ _⟩ ⟨_, rfl, (by omega), ⟨⟨((GX.rf C hm).off rfl (zof_rM.mono (fun c hc => by simp [zbut] at hc ⊢; omega))).off rfl (zOf.up rfl zOf.rf), hL.rM ha hv, (hF.of (Int.le_refl _) (fun t _ _ => congrFun (zof_rM 8 rfl) t) (congrFun (zof_rM 158 rfl) 7) (zof_rM 159 rfl) (zof_rM 160 rfl) (zof_rM 161 rfl)).pop (by rw [congrFun (zof_rM 158 rfl) 7]; exact hf)⟩, rfl, rfl⟩⟩

set_option maxHeartbeats 4000000 in
set_option maxRecDepth 100000 in
theorem x_handed {l : Launch} {G : tb_G} (hl : l.stackTraces = false) (n : Nat) (J : zJ) (v : Int) (f : Int) (hr_v : -2147483648 ≤ v ∧ v < 2147483648) (hr_f : -2147483648 ≤ f ∧ f < 2147483648) (m : Int) (S : zJ) (σ : Int) (F : NFr) (K : List NFr) (C : CT J m) (hm : J 6 12 = m) (hL : LI (J 19) m) (hF : FR J m) (hf : 0 ≤ f ∧ f < J 158 7) (hv : 0 ≤ v ∧ v < m) (hfk : f = (K.length : Int)) (N : NSH m J S σ (F :: K)) : tz_Ok l G M_X6_handed 3 0 0 [.ref 158, zi v, zi f] n J (zqi (fun z J' => WR J' J m m ∧ (z = -1 ∨ z = v) ∧ NCG m J' z (nST ((S, σ), F :: K, v)))) zN := by
  refine tz_Ok.of hl (by decide +kernel) rfl (tb_c1 rfl) (Nat.le_of_ble_eq_true rfl) ?_
  show tz_At l G M_X6_handed (tb_rm 3 0 0) none (tb_ZM G 0 0 (zQ n 0 (zqi (fun z J' => WR J' J m m ∧ (z = -1 ∨ z = v) ∧ NCG m J' z (nST ((S, σ), F :: K, v))))) (zX n 0 zN)) 0 0 n J 0 [some (.ref 158), some (zi v), some (zi f), none] []
  have h7 := hF.1
  have ha := hF.2 f hf.1 hf.2
  have ha2 := ha.2.1
  refine tz_aload_n (pc := 0) dX6_handed_0 rfl rfl ?_
  refine tz_fR (pc := 1) dX6_handed_1 fl_X6_15 r_158_5 ?_
  refine tz_iload_n (pc := 4) dX6_handed_4 rfl rfl ?_
  refine tz_aL (pc := 5) (z := f) (v := (J 160 f)) dX6_handed_5 a_160 rfl (by omega) rfl (fun r_5 => ?_)
  refine tz_istore_n (pc := 6) (L2 := [_, _, _, _]) dX6_handed_6 rfl (by decide) rfl ?_
  refine tz_iload_n (pc := 7) dX6_handed_7 rfl rfl ?_
  refine tz_iconst (pc := 8) dX6_handed_8 ?_
  refine tz_icmp_lt (pc := 9) (tgt := 19) dX6_handed_9 (by decide) (by omega) (by decide) (fun h_9 => ?_) (fun h_9 => ?_)
  · refine tz_aload_n (pc := 19) dX6_handed_19 rfl rfl ?_
    refine tz_fR (pc := 20) dX6_handed_20 fl_X6_18 r_158_6 ?_
    refine tz_iload_n (pc := 23) dX6_handed_23 rfl rfl ?_
    refine tz_iconst (pc := 24) dX6_handed_24 ?_
    refine tz_imul (pc := 25) (v := f * 3) dX6_handed_25 rfl ?_
    refine tz_iload_n (pc := 26) dX6_handed_26 rfl rfl ?_
    refine tz_iadd (pc := 27) (v := (f * 3) + (J 160 f)) dX6_handed_27 rfl ?_
    refine tz_iload_n (pc := 28) dX6_handed_28 rfl rfl ?_
    refine tz_aS (pc := 29) (z := ((f * 3) + (J 160 f))) dX6_handed_29 a_161 rfl (by omega) (by omega) ?_
    refine tz_aload_n (pc := 30) dX6_handed_30 rfl rfl ?_
    refine tz_fR (pc := 31) dX6_handed_31 fl_X6_15 r_158_5 ?_
    refine tz_iload_n (pc := 34) dX6_handed_34 rfl rfl ?_
    refine tz_iload_n (pc := 35) dX6_handed_35 rfl rfl ?_
    refine tz_iconst (pc := 36) dX6_handed_36 ?_
    refine tz_iadd (pc := 37) (v := (J 160 f) + 1) dX6_handed_37 rfl ?_
    refine tz_aS (pc := 38) (z := f) dX6_handed_38 a_160 rfl (by omega) (by omega) ?_
    refine tz_iconst (pc := 39) dX6_handed_39 ?_
    exact tz_iret (pc := 40) (z := (-1)) dX6_handed_40 rfl (Nat.le_of_ble_eq_true rfl) (Nat.le_of_ble_eq_true rfl) ⟨Nat.le_refl _, Nat.le_add_right _ _⟩ ⟨_, rfl, (by decide), (by first | exact ⟨g1, Or.inr h1, by rw [← e1, h1]; subst hfk; exact ncg_c N hL hv.1 (by omega)⟩ | exact ⟨⟨(GX.rf C hm).off rfl (zOf.up rfl (zOf.up rfl zOf.rf)), hL, hF.part hf rfl (by omega) hv.2⟩, Or.inl rfl, by subst hfk; exact ncg_h N hv.1 (by omega) (by omega)⟩)⟩
  · refine tz_aload_n (pc := 12) dX6_handed_12 rfl rfl ?_
    refine tz_iload_n (pc := 13) dX6_handed_13 rfl rfl ?_
    refine tz_iload_n (pc := 14) dX6_handed_14 rfl rfl ?_
    refine tz_cV (pc := 15) (x_closedWith hl n _ _ _ (by omega) (by omega) m C hm hL hF hf hv) vl_X6_93 dX6_handed_15 o_158 rfl rfl (Nat.le_of_ble_eq_true rfl) ⟨(Nat.le_of_ble_eq_true rfl), (Nat.le_of_ble_eq_true rfl)⟩ rfl rfl (Nat.le_of_ble_eq_true rfl) (Nat.le_of_ble_eq_true rfl) (fun r9 J_15 hq9 => ?_)
    obtain ⟨z_15, rfl, hz_15, g1, h1, e1⟩ := hq9
    exact tz_iret (pc := 18) (z := z_15) dX6_handed_18 rfl (Nat.le_of_ble_eq_true rfl) (Nat.le_of_ble_eq_true rfl) ⟨Nat.le_refl _, Nat.le_add_right _ _⟩ ⟨_, rfl, (by omega), (by first | exact ⟨g1, Or.inr h1, by rw [← e1, h1]; subst hfk; exact ncg_c N hL hv.1 (by omega)⟩ | exact ⟨⟨(GX.rf C hm).off rfl (zOf.up rfl (zOf.up rfl zOf.rf)), hL, hF.part hf rfl (by omega) hv.2⟩, Or.inl rfl, by subst hfk; exact ncg_h N hv.1 (by omega) (by omega)⟩)⟩

set_option maxHeartbeats 4000000 in
set_option maxRecDepth 100000 in
theorem x_countStep {l : Launch} {G : tb_G} (hl : l.stackTraces = false) (n : Nat) (J : zJ) (f : Int) (hr_f : -2147483648 ≤ f ∧ f < 2147483648) (m : Int) (C : CT J m) (hm : J 6 12 = m) (hL : LI (J 19) m) (hF : FR J m) (hf : 0 ≤ f ∧ f < J 158 7) (hs : J 8 (J 159 f) ≤ J 160 f) (h8 : 0 < J 158 8) : tz_Ok l G M_X6_countStep 0 0 0 [.ref 158, zi f] n J (zqv (fun J' => WR J' J m m ∧ zOf (zbut [19, 158, 160]) J' J ∧ (∀ k, ¬ k = 3 → J' 19 k = J 19 k) ∧ zup (zup (zup J 158 8 (J 158 8 - 1)) 19 3 (zw (J 19 3 + 1))) 160 f 4 = J')) zN := by
  refine tz_Ok.of hl (by decide +kernel) rfl (tb_c1 rfl) (Nat.le_of_ble_eq_true rfl) ?_
  show tz_At l G M_X6_countStep (tb_rm 0 0 0) none (tb_ZM G 0 0 (zQ n 0 (zqv (fun J' => WR J' J m m ∧ zOf (zbut [19, 158, 160]) J' J ∧ (∀ k, ¬ k = 3 → J' 19 k = J 19 k) ∧ zup (zup (zup J 158 8 (J 158 8 - 1)) 19 3 (zw (J 19 3 + 1))) 160 f 4 = J'))) (zX n 0 zN)) 0 0 n J 0 [some (.ref 158), some (zi f)] []
  have h7 := hF.1
  have r8 := h8
  refine tz_aload_n (pc := 0) dX6_countStep_0 rfl rfl ?_
  refine tz_dup (pc := 1) dX6_countStep_1 rfl ?_
  refine tz_fI (pc := 2) (kz := 8) (v := (J 158 8)) dX6_countStep_2 fl_X6_25 i_158_8 rfl rfl (fun r_2 => ?_)
  refine tz_iconst (pc := 5) dX6_countStep_5 ?_
  refine tz_isub (pc := 6) (v := (J 158 8) - 1) dX6_countStep_6 rfl ?_
  refine tz_pI (pc := 7) (kz := 8) dX6_countStep_7 fl_X6_25 i_158_8 rfl rfl (by omega) ?_
  refine tz_aload_n (pc := 10) dX6_countStep_10 rfl rfl ?_
  refine tz_fR (pc := 11) dX6_countStep_11 fl_X6_28 r_158_0 ?_
  refine tz_fR (pc := 14) dX6_countStep_14 fl_X6_65 r_5_1 ?_
  refine tz_fR (pc := 17) dX6_countStep_17 fl_X6_100 r_18_0 ?_
  refine tz_iconst (pc := 20) dX6_countStep_20 ?_
  refine tz_dup2 (pc := 21) dX6_countStep_21 rfl rfl ?_
  refine tz_aL (pc := 22) (z := 3) (v := (J 19 3)) dX6_countStep_22 a_19 rfl (by decide) rfl (fun r_22 => ?_)
  refine tz_iconst (pc := 23) dX6_countStep_23 ?_
  refine tz_iadd (pc := 24) (v := (J 19 3) + 1) dX6_countStep_24 rfl ?_
  refine tz_tw ?_
  have rw_25 := zw_rg ((J 19 3) + 1)
  refine tz_aS (pc := 25) (z := 3) dX6_countStep_25 a_19 rfl (by decide) (zw_rg _) ?_
  refine tz_aload_n (pc := 26) dX6_countStep_26 rfl rfl ?_
  refine tz_fR (pc := 27) dX6_countStep_27 fl_X6_15 r_158_5 ?_
  refine tz_iload_n (pc := 30) dX6_countStep_30 rfl rfl ?_
  refine tz_iconst (pc := 31) dX6_countStep_31 ?_
  refine tz_aS (pc := 32) (z := f) dX6_countStep_32 a_160 rfl (by omega) (by decide) ?_
  exact tz_vret (pc := 33) dX6_countStep_33 rfl (Nat.le_of_ble_eq_true rfl) (Nat.le_of_ble_eq_true rfl) ⟨Nat.le_refl _, Nat.le_add_right _ _⟩ ⟨rfl, ⟨⟨((GX.rf C hm).off rfl (zOf.up rfl (zOf.up rfl (zOf.up rfl zOf.rf)))), hL.steps (J := zup J 158 8 (J 158 8 - 1)), (hF.step (x := J 158 8 - 1) hf hs).of (Int.le_refl _) (fun _ _ _ => rfl) rfl rfl rfl rfl⟩, zOf.up rfl (zOf.up rfl (zOf.up rfl zOf.rf)), fun k hk => show zup (zup J 158 8 (J 158 8 - 1)) 19 3 (zw (J 19 3 + 1)) 19 k = J 19 k from zup_ne hk, rfl⟩⟩

end
section
/-! ===== normalOf of the class: a turn ===== -/
/-- put aside -/
def HID (P : Prop) : Prop := P
theorem HID.o {P : Prop} (h : HID P) : P := h
set_option maxHeartbeats 4000000 in
set_option maxRecDepth 100000 in
theorem x_wentOn {l : Launch} {G : tb_G} (hl : l.stackTraces = false) (n : Nat) (J : zJ) (f : Int) (hr_f : -2147483648 ≤ f ∧ f < 2147483648) (m : Int) (S : zJ) (σ : Int) (F : NFr) (K : List NFr) (C : CT J m) (hm : J 6 12 = m) (hL : LI (J 19) m) (hF : FR J m) (hf : 0 ≤ f ∧ f < J 158 7) (hfk : f = (K.length : Int)) (N : NSH m J S σ (F :: K)) (h4 : F.2.1 < 4) : tz_Ok l G M_X6_wentOn 10 0 0 [.ref 158, zi f] n J (zqi (fun z J' => ∃ m', WR J' J m m' ∧ (-3 ≤ z ∧ z < m') ∧ NCG m' J' z (nST ((S, σ), F :: K, -1)))) zN := by
  refine tz_Ok.of hl (by decide +kernel) rfl (tb_c1 rfl) (Nat.le_of_ble_eq_true rfl) ?_
  show tz_At l G M_X6_wentOn (tb_rm 10 0 0) none (tb_ZM G 0 0 (zQ n 0 (zqi (fun z J' => ∃ m', WR J' J m m' ∧ (-3 ≤ z ∧ z < m') ∧ NCG m' J' z (nST ((S, σ), F :: K, -1))))) (zX n 0 zN)) 0 0 n J 0 [some (.ref 158), some (zi f), none, none, none, none] []
  have hb := C.told
  have h7 := hF.1
  have ha := hF.2 f hf.1 hf.2
  have ha1 := ha.1
  have ha2 := ha.2.1
  have hr := C.ar ha.1.1 ha.1.2
  obtain ⟨fa, fb, fc, fd, fx⟩ := id N.2.2.2.1
  rw [← hfk] at fb fc fd fx
  have fd9 : HID _ := fd h4
  clear fd
  have hσ := N.2.1
  have d12 := C.nums fa.1 fa.2
  have e12 : J 12 (J 159 f) = J 12 F.1 := by rw [fb]
  have h158 : J 158 7 = f + 1 := by rw [N.2.2.1, nfk_l, hfk]
  refine tz_aload_n (pc := 0) dX6_wentOn_0 rfl rfl ?_
  refine tz_fR (pc := 1) dX6_wentOn_1 fl_X6_11 r_158_4 ?_
  refine tz_iload_n (pc := 4) dX6_wentOn_4 rfl rfl ?_
  refine tz_aL (pc := 5) (z := f) (v := (J 159 f)) dX6_wentOn_5 a_159 rfl (by omega) rfl (fun r_5 => ?_)
  refine tz_istore_n (pc := 6) (L2 := [_, _, _, _, _, _]) dX6_wentOn_6 rfl (by decide) rfl ?_
  refine tz_aload_n (pc := 7) dX6_wentOn_7 rfl rfl ?_
  refine tz_fR (pc := 8) dX6_wentOn_8 fl_X6_15 r_158_5 ?_
  refine tz_iload_n (pc := 11) dX6_wentOn_11 rfl rfl ?_
  refine tz_aL (pc := 12) (z := f) (v := (J 160 f)) dX6_wentOn_12 a_160 rfl (by omega) rfl (fun r_12 => ?_)
  refine tz_aload_n (pc := 13) dX6_wentOn_13 rfl rfl ?_
  refine tz_fR (pc := 14) dX6_wentOn_14 fl_X6_38 r_158_1 ?_
  refine tz_fR (pc := 17) dX6_wentOn_17 fl_X6_74 r_6_2 ?_
  refine tz_iload_n (pc := 20) dX6_wentOn_20 rfl rfl ?_
  refine tz_aL (pc := 21) (z := (J 159 f)) (v := (J 8 (J 159 f))) dX6_wentOn_21 a_8 rfl (by omega) rfl (fun r_21 => ?_)
  refine tz_icmp_ge (pc := 22) (tgt := 44) dX6_wentOn_22 (by decide) (by omega) (by omega) (fun h_22 => ?_) (fun h_22 => ?_)
  · refine tz_iload_n (pc := 44) dX6_wentOn_44 rfl rfl ?_
    refine tz_iconst (pc := 45) dX6_wentOn_45 ?_
    refine tz_imul (pc := 46) (v := f * 3) dX6_wentOn_46 rfl ?_
    refine tz_istore_n (pc := 47) (L2 := [_, _, _, _, _, _]) dX6_wentOn_47 rfl (by decide) rfl ?_
    refine tz_aload_n (pc := 48) dX6_wentOn_48 rfl rfl ?_
    refine tz_fR (pc := 49) dX6_wentOn_49 fl_X6_38 r_158_1 ?_
    refine tz_aload_n (pc := 52) dX6_wentOn_52 rfl rfl ?_
    refine tz_fR (pc := 53) dX6_wentOn_53 fl_X6_38 r_158_1 ?_
    refine tz_fR (pc := 56) dX6_wentOn_56 fl_X6_80 r_6_1 ?_
    refine tz_iload_n (pc := 59) dX6_wentOn_59 rfl rfl ?_
    refine tz_aL (pc := 60) (z := (J 159 f)) (v := (J 7 (J 159 f))) dX6_wentOn_60 a_7 rfl (by omega) rfl (fun r_60 => ?_)
    refine tz_aload_n (pc := 61) dX6_wentOn_61 rfl rfl ?_
    refine tz_fR (pc := 62) dX6_wentOn_62 fl_X6_18 r_158_6 ?_
    refine tz_iload_n (pc := 65) dX6_wentOn_65 rfl rfl ?_
    refine tz_aL (pc := 66) (z := (f * 3)) (v := (J 161 (f * 3))) dX6_wentOn_66 a_161 rfl (by omega) rfl (fun r_66 => ?_)
    refine tz_aload_n (pc := 67) dX6_wentOn_67 rfl rfl ?_
    refine tz_fR (pc := 68) dX6_wentOn_68 fl_X6_18 r_158_6 ?_
    refine tz_iload_n (pc := 71) dX6_wentOn_71 rfl rfl ?_
    refine tz_iconst (pc := 72) dX6_wentOn_72 ?_
    refine tz_iadd (pc := 73) (v := (f * 3) + 1) dX6_wentOn_73 rfl ?_
    refine tz_aL (pc := 74) (z := ((f * 3) + 1)) (v := (J 161 ((f * 3) + 1))) dX6_wentOn_74 a_161 rfl (by omega) rfl (fun r_74 => ?_)
    refine tz_aload_n (pc := 75) dX6_wentOn_75 rfl rfl ?_
    refine tz_fR (pc := 76) dX6_wentOn_76 fl_X6_18 r_158_6 ?_
    refine tz_iload_n (pc := 79) dX6_wentOn_79 rfl rfl ?_
    refine tz_iconst (pc := 80) dX6_wentOn_80 ?_
    refine tz_iadd (pc := 81) (v := (f * 3) + 2) dX6_wentOn_81 rfl ?_
    refine tz_aL (pc := 82) (z := ((f * 3) + 2)) (v := (J 161 ((f * 3) + 2))) dX6_wentOn_82 a_161 rfl (by omega) rfl (fun r_82 => ?_)
    have hA : J 8 (J 159 f) = arh (J 3) (J 7 (J 159 f)) := (C.2.1 _ ha.1.1 ha.1.2).1.1
    have p0 : HID _ := ha.2.2 0
    have p1 : HID _ := ha.2.2 1
    have p2 : HID _ := ha.2.2 2
    rw [Int.add_zero] at p0
    refine tz_cV (pc := 83) (c_made hl n _ _ _ _ _ (by omega) (by omega) (by omega) (by omega) m C hm (by omega) ⟨by have := p0.o; omega, by have := p1.o; omega, by have := p2.o; omega⟩) vl_X6_83 dX6_wentOn_83 o_6 rfl rfl (Nat.le_of_ble_eq_true rfl) ⟨(Nat.le_of_ble_eq_true rfl), (Nat.le_of_ble_eq_true rfl)⟩ rfl rfl (Nat.le_of_ble_eq_true rfl) (Nat.le_of_ble_eq_true rfl) (fun r9 J_83 hq9 => ?_)
    obtain ⟨z_83, rfl, hz_83, p_83⟩ := hq9
    obtain ⟨m9, g9, h9⟩ := GR.made p_83 (by omega)
    have q9 := WR.made (WR.rf C hm hL hF) g9
    have c9 := g9.1
    have t9 := q9.1.2.1.told
    have md9 := st_md N C hm (by rw [← hfk]; omega)
    rw [← hfk] at md9
    have a9 : HID _ := N.1.1.made N.1.2.2.1 C hm (by omega) (x := F.2.2.1) (y := F.2.2.2.1) (w := F.2.2.2.2) ⟨fun q => (fd9.o.1 (by omega)).1, fun q => (fd9.o.2.1 (by omega)).1, fun q => (fd9.o.2.2 (by omega)).1⟩ ⟨fun q => (by have u := fd9.o.1 (by omega); have v := p0.o (by decide) (by omega) (by omega); omega), fun q => (by have u := fd9.o.2.1 (by omega); have v := p1.o (by decide) (by omega) (by omega); omega), fun q => (by have u := fd9.o.2.2 (by omega); have v := p2.o (by decide) (by omega) (by omega); omega)⟩ p_83
    clear p_83 p0 p1 p2 fd9
    have t5 : ∀ k, ¬ k = 0 → (tmO S (J 7 (J 159 f)) F.2.2.1 F.2.2.2.1 F.2.2.2.2).1 165 k = S 165 k := fun k hk => tmO_5 hk
    generalize tmO S (J 7 (J 159 f)) F.2.2.1 F.2.2.2.1 F.2.2.2.2 = M9 at a9 md9 t5
    refine tz_istore (pc := 86) (L2 := [_, _, _, _, _, _]) dX6_wentOn_86 (by decide) rfl ?_
    refine tz_iload (pc := 88) dX6_wentOn_88 rfl ?_
    refine tz_if_ge (pc := 90) (tgt := 96) dX6_wentOn_90 (by decide) (by omega) (fun h_90 => ?_) (fun h_90 => ?_)
    · refine tz_aload_n (pc := 96) dX6_wentOn_96 rfl rfl ?_
      refine tz_fR (pc := 97) dX6_wentOn_97 fl_X6_28 r_158_0 ?_
      refine tz_fR (pc := 100) dX6_wentOn_100 fl_X6_65 r_5_1 ?_
      refine tz_aload_n (pc := 103) dX6_wentOn_103 rfl rfl ?_
      refine tz_fR (pc := 104) dX6_wentOn_104 fl_X6_39 r_158_2 ?_
      refine tz_iload (pc := 107) dX6_wentOn_107 rfl ?_
      have b9 := (a9.o.resolve_left (fun q => by have := q.1.1; omega)).2
      have N9 := N.made g9 b9.2.1 t5 b9.1 hL
      refine tz_cS (pc := 109) (x_firstRule hl n _ _ (by omega) m9 M9.1 q9.1.2.1 q9.1.2.2.1 q9.2.1 (by omega) N9.1.1 N9.1.2.1) sl_X6_87 dX6_wentOn_109 rfl rfl (Nat.le_of_ble_eq_true rfl) ⟨(Nat.le_of_ble_eq_true rfl), (Nat.le_of_ble_eq_true rfl)⟩ rfl rfl (Nat.le_of_ble_eq_true rfl) (Nat.le_of_ble_eq_true rfl) (fun r9 J_109 hq9 => ?_)
      obtain ⟨z_109, rfl, hz_109, a_1, a_2, x_109⟩ := hq9
      have A_2 : HID _ := a_2
      clear a_2
      have q8 := q9.led (a_1.mono (fun c hc => by simp [zbut] at hc ⊢; omega)) (by rw [a_1 19 rfl]; exact q9.2.1)
      have x158 : J_109 158 = J 158 := (a_1 158 rfl).trans (g9.2.2.2.2 158 rfl)
      have x159 : J_109 159 = J 159 := (a_1 159 rfl).trans (g9.2.2.2.2 159 rfl)
      have x160 : J_109 160 = J 160 := (a_1 160 rfl).trans (g9.2.2.2.2 160 rfl)
      have x8 : J_109 8 (J 159 f) = J 8 (J 159 f) := (congrFun (a_1 8 rfl) _).trans (g9.2.2.2.1.1 _ ha.1.1 ha.1.2).2.1
      have N8 := N9.c140 a_1
      have n9 : HID _ := x_109.n (N9.1.2.1.b q9.2.1).1.1
      rw [b9.2.2] at n9
      have s158 : J_109 158 8 = 100 - σ := N8.2.1.1
      refine tz_istore (pc := 112) (L2 := [_, _, _, _, _, _]) dX6_wentOn_112 (by decide) rfl ?_
      refine tz_iload (pc := 114) dX6_wentOn_114 rfl ?_
      refine tz_iconst (pc := 116) dX6_wentOn_116 ?_
      refine tz_icmp_ne (pc := 117) (tgt := 128) dX6_wentOn_117 (by decide) (by omega) (by decide) (fun h_117 => ?_) (fun h_117 => ?_)
      · refine tz_aload_n (pc := 128) dX6_wentOn_128 rfl rfl ?_
        refine tz_fI (pc := 129) (kz := 8) (v := (J 158 8)) dX6_wentOn_129 fl_X6_25 i_158_8 rfl (Eq.trans (congrFun (a_1 158 rfl) 8) (Eq.trans (congrFun (g9.2.2.2.2 158 rfl) 8) rfl)) (fun r_129 => ?_)
        refine tz_if_gt (pc := 132) (tgt := 138) dX6_wentOn_132 (by decide) (by omega) (fun h_132 => ?_) (fun h_132 => ?_)
        · refine tz_aload_n (pc := 138) dX6_wentOn_138 rfl rfl ?_
          refine tz_iload_n (pc := 139) dX6_wentOn_139 rfl rfl ?_
          refine tz_cV (pc := 140) (x_countStep hl n _ _ (by omega) m9 q8.1.2.1 q8.1.2.2.1 q8.2.1 q8.2.2 (by rw [x158]; exact hf) (by rw [x159, x160, x8]; omega) (by rw [x158]; omega)) vl_X6_96 dX6_wentOn_140 o_158 rfl rfl (Nat.le_of_ble_eq_true rfl) ⟨(Nat.le_of_ble_eq_true rfl), (Nat.le_of_ble_eq_true rfl)⟩ rfl rfl (Nat.le_of_ble_eq_true rfl) (Nat.le_of_ble_eq_true rfl) (fun r9 J_140 hq9 => ?_)
          obtain ⟨rfl, g_140, f_140, k_140, e_140⟩ := hq9
          have q7 := q8.tr g_140
          have r7 := A_2.o.resolve_left (by omega)
          have s7 := (q9.2.1.2.2.1 z_109 r7.1.1 r7.1.2).2
          have e19 := g9.2.2.2.2 19 rfl
          rw [e19] at s7 r7
          have h4r := hL.1.2.1
          have fr9 := n9.o.resolve_left (fun q => by have := q.1; omega)
          have N7 := N8.step q8.2.1 (by omega)
          rw [← hfk, e_140] at N7
          have et9 : J 19 (23 + z_109) = M9.1 165 (10 + 2 * z_109 + 1) := by have q := (N8.1.2.1.2.1.2 z_109 fr9.1.1 fr9.1.2).2; rw [a_1 19 rfl, e19] at q; exact q
          have sg9 : sgA (J_140 140) (omt M9.1 (M9.1 165 (10 + 2 * z_109)) M9.2).2 := by rw [f_140 140 rfl]; exact fr9.2.2
          refine tz_aload_n (pc := 143) dX6_wentOn_143 rfl rfl ?_
          refine tz_aload_n (pc := 144) dX6_wentOn_144 rfl rfl ?_
          refine tz_fR (pc := 145) dX6_wentOn_145 fl_X6_43 r_158_3 ?_
          refine tz_aload_n (pc := 148) dX6_wentOn_148 rfl rfl ?_
          refine tz_fR (pc := 149) dX6_wentOn_149 fl_X6_28 r_158_0 ?_
          refine tz_fR (pc := 152) dX6_wentOn_152 fl_X6_65 r_5_1 ?_
          refine tz_fR (pc := 155) dX6_wentOn_155 fl_X6_100 r_18_0 ?_
          refine tz_bipush (pc := 158) dX6_wentOn_158 (by decide) ?_
          refine tz_iload (pc := 160) dX6_wentOn_160 rfl ?_
          refine tz_iadd (pc := 162) (v := 23 + z_109) dX6_wentOn_162 rfl ?_
          refine tz_aL (pc := 163) (z := (23 + z_109)) (v := (J 19 (23 + z_109))) dX6_wentOn_163 a_19 rfl (by omega) (Eq.trans (k_140 (23 + z_109) (by omega)) (Eq.trans (congrFun (a_1 19 rfl) (23 + z_109)) (Eq.trans (congrFun (g9.2.2.2.2 19 rfl) (23 + z_109)) rfl))) (fun r_163 => ?_)
          refine tz_aload_n (pc := 164) dX6_wentOn_164 rfl rfl ?_
          refine tz_fR (pc := 165) dX6_wentOn_165 fl_X6_39 r_158_2 ?_
          refine tz_fR (pc := 168) dX6_wentOn_168 fl_X6_103 r_139_1 ?_
          refine tz_iconst (pc := 171) dX6_wentOn_171 ?_
          refine tz_cV (pc := 172) (x_applied140 hl n _ _ (by omega) m9 q7.1.2.1 q7.1.2.2.1 (by omega) (gOK.r (by rw [f_140 140 rfl]; exact r7.2))) vl_X6_108 dX6_wentOn_172 o_141 rfl rfl (Nat.le_of_ble_eq_true rfl) ⟨(Nat.le_of_ble_eq_true rfl), (Nat.le_of_ble_eq_true rfl)⟩ rfl rfl (Nat.le_of_ble_eq_true rfl) (Nat.le_of_ble_eq_true rfl) (fun r9 J_172 hq9 => ?_)
          obtain ⟨z_172, rfl, hz_172, m7, g7, h7x, x7⟩ := hq9
          have q6 := q7.made g7
          have b7 := g7.1
          have t7 := q6.1.2.1.told
          have o7 := x7_o x7 b9.1 N7.1.1 sg9 et9
          have h140 : J_172 158 7 = f + 1 := by rw [g7.2.2.2.2 158 rfl, N7.2.2.1, nfk_l, hfk]
          refine tz_cV (pc := 175) (x_opened hl n _ _ (by omega) m7 (nRT M9.1 M9.2 z_109).1 (σ + 1) ((F.1, 4, F.2.2) :: K) q6.1.2.1 q6.1.2.2.1 q6.2.1 q6.2.2 (by omega) (by omega)) vl_X6_47 dX6_wentOn_175 o_158 rfl rfl (Nat.le_of_ble_eq_true rfl) ⟨(Nat.le_of_ble_eq_true rfl), (Nat.le_of_ble_eq_true rfl)⟩ rfl rfl (Nat.le_of_ble_eq_true rfl) (Nat.le_of_ble_eq_true rfl) (fun r9 J_175 hq9 => ?_)
          obtain ⟨z_175, rfl, hz_175, g_175, h_175, x_175, y_175⟩ := hq9
          exact tz_iret (pc := 178) (z := z_175) dX6_wentOn_178 rfl (Nat.le_of_ble_eq_true rfl) (Nat.le_of_ble_eq_true rfl) ⟨Nat.le_refl _, Nat.le_add_right _ _⟩ ⟨_, rfl, (by omega), ⟨m7, q6.tr g_175, h_175, by rw [md9]; exact ncg_r (k := z_109) (t := z_172) (M := M9) (J4 := J_140) (J7 := J_172) b9.1 N7 g_140.2.1 ⟨fr9.2.1, fr9.1.2⟩ (by omega) (by omega) g7 o7 (fun q => (q6.1.2.1.nums (t := z_172) q (by omega)).2.2.2) x_175 y_175⟩⟩
        · refine tz_bipush (pc := 135) dX6_wentOn_135 (by decide) ?_
          exact tz_iret (pc := 137) (z := (-2)) dX6_wentOn_137 rfl (Nat.le_of_ble_eq_true rfl) (Nat.le_of_ble_eq_true rfl) ⟨Nat.le_refl _, Nat.le_add_right _ _⟩ ⟨_, rfl, (by decide), ⟨m9, q8, by have := c9; omega, by rw [md9, nmd_u b9.1 (n9.o.resolve_left (fun q => by have := q.1; omega)).2.1 (n9.o.resolve_left (fun q => by have := q.1; omega)).1.2, nRU_t (by omega)]; exact Or.inr ⟨rfl, Or.inr ⟨rfl, rfl⟩⟩⟩⟩
      · refine tz_aload_n (pc := 120) dX6_wentOn_120 rfl rfl ?_
        refine tz_iload (pc := 121) dX6_wentOn_121 rfl ?_
        refine tz_iload_n (pc := 123) dX6_wentOn_123 rfl rfl ?_
        refine tz_cV (pc := 124) (x_closedWith hl n _ _ _ (by omega) (by omega) m9 q8.1.2.1 q8.1.2.2.1 q8.2.1 q8.2.2 (by rw [x158]; exact hf) (by omega)) vl_X6_93 dX6_wentOn_124 o_158 rfl rfl (Nat.le_of_ble_eq_true rfl) ⟨(Nat.le_of_ble_eq_true rfl), (Nat.le_of_ble_eq_true rfl)⟩ rfl rfl (Nat.le_of_ble_eq_true rfl) (Nat.le_of_ble_eq_true rfl) (fun r9 J_124 hq9 => ?_)
        obtain ⟨z_124, rfl, hz_124, g_124, h_124, e_124⟩ := hq9
        exact tz_iret (pc := 127) (z := z_124) dX6_wentOn_127 rfl (Nat.le_of_ble_eq_true rfl) (Nat.le_of_ble_eq_true rfl) ⟨Nat.le_refl _, Nat.le_add_right _ _⟩ ⟨_, rfl, (by omega), ⟨m9, q8.tr g_124, by have := q8.1.1; omega, by rw [md9, nmd_n b9.1 (n9.o.resolve_right (fun q => by have := q.1.1; omega)).2, ← b9.2.2, h_124, ← e_124, hfk]; exact Or.inl ⟨Or.inr (by omega), rfl, N8.close q8.2.1⟩⟩⟩
    · refine tz_iload (pc := 93) dX6_wentOn_93 rfl ?_
      exact tz_iret (pc := 95) (z := z_83) dX6_wentOn_95 rfl (Nat.le_of_ble_eq_true rfl) (Nat.le_of_ble_eq_true rfl) ⟨Nat.le_refl _, Nat.le_add_right _ _⟩ ⟨_, rfl, (by omega), ⟨m9, q9, by omega, by rw [md9, nmd_f (a9.o.resolve_right (fun q => by have := q.1; omega)).2]; exact Or.inr ⟨rfl, Or.inl ⟨rfl, by omega⟩⟩⟩⟩
  · refine tz_aload_n (pc := 25) dX6_wentOn_25 rfl rfl ?_
    refine tz_aload_n (pc := 26) dX6_wentOn_26 rfl rfl ?_
    refine tz_fR (pc := 27) dX6_wentOn_27 fl_X6_38 r_158_1 ?_
    refine tz_iload_n (pc := 30) dX6_wentOn_30 rfl rfl ?_
    refine tz_aload_n (pc := 31) dX6_wentOn_31 rfl rfl ?_
    refine tz_fR (pc := 32) dX6_wentOn_32 fl_X6_15 r_158_5 ?_
    refine tz_iload_n (pc := 35) dX6_wentOn_35 rfl rfl ?_
    refine tz_aL (pc := 36) (z := f) (v := (J 160 f)) dX6_wentOn_36 a_160 rfl (by omega) rfl (fun r_36 => ?_)
    have hg := C.arg ha.1.1 ha.1.2 ha.2.1.1 (by omega)
    refine tz_cV (pc := 37) (c_arg hl n _ _ _ (by omega) (by omega) (by omega)) vl_X6_77 dX6_wentOn_37 o_6 rfl rfl (Nat.le_of_ble_eq_true rfl) ⟨(Nat.le_of_ble_eq_true rfl), (Nat.le_of_ble_eq_true rfl)⟩ rfl rfl (Nat.le_of_ble_eq_true rfl) (Nat.le_of_ble_eq_true rfl) (fun r9 J_37 hq9 => ?_)
    obtain ⟨z_37, rfl, hz_37, rfl, rfl⟩ := hq9
    refine tz_cV (pc := 40) (x_opened hl n _ _ (by omega) m S σ (F :: K) C hm hL hF (by omega) (by omega)) vl_X6_47 dX6_wentOn_40 o_158 rfl rfl (Nat.le_of_ble_eq_true rfl) ⟨(Nat.le_of_ble_eq_true rfl), (Nat.le_of_ble_eq_true rfl)⟩ rfl rfl (Nat.le_of_ble_eq_true rfl) (Nat.le_of_ble_eq_true rfl) (fun r9 J_40 hq9 => ?_)
    obtain ⟨z_40, rfl, hz_40, g_40, h_40, x_40, y_40⟩ := hq9
    exact tz_iret (pc := 43) (z := z_40) dX6_wentOn_43 rfl (Nat.le_of_ble_eq_true rfl) (Nat.le_of_ble_eq_true rfl) ⟨Nat.le_refl _, Nat.le_add_right _ _⟩ ⟨_, rfl, (by omega), ⟨m, g_40, h_40, by have sa := st_arg N C hm (by rw [← hfk]; omega) (by rw [← hfk]; omega); rw [← hfk] at sa; rw [sa]; exact x_40 (by omega) N (by rw [nfk_l, ← hfk]; omega)⟩⟩

end
