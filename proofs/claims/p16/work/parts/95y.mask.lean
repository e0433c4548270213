/-! ===== the reference: a question leaves what is told alone ===== -/
set_option maxHeartbeats 4000000 in
set_option maxRecDepth 100000 in
theorem k_fault {l : Launch} {G : tb_G} (hl : l.stackTraces = false) (n : Nat) (J : zJ)   (m : Int) (pn : Int) (RR : Int → Int → Int) (hI : MI J m) (u9 : MUr J pn RR)  : tz_Ok l G M_X12_fault 0 0 0 [.ref 164] n J (zqi (fun z J' => MQr J' J ∧ MFI J' J ∧ MBT J' (tbz J) ∧ MUr J' pn RR ∧ J 164 20 = z)) zN := by
  refine tz_Ok.of hl (by decide +kernel) rfl (tb_c1 rfl) (Nat.le_of_ble_eq_true rfl) ?_
  show tz_At l G M_X12_fault (tb_rm 0 0 0) none (tb_ZM G 0 0 (zQ n 0 (zqi (fun z J' => MQr J' J ∧ MFI J' J ∧ MBT J' (tbz J) ∧ MUr J' pn RR ∧ J 164 20 = z))) (zX n 0 zN)) 0 0 n J 0 [some (.ref 164)] []
  have hT := hI.told
  have hW := hI.row
  have hM := hI.1
  have hL := hI.2.1
  refine tz_aload_n (pc := 0) dX12_fault_0 rfl rfl ?_
  refine tz_iconst (pc := 1) dX12_fault_1 ?_
  refine tz_pI (pc := 2) (kz := 8) dX12_fault_2 fl_X12_68 i_164_8 rfl rfl (by decide) ?_
  refine tz_aload_n (pc := 5) dX12_fault_5 rfl rfl ?_
  refine tz_fI (pc := 6) (kz := 20) (v := (J 164 20)) dX12_fault_6 fl_X12_37 i_164_20 rfl rfl (fun r_6 => ?_)
  exact tz_iret (pc := 9) (z := (J 164 20)) dX12_fault_9 rfl (Nat.le_of_ble_eq_true rfl) (Nat.le_of_ble_eq_true rfl) ⟨Nat.le_refl _, Nat.le_add_right _ _⟩ ⟨_, rfl, (by omega), ⟨MQr.z hI (MZ.up (k := 8) MZ.rf (by decide)), MFI.z (MZ.up (k := 8) MZ.rf (by decide)), MBT.z hI (MZ.up (k := 8) MZ.rf (by decide)), u9.z (MZ.up (k := 8) MZ.rf (by decide)), rfl⟩⟩

set_option maxHeartbeats 4000000 in
set_option maxRecDepth 100000 in
theorem k_count {l : Launch} {G : tb_G} (hl : l.stackTraces = false) (n : Nat) (J : zJ) (x : Int) (hr_x : -2147483648 ≤ x ∧ x < 2147483648) (m : Int) (pn : Int) (RR : Int → Int → Int) (hI : MI J m) (u9 : MUr J pn RR)  : tz_Ok l G M_X12_count 810 0 0 [.ref 164, zi x] n J (zqi (fun z J' => MQr J' J ∧ MFI J' J ∧ MBT J' (tbz J) ∧ MUr J' pn RR)) zN := by
  refine tz_Ok.of hl (by decide +kernel) rfl (tb_c1 rfl) (Nat.le_of_ble_eq_true rfl) ?_
  show tz_At l G M_X12_count (tb_rm 810 0 0) none (tb_ZM G 0 0 (zQ n 0 (zqi (fun z J' => MQr J' J ∧ MFI J' J ∧ MBT J' (tbz J) ∧ MUr J' pn RR))) (zX n 0 zN)) 0 0 n J 0 [some (.ref 164), some (zi x)] []
  have hT := hI.told
  have hW := hI.row
  have hM := hI.1
  have hL := hI.2.1
  refine tz_aload_n (pc := 0) dX12_count_0 rfl rfl ?_
  refine tz_iconst (pc := 1) dX12_count_1 ?_
  refine tz_pI (pc := 2) (kz := 8) dX12_count_2 fl_X12_68 i_164_8 rfl rfl (by decide) ?_
  refine tz_aload_n (pc := 5) dX12_count_5 rfl rfl ?_
  refine tz_iload_n (pc := 6) dX12_count_6 rfl rfl ?_
  refine tz_iconst (pc := 7) dX12_count_7 ?_
  refine tz_bipush (pc := 8) dX12_count_8 (by decide) ?_
  refine tz_cS (pc := 10) (m_within hl n _ _ _ _ (by omega) (by decide) (by decide)) sl_X12_283 dX12_count_10 rfl rfl (Nat.le_of_ble_eq_true rfl) ⟨(Nat.le_of_ble_eq_true rfl), (Nat.le_of_ble_eq_true rfl)⟩ rfl rfl (Nat.le_of_ble_eq_true rfl) (Nat.le_of_ble_eq_true rfl) (fun r9 J_10 hq9 => ?_)
  obtain ⟨z_10, rfl, hz_10, rfl, hw_10⟩ := hq9
  refine tz_iconst (pc := 13) dX12_count_13 ?_
  refine tz_cV (pc := 14) (m_right hl n _ _ _ (by omega) (by decide) (by decide)) vl_X12_334 dX12_count_14 o_164 rfl rfl (Nat.le_of_ble_eq_true rfl) ⟨(Nat.le_of_ble_eq_true rfl), (Nat.le_of_ble_eq_true rfl)⟩ rfl rfl (Nat.le_of_ble_eq_true rfl) (Nat.le_of_ble_eq_true rfl) (fun r9 J_14 hq9 => ?_)
  obtain ⟨z_14, rfl, hz_14, f_14, b_14, c_14⟩ := hq9
  have x_14 : MZ J_14 (zup J 164 8 0) := MZ.f f_14 (by decide) (by decide)
  have y_14 := MZ.tr (MZ.up (k := 8) MZ.rf (by decide)) x_14
  have e_14 : z_14 = 1 → ¬ z_10 = 0 := fun q9 => (c_14 q9).2.2.resolve_right (by decide)
  refine tz_if_ne (pc := 17) (tgt := 22) dX12_count_17 (by decide) (by omega) (fun h_17 => ?_) (fun h_17 => ?_)
  · refine tz_iload_n (pc := 22) dX12_count_22 rfl rfl ?_
    by_cases hs_23 : x < 0 ∨ 12 < x
    · refine tz_tabOut (pc := 23) (tgt := 179) dX12_count_23 (by omega) hs_23 (by decide) ?_
      refine tz_aload_n (pc := 179) dX12_count_179 rfl rfl ?_
      refine tz_fR (pc := 180) dX12_count_180 fl_X12_31 r_164_7 ?_
      refine tz_iload_n (pc := 183) dX12_count_183 rfl rfl ?_
      refine tz_bipush (pc := 184) dX12_count_184 (by decide) ?_
      refine tz_isub (pc := 186) (v := x - 13) dX12_count_186 rfl ?_
      refine tz_aL (pc := 187) (z := (x - 13)) (v := (J_14 172 (x - 13))) dX12_count_187 a_172 rfl (by omega) rfl (fun r_187 => ?_)
      exact tz_iret (pc := 188) (z := (J_14 172 (x - 13))) dX12_count_188 rfl (Nat.le_of_ble_eq_true rfl) (Nat.le_of_ble_eq_true rfl) ⟨Nat.le_refl _, Nat.le_add_right _ _⟩ ⟨_, rfl, (by omega), ⟨MQr.z hI y_14, MFI.z y_14, MBT.z hI y_14, u9.z y_14⟩⟩
    · have hs9 : x = 0 ∨ x = 1 ∨ x = 2 ∨ x = 3 ∨ x = 4 ∨ x = 5 ∨ x = 6 ∨ x = 7 ∨ x = 8 ∨ x = 9 ∨ x = 10 ∨ x = 11 ∨ x = 12 := by omega
      rcases hs9 with hc_23 | hc_23 | hc_23 | hc_23 | hc_23 | hc_23 | hc_23 | hc_23 | hc_23 | hc_23 | hc_23 | hc_23 | hc_23
      · refine tz_tabIn (pc := 23) (tgt := 88) 0 dX12_count_23 hc_23 (by decide) rfl (by decide) ?_
        refine tz_aload_n (pc := 88) dX12_count_88 rfl rfl ?_
        refine tz_fI (pc := 89) (kz := 9) (v := (J 164 9)) dX12_count_89 fl_X12_347 i_164_9 rfl (Eq.trans (x_14.2 9 (by decide) (by decide)) rfl) (fun r_89 => ?_)
        exact tz_iret (pc := 92) (z := (J 164 9)) dX12_count_92 rfl (Nat.le_of_ble_eq_true rfl) (Nat.le_of_ble_eq_true rfl) ⟨Nat.le_refl _, Nat.le_add_right _ _⟩ ⟨_, rfl, (by omega), ⟨MQr.z hI y_14, MFI.z y_14, MBT.z hI y_14, u9.z y_14⟩⟩
      · refine tz_tabIn (pc := 23) (tgt := 93) 1 dX12_count_23 hc_23 (by decide) rfl (by decide) ?_
        refine tz_aload_n (pc := 93) dX12_count_93 rfl rfl ?_
        refine tz_fR (pc := 94) dX12_count_94 fl_X12_9 r_164_0 ?_
        refine tz_iconst (pc := 97) dX12_count_97 ?_
        refine tz_aL (pc := 98) (z := 0) (v := (J 165 0)) dX12_count_98 a_165 rfl (by decide) (Eq.trans (congrFun (x_14.1 165 rfl) 0) rfl) (fun r_98 => ?_)
        exact tz_iret (pc := 99) (z := (J 165 0)) dX12_count_99 rfl (Nat.le_of_ble_eq_true rfl) (Nat.le_of_ble_eq_true rfl) ⟨Nat.le_refl _, Nat.le_add_right _ _⟩ ⟨_, rfl, (by omega), ⟨MQr.z hI y_14, MFI.z y_14, MBT.z hI y_14, u9.z y_14⟩⟩
      · refine tz_tabIn (pc := 23) (tgt := 100) 2 dX12_count_23 hc_23 (by decide) rfl (by decide) ?_
        refine tz_aload_n (pc := 100) dX12_count_100 rfl rfl ?_
        refine tz_fR (pc := 101) dX12_count_101 fl_X12_9 r_164_0 ?_
        refine tz_bipush (pc := 104) dX12_count_104 (by decide) ?_
        refine tz_aL (pc := 106) (z := 9) (v := (J 165 9)) dX12_count_106 a_165 rfl (by decide) (Eq.trans (congrFun (x_14.1 165 rfl) 9) rfl) (fun r_106 => ?_)
        exact tz_iret (pc := 107) (z := (J 165 9)) dX12_count_107 rfl (Nat.le_of_ble_eq_true rfl) (Nat.le_of_ble_eq_true rfl) ⟨Nat.le_refl _, Nat.le_add_right _ _⟩ ⟨_, rfl, (by omega), ⟨MQr.z hI y_14, MFI.z y_14, MBT.z hI y_14, u9.z y_14⟩⟩
      · refine tz_tabIn (pc := 23) (tgt := 108) 3 dX12_count_23 hc_23 (by decide) rfl (by decide) ?_
        refine tz_aload_n (pc := 108) dX12_count_108 rfl rfl ?_
        refine tz_fR (pc := 109) dX12_count_109 fl_X12_9 r_164_0 ?_
        refine tz_bipush (pc := 112) dX12_count_112 (by decide) ?_
        refine tz_aL (pc := 114) (z := 26) (v := (J 165 26)) dX12_count_114 a_165 rfl (by decide) (Eq.trans (congrFun (x_14.1 165 rfl) 26) rfl) (fun r_114 => ?_)
        exact tz_iret (pc := 115) (z := (J 165 26)) dX12_count_115 rfl (Nat.le_of_ble_eq_true rfl) (Nat.le_of_ble_eq_true rfl) ⟨Nat.le_refl _, Nat.le_add_right _ _⟩ ⟨_, rfl, (by omega), ⟨MQr.z hI y_14, MFI.z y_14, MBT.z hI y_14, u9.z y_14⟩⟩
      · refine tz_tabIn (pc := 23) (tgt := 116) 4 dX12_count_23 hc_23 (by decide) rfl (by decide) ?_
        refine tz_aload_n (pc := 116) dX12_count_116 rfl rfl ?_
        refine tz_fR (pc := 117) dX12_count_117 fl_X12_9 r_164_0 ?_
        refine tz_bipush (pc := 120) dX12_count_120 (by decide) ?_
        refine tz_aL (pc := 122) (z := 39) (v := (J 165 39)) dX12_count_122 a_165 rfl (by decide) (Eq.trans (congrFun (x_14.1 165 rfl) 39) rfl) (fun r_122 => ?_)
        exact tz_iret (pc := 123) (z := (J 165 39)) dX12_count_123 rfl (Nat.le_of_ble_eq_true rfl) (Nat.le_of_ble_eq_true rfl) ⟨Nat.le_refl _, Nat.le_add_right _ _⟩ ⟨_, rfl, (by omega), ⟨MQr.z hI y_14, MFI.z y_14, MBT.z hI y_14, u9.z y_14⟩⟩
      · refine tz_tabIn (pc := 23) (tgt := 124) 5 dX12_count_23 hc_23 (by decide) rfl (by decide) ?_
        refine tz_aload_n (pc := 124) dX12_count_124 rfl rfl ?_
        refine tz_fR (pc := 125) dX12_count_125 fl_X12_9 r_164_0 ?_
        refine tz_bipush (pc := 128) dX12_count_128 (by decide) ?_
        refine tz_aL (pc := 130) (z := 40) (v := (J 165 40)) dX12_count_130 a_165 rfl (by decide) (Eq.trans (congrFun (x_14.1 165 rfl) 40) rfl) (fun r_130 => ?_)
        exact tz_iret (pc := 131) (z := (J 165 40)) dX12_count_131 rfl (Nat.le_of_ble_eq_true rfl) (Nat.le_of_ble_eq_true rfl) ⟨Nat.le_refl _, Nat.le_add_right _ _⟩ ⟨_, rfl, (by omega), ⟨MQr.z hI y_14, MFI.z y_14, MBT.z hI y_14, u9.z y_14⟩⟩
      · refine tz_tabIn (pc := 23) (tgt := 132) 6 dX12_count_23 hc_23 (by decide) rfl (by decide) ?_
        refine tz_aload_n (pc := 132) dX12_count_132 rfl rfl ?_
        refine tz_fR (pc := 133) dX12_count_133 fl_X12_9 r_164_0 ?_
        refine tz_bipush (pc := 136) dX12_count_136 (by decide) ?_
        refine tz_aL (pc := 138) (z := 61) (v := (J 165 61)) dX12_count_138 a_165 rfl (by decide) (Eq.trans (congrFun (x_14.1 165 rfl) 61) rfl) (fun r_138 => ?_)
        exact tz_iret (pc := 139) (z := (J 165 61)) dX12_count_139 rfl (Nat.le_of_ble_eq_true rfl) (Nat.le_of_ble_eq_true rfl) ⟨Nat.le_refl _, Nat.le_add_right _ _⟩ ⟨_, rfl, (by omega), ⟨MQr.z hI y_14, MFI.z y_14, MBT.z hI y_14, u9.z y_14⟩⟩
      · refine tz_tabIn (pc := 23) (tgt := 140) 7 dX12_count_23 hc_23 (by decide) rfl (by decide) ?_
        refine tz_aload_n (pc := 140) dX12_count_140 rfl rfl ?_
        refine tz_fR (pc := 141) dX12_count_141 fl_X12_9 r_164_0 ?_
        refine tz_bipush (pc := 144) dX12_count_144 (by decide) ?_
        refine tz_aL (pc := 146) (z := 62) (v := (J 165 62)) dX12_count_146 a_165 rfl (by decide) (Eq.trans (congrFun (x_14.1 165 rfl) 62) rfl) (fun r_146 => ?_)
        exact tz_iret (pc := 147) (z := (J 165 62)) dX12_count_147 rfl (Nat.le_of_ble_eq_true rfl) (Nat.le_of_ble_eq_true rfl) ⟨Nat.le_refl _, Nat.le_add_right _ _⟩ ⟨_, rfl, (by omega), ⟨MQr.z hI y_14, MFI.z y_14, MBT.z hI y_14, u9.z y_14⟩⟩
      · refine tz_tabIn (pc := 23) (tgt := 148) 8 dX12_count_23 hc_23 (by decide) rfl (by decide) ?_
        refine tz_aload_n (pc := 148) dX12_count_148 rfl rfl ?_
        refine tz_cV (pc := 149) (m_shapes hl n _   0 0 0 (J 164 9) m (hM.z y_14)  ) vl_X12_362 dX12_count_149 o_164 rfl rfl (Nat.le_of_ble_eq_true rfl) ⟨(Nat.le_of_ble_eq_true rfl), (Nat.le_of_ble_eq_true rfl)⟩ rfl rfl (Nat.le_of_ble_eq_true rfl) (Nat.le_of_ble_eq_true rfl) (fun r9 J_149 hq9 => ?_)
        obtain ⟨z_149, rfl, hz_149, rfl⟩ := hq9
        exact tz_iret (pc := 152) (z := z_149) dX12_count_152 rfl (Nat.le_of_ble_eq_true rfl) (Nat.le_of_ble_eq_true rfl) ⟨Nat.le_refl _, Nat.le_add_right _ _⟩ ⟨_, rfl, (by omega), ⟨MQr.z hI y_14, MFI.z y_14, MBT.z hI y_14, u9.z y_14⟩⟩
      · refine tz_tabIn (pc := 23) (tgt := 153) 9 dX12_count_23 hc_23 (by decide) rfl (by decide) ?_
        refine tz_aload_n (pc := 153) dX12_count_153 rfl rfl ?_
        refine tz_iload_n (pc := 154) dX12_count_154 rfl rfl ?_
        refine tz_bipush (pc := 155) dX12_count_155 (by decide) ?_
        refine tz_icmp_ne (pc := 157) (tgt := 164) dX12_count_157 (by decide) (by omega) (by decide) (fun h_157 => ?_) (fun h_157 => ?_)
        · refine tz_iconst (pc := 164) dX12_count_164 ?_
          refine tz_cV (pc := 165) (m_meet hl n _ _ (by decide) 0 0 0 (J 164 9) m (hM.z y_14) (MR.z hL.1 y_14)) vl_X12_365 dX12_count_165 o_164 rfl rfl (Nat.le_of_ble_eq_true rfl) ⟨(Nat.le_of_ble_eq_true rfl), (Nat.le_of_ble_eq_true rfl)⟩ rfl rfl (Nat.le_of_ble_eq_true rfl) (Nat.le_of_ble_eq_true rfl) (fun r9 J_165 hq9 => ?_)
          obtain ⟨z_165, rfl, hz_165, f_165⟩ := hq9
          have x_165 : MZ J_165 J_14 := MZ.f f_165 (by decide) (by decide)
          have y_165 := MZ.tr y_14 x_165
          exact tz_iret (pc := 168) (z := z_165) dX12_count_168 rfl (Nat.le_of_ble_eq_true rfl) (Nat.le_of_ble_eq_true rfl) ⟨Nat.le_refl _, Nat.le_add_right _ _⟩ ⟨_, rfl, (by omega), ⟨MQr.z hI y_165, MFI.z y_165, MBT.z hI y_165, u9.z y_165⟩⟩
        · refine tz_iconst (pc := 160) dX12_count_160 ?_
          refine tz_goto (pc := 161) (tgt := 165) dX12_count_161 (by decide) ?_
          refine tz_cV (pc := 165) (m_meet hl n _ _ (by decide) 0 0 0 (J 164 9) m (hM.z y_14) (MR.z hL.1 y_14)) vl_X12_365 dX12_count_165 o_164 rfl rfl (Nat.le_of_ble_eq_true rfl) ⟨(Nat.le_of_ble_eq_true rfl), (Nat.le_of_ble_eq_true rfl)⟩ rfl rfl (Nat.le_of_ble_eq_true rfl) (Nat.le_of_ble_eq_true rfl) (fun r9 J_165 hq9 => ?_)
          obtain ⟨z_165, rfl, hz_165, f_165⟩ := hq9
          have x_165 : MZ J_165 J_14 := MZ.f f_165 (by decide) (by decide)
          have y_165 := MZ.tr y_14 x_165
          exact tz_iret (pc := 168) (z := z_165) dX12_count_168 rfl (Nat.le_of_ble_eq_true rfl) (Nat.le_of_ble_eq_true rfl) ⟨Nat.le_refl _, Nat.le_add_right _ _⟩ ⟨_, rfl, (by omega), ⟨MQr.z hI y_165, MFI.z y_165, MBT.z hI y_165, u9.z y_165⟩⟩
      · refine tz_tabIn (pc := 23) (tgt := 153) 10 dX12_count_23 hc_23 (by decide) rfl (by decide) ?_
        refine tz_aload_n (pc := 153) dX12_count_153 rfl rfl ?_
        refine tz_iload_n (pc := 154) dX12_count_154 rfl rfl ?_
        refine tz_bipush (pc := 155) dX12_count_155 (by decide) ?_
        refine tz_icmp_ne (pc := 157) (tgt := 164) dX12_count_157 (by decide) (by omega) (by decide) (fun h_157 => ?_) (fun h_157 => ?_)
        · refine tz_iconst (pc := 164) dX12_count_164 ?_
          refine tz_cV (pc := 165) (m_meet hl n _ _ (by decide) 0 0 0 (J 164 9) m (hM.z y_14) (MR.z hL.1 y_14)) vl_X12_365 dX12_count_165 o_164 rfl rfl (Nat.le_of_ble_eq_true rfl) ⟨(Nat.le_of_ble_eq_true rfl), (Nat.le_of_ble_eq_true rfl)⟩ rfl rfl (Nat.le_of_ble_eq_true rfl) (Nat.le_of_ble_eq_true rfl) (fun r9 J_165 hq9 => ?_)
          obtain ⟨z_165, rfl, hz_165, f_165⟩ := hq9
          have x_165 : MZ J_165 J_14 := MZ.f f_165 (by decide) (by decide)
          have y_165 := MZ.tr y_14 x_165
          exact tz_iret (pc := 168) (z := z_165) dX12_count_168 rfl (Nat.le_of_ble_eq_true rfl) (Nat.le_of_ble_eq_true rfl) ⟨Nat.le_refl _, Nat.le_add_right _ _⟩ ⟨_, rfl, (by omega), ⟨MQr.z hI y_165, MFI.z y_165, MBT.z hI y_165, u9.z y_165⟩⟩
        · refine tz_iconst (pc := 160) dX12_count_160 ?_
          refine tz_goto (pc := 161) (tgt := 165) dX12_count_161 (by decide) ?_
          refine tz_cV (pc := 165) (m_meet hl n _ _ (by decide) 0 0 0 (J 164 9) m (hM.z y_14) (MR.z hL.1 y_14)) vl_X12_365 dX12_count_165 o_164 rfl rfl (Nat.le_of_ble_eq_true rfl) ⟨(Nat.le_of_ble_eq_true rfl), (Nat.le_of_ble_eq_true rfl)⟩ rfl rfl (Nat.le_of_ble_eq_true rfl) (Nat.le_of_ble_eq_true rfl) (fun r9 J_165 hq9 => ?_)
          obtain ⟨z_165, rfl, hz_165, f_165⟩ := hq9
          have x_165 : MZ J_165 J_14 := MZ.f f_165 (by decide) (by decide)
          have y_165 := MZ.tr y_14 x_165
          exact tz_iret (pc := 168) (z := z_165) dX12_count_168 rfl (Nat.le_of_ble_eq_true rfl) (Nat.le_of_ble_eq_true rfl) ⟨Nat.le_refl _, Nat.le_add_right _ _⟩ ⟨_, rfl, (by omega), ⟨MQr.z hI y_165, MFI.z y_165, MBT.z hI y_165, u9.z y_165⟩⟩
      · refine tz_tabIn (pc := 23) (tgt := 169) 11 dX12_count_23 hc_23 (by decide) rfl (by decide) ?_
        refine tz_aload_n (pc := 169) dX12_count_169 rfl rfl ?_
        refine tz_fI (pc := 170) (kz := 10) (v := (J 164 10)) dX12_count_170 fl_X12_356 i_164_10 rfl (Eq.trans (x_14.2 10 (by decide) (by decide)) rfl) (fun r_170 => ?_)
        exact tz_iret (pc := 173) (z := (J 164 10)) dX12_count_173 rfl (Nat.le_of_ble_eq_true rfl) (Nat.le_of_ble_eq_true rfl) ⟨Nat.le_refl _, Nat.le_add_right _ _⟩ ⟨_, rfl, (by omega), ⟨MQr.z hI y_14, MFI.z y_14, MBT.z hI y_14, u9.z y_14⟩⟩
      · refine tz_tabIn (pc := 23) (tgt := 174) 12 dX12_count_23 hc_23 (by decide) rfl (by decide) ?_
        refine tz_aload_n (pc := 174) dX12_count_174 rfl rfl ?_
        refine tz_fI (pc := 175) (kz := 19) (v := (J 164 19)) dX12_count_175 fl_X12_328 i_164_19 rfl (Eq.trans (x_14.2 19 (by decide) (by decide)) rfl) (fun r_175 => ?_)
        exact tz_iret (pc := 178) (z := (J 164 19)) dX12_count_178 rfl (Nat.le_of_ble_eq_true rfl) (Nat.le_of_ble_eq_true rfl) ⟨Nat.le_refl _, Nat.le_add_right _ _⟩ ⟨_, rfl, (by omega), ⟨MQr.z hI y_14, MFI.z y_14, MBT.z hI y_14, u9.z y_14⟩⟩
  · refine tz_iconst (pc := 20) dX12_count_20 ?_
    exact tz_iret (pc := 21) (z := 0) dX12_count_21 rfl (Nat.le_of_ble_eq_true rfl) (Nat.le_of_ble_eq_true rfl) ⟨Nat.le_refl _, Nat.le_add_right _ _⟩ ⟨_, rfl, (by decide), ⟨MQr.z hI y_14, MFI.z y_14, MBT.z hI y_14, u9.z y_14⟩⟩

set_option maxHeartbeats 4000000 in
set_option maxRecDepth 100000 in
theorem k_symbol {l : Launch} {G : tb_G} (hl : l.stackTraces = false) (n : Nat) (J : zJ) (x : Int) (y : Int) (hr_x : -2147483648 ≤ x ∧ x < 2147483648) (hr_y : -2147483648 ≤ y ∧ y < 2147483648) (m : Int) (pn : Int) (RR : Int → Int → Int) (hI : MI J m) (u9 : MUr J pn RR)  : tz_Ok l G M_X12_symbol 21 0 0 [.ref 164, zi x, zi y] n J (zqi (fun z J' => MQr J' J ∧ MFI J' J ∧ MBT J' (tbz J) ∧ MUr J' pn RR)) zN := by
  refine tz_Ok.of hl (by decide +kernel) rfl (tb_c1 rfl) (Nat.le_of_ble_eq_true rfl) ?_
  show tz_At l G M_X12_symbol (tb_rm 21 0 0) none (tb_ZM G 0 0 (zQ n 0 (zqi (fun z J' => MQr J' J ∧ MFI J' J ∧ MBT J' (tbz J) ∧ MUr J' pn RR))) (zX n 0 zN)) 0 0 n J 0 [some (.ref 164), some (zi x), some (zi y)] []
  have hT := hI.told
  have hW := hI.row
  have hM := hI.1
  have hL := hI.2.1
  refine tz_aload_n (pc := 0) dX12_symbol_0 rfl rfl ?_
  refine tz_iconst (pc := 1) dX12_symbol_1 ?_
  refine tz_pI (pc := 2) (kz := 8) dX12_symbol_2 fl_X12_68 i_164_8 rfl rfl (by decide) ?_
  refine tz_aload_n (pc := 5) dX12_symbol_5 rfl rfl ?_
  refine tz_aload_n (pc := 6) dX12_symbol_6 rfl rfl ?_
  refine tz_iload_n (pc := 7) dX12_symbol_7 rfl rfl ?_
  refine tz_cV (pc := 8) (m_isSym hl n _ _ (by omega) (by rw [(show ((zup J 164 8 0) : zJ) 164 9 = (J 164 9) from rfl)]; omega)) vl_X12_369 dX12_symbol_8 o_164 rfl rfl (Nat.le_of_ble_eq_true rfl) ⟨(Nat.le_of_ble_eq_true rfl), (Nat.le_of_ble_eq_true rfl)⟩ rfl rfl (Nat.le_of_ble_eq_true rfl) (Nat.le_of_ble_eq_true rfl) (fun r9 J_8 hq9 => ?_)
  obtain ⟨z_8, rfl, hz_8, rfl, ht_8⟩ := hq9
  rw [(show ((zup J 164 8 0) : zJ) 164 9 = (J 164 9) from rfl)] at ht_8
  refine tz_if_eq (pc := 11) (tgt := 27) dX12_symbol_11 (by decide) (by omega) (fun h_11 => ?_) (fun h_11 => ?_)
  · refine tz_iconst (pc := 27) dX12_symbol_27 ?_
    refine tz_iconst (pc := 28) dX12_symbol_28 ?_
    refine tz_cV (pc := 29) (m_right hl n _ _ _ (by decide) (by decide) (by decide)) vl_X12_334 dX12_symbol_29 o_164 rfl rfl (Nat.le_of_ble_eq_true rfl) ⟨(Nat.le_of_ble_eq_true rfl), (Nat.le_of_ble_eq_true rfl)⟩ rfl rfl (Nat.le_of_ble_eq_true rfl) (Nat.le_of_ble_eq_true rfl) (fun r9 J_29 hq9 => ?_)
    obtain ⟨z_29, rfl, hz_29, f_29, b_29, c_29⟩ := hq9
    have x_29 : MZ J_29 (zup J 164 8 0) := MZ.f f_29 (by decide) (by decide)
    have y_29 := MZ.tr (MZ.up (k := 8) MZ.rf (by decide)) x_29
    obtain rfl : z_29 = 0 := by rcases b_29 with e9 | e9; exact e9; exact absurd (c_29 e9).2.2 (by decide)
    refine tz_if_neF (pc := 32) (tgt := 37) (by decide) dX12_symbol_32 (by decide) (by decide) ?_
    refine tz_iconst (pc := 35) dX12_symbol_35 ?_
    exact tz_iret (pc := 36) (z := 0) dX12_symbol_36 rfl (Nat.le_of_ble_eq_true rfl) (Nat.le_of_ble_eq_true rfl) ⟨Nat.le_refl _, Nat.le_add_right _ _⟩ ⟨_, rfl, (by decide), ⟨MQr.z hI y_29, MFI.z y_29, MBT.z hI y_29, u9.z y_29⟩⟩
  · refine tz_iload_n (pc := 14) dX12_symbol_14 rfl rfl ?_
    refine tz_iconst (pc := 15) dX12_symbol_15 ?_
    refine tz_iconst (pc := 16) dX12_symbol_16 ?_
    refine tz_cS (pc := 17) (m_within hl n _ _ _ _ (by omega) (by decide) (by decide)) sl_X12_283 dX12_symbol_17 rfl rfl (Nat.le_of_ble_eq_true rfl) ⟨(Nat.le_of_ble_eq_true rfl), (Nat.le_of_ble_eq_true rfl)⟩ rfl rfl (Nat.le_of_ble_eq_true rfl) (Nat.le_of_ble_eq_true rfl) (fun r9 J_17 hq9 => ?_)
    obtain ⟨z_17, rfl, hz_17, rfl, hw_17⟩ := hq9
    refine tz_if_eq (pc := 20) (tgt := 27) dX12_symbol_20 (by decide) (by omega) (fun h_20 => ?_) (fun h_20 => ?_)
    · refine tz_iconst (pc := 27) dX12_symbol_27 ?_
      refine tz_iconst (pc := 28) dX12_symbol_28 ?_
      refine tz_cV (pc := 29) (m_right hl n _ _ _ (by decide) (by decide) (by decide)) vl_X12_334 dX12_symbol_29 o_164 rfl rfl (Nat.le_of_ble_eq_true rfl) ⟨(Nat.le_of_ble_eq_true rfl), (Nat.le_of_ble_eq_true rfl)⟩ rfl rfl (Nat.le_of_ble_eq_true rfl) (Nat.le_of_ble_eq_true rfl) (fun r9 J_29 hq9 => ?_)
      obtain ⟨z_29, rfl, hz_29, f_29, b_29, c_29⟩ := hq9
      have x_29 : MZ J_29 (zup J 164 8 0) := MZ.f f_29 (by decide) (by decide)
      have y_29 := MZ.tr (MZ.up (k := 8) MZ.rf (by decide)) x_29
      obtain rfl : z_29 = 0 := by rcases b_29 with e9 | e9; exact e9; exact absurd (c_29 e9).2.2 (by decide)
      refine tz_if_neF (pc := 32) (tgt := 37) (by decide) dX12_symbol_32 (by decide) (by decide) ?_
      refine tz_iconst (pc := 35) dX12_symbol_35 ?_
      exact tz_iret (pc := 36) (z := 0) dX12_symbol_36 rfl (Nat.le_of_ble_eq_true rfl) (Nat.le_of_ble_eq_true rfl) ⟨Nat.le_refl _, Nat.le_add_right _ _⟩ ⟨_, rfl, (by decide), ⟨MQr.z hI y_29, MFI.z y_29, MBT.z hI y_29, u9.z y_29⟩⟩
    · refine tz_iconst (pc := 23) dX12_symbol_23 ?_
      refine tz_goto (pc := 24) (tgt := 28) dX12_symbol_24 (by decide) ?_
      refine tz_iconst (pc := 28) dX12_symbol_28 ?_
      refine tz_cV (pc := 29) (m_right hl n _ _ _ (by decide) (by decide) (by decide)) vl_X12_334 dX12_symbol_29 o_164 rfl rfl (Nat.le_of_ble_eq_true rfl) ⟨(Nat.le_of_ble_eq_true rfl), (Nat.le_of_ble_eq_true rfl)⟩ rfl rfl (Nat.le_of_ble_eq_true rfl) (Nat.le_of_ble_eq_true rfl) (fun r9 J_29 hq9 => ?_)
      obtain ⟨z_29, rfl, hz_29, f_29, b_29, c_29⟩ := hq9
      have x_29 : MZ J_29 (zup J 164 8 0) := MZ.f f_29 (by decide) (by decide)
      have y_29 := MZ.tr (MZ.up (k := 8) MZ.rf (by decide)) x_29
      refine tz_if_ne (pc := 32) (tgt := 37) dX12_symbol_32 (by decide) (by omega) (fun h_32 => ?_) (fun h_32 => ?_)
      · refine tz_iload_n (pc := 37) dX12_symbol_37 rfl rfl ?_
        refine tz_if_ne (pc := 38) (tgt := 50) dX12_symbol_38 (by decide) (by omega) (fun h_38 => ?_) (fun h_38 => ?_)
        · refine tz_iload_n (pc := 50) dX12_symbol_50 rfl rfl ?_
          refine tz_iconst (pc := 51) dX12_symbol_51 ?_
          refine tz_icmp_ne (pc := 52) (tgt := 64) dX12_symbol_52 (by decide) (by omega) (by decide) (fun h_52 => ?_) (fun h_52 => ?_)
          · refine tz_iload_n (pc := 64) dX12_symbol_64 rfl rfl ?_
            refine tz_iconst (pc := 65) dX12_symbol_65 ?_
            refine tz_icmp_ne (pc := 66) (tgt := 78) dX12_symbol_66 (by decide) (by omega) (by decide) (fun h_66 => ?_) (fun h_66 => ?_)
            · refine tz_aload_n (pc := 78) dX12_symbol_78 rfl rfl ?_
              refine tz_iload_n (pc := 79) dX12_symbol_79 rfl rfl ?_
              refine tz_iload_n (pc := 80) dX12_symbol_80 rfl rfl ?_
              refine tz_iconst (pc := 81) dX12_symbol_81 ?_
              refine tz_icmp_ne (pc := 82) (tgt := 89) dX12_symbol_82 (by decide) (by omega) (by decide) (fun h_82 => ?_) (fun h_82 => ?_)
              · refine tz_iconst (pc := 89) dX12_symbol_89 ?_
                refine tz_cV (pc := 90) (m_fits hl n _ _ _ (by omega) (by decide) 0 0 0 (J 164 9) m (hM.z y_29) (MR.z hL.1 y_29) (by omega)) vl_X12_372 dX12_symbol_90 o_164 rfl rfl (Nat.le_of_ble_eq_true rfl) ⟨(Nat.le_of_ble_eq_true rfl), (Nat.le_of_ble_eq_true rfl)⟩ rfl rfl (Nat.le_of_ble_eq_true rfl) (Nat.le_of_ble_eq_true rfl) (fun r9 J_90 hq9 => ?_)
                obtain ⟨z_90, rfl, hz_90, rfl⟩ := hq9
                exact tz_iret (pc := 93) (z := z_90) dX12_symbol_93 rfl (Nat.le_of_ble_eq_true rfl) (Nat.le_of_ble_eq_true rfl) ⟨Nat.le_refl _, Nat.le_add_right _ _⟩ ⟨_, rfl, (by omega), ⟨MQr.z hI y_29, MFI.z y_29, MBT.z hI y_29, u9.z y_29⟩⟩
              · refine tz_iconst (pc := 85) dX12_symbol_85 ?_
                refine tz_goto (pc := 86) (tgt := 90) dX12_symbol_86 (by decide) ?_
                refine tz_cV (pc := 90) (m_fits hl n _ _ _ (by omega) (by decide) 0 0 0 (J 164 9) m (hM.z y_29) (MR.z hL.1 y_29) (by omega)) vl_X12_372 dX12_symbol_90 o_164 rfl rfl (Nat.le_of_ble_eq_true rfl) ⟨(Nat.le_of_ble_eq_true rfl), (Nat.le_of_ble_eq_true rfl)⟩ rfl rfl (Nat.le_of_ble_eq_true rfl) (Nat.le_of_ble_eq_true rfl) (fun r9 J_90 hq9 => ?_)
                obtain ⟨z_90, rfl, hz_90, rfl⟩ := hq9
                exact tz_iret (pc := 93) (z := z_90) dX12_symbol_93 rfl (Nat.le_of_ble_eq_true rfl) (Nat.le_of_ble_eq_true rfl) ⟨Nat.le_refl _, Nat.le_add_right _ _⟩ ⟨_, rfl, (by omega), ⟨MQr.z hI y_29, MFI.z y_29, MBT.z hI y_29, u9.z y_29⟩⟩
            · refine tz_aload_n (pc := 69) dX12_symbol_69 rfl rfl ?_
              refine tz_fR (pc := 70) dX12_symbol_70 fl_X12_28 r_164_6 ?_
              refine tz_iload_n (pc := 73) dX12_symbol_73 rfl rfl ?_
              refine tz_aL (pc := 74) (z := x) (v := (J 171 x)) dX12_symbol_74 a_171 rfl (by omega) (Eq.trans (congrFun (x_29.1 171 rfl) x) rfl) (fun r_74 => ?_)
              refine tz_goto (pc := 75) (tgt := 93) dX12_symbol_75 (by decide) ?_
              exact tz_iret (pc := 93) (z := (J 171 x)) dX12_symbol_93 rfl (Nat.le_of_ble_eq_true rfl) (Nat.le_of_ble_eq_true rfl) ⟨Nat.le_refl _, Nat.le_add_right _ _⟩ ⟨_, rfl, (by omega), ⟨MQr.z hI y_29, MFI.z y_29, MBT.z hI y_29, u9.z y_29⟩⟩
          · refine tz_aload_n (pc := 55) dX12_symbol_55 rfl rfl ?_
            refine tz_fR (pc := 56) dX12_symbol_56 fl_X12_25 r_164_5 ?_
            refine tz_iload_n (pc := 59) dX12_symbol_59 rfl rfl ?_
            refine tz_aL (pc := 60) (z := x) (v := (J 170 x)) dX12_symbol_60 a_170 rfl (by omega) (Eq.trans (congrFun (x_29.1 170 rfl) x) rfl) (fun r_60 => ?_)
            refine tz_goto (pc := 61) (tgt := 93) dX12_symbol_61 (by decide) ?_
            exact tz_iret (pc := 93) (z := (J 170 x)) dX12_symbol_93 rfl (Nat.le_of_ble_eq_true rfl) (Nat.le_of_ble_eq_true rfl) ⟨Nat.le_refl _, Nat.le_add_right _ _⟩ ⟨_, rfl, (by omega), ⟨MQr.z hI y_29, MFI.z y_29, MBT.z hI y_29, u9.z y_29⟩⟩
        · refine tz_aload_n (pc := 41) dX12_symbol_41 rfl rfl ?_
          refine tz_fR (pc := 42) dX12_symbol_42 fl_X12_22 r_164_4 ?_
          refine tz_iload_n (pc := 45) dX12_symbol_45 rfl rfl ?_
          refine tz_aL (pc := 46) (z := x) (v := (J 169 x)) dX12_symbol_46 a_169 rfl (by omega) (Eq.trans (congrFun (x_29.1 169 rfl) x) rfl) (fun r_46 => ?_)
          refine tz_goto (pc := 47) (tgt := 93) dX12_symbol_47 (by decide) ?_
          exact tz_iret (pc := 93) (z := (J 169 x)) dX12_symbol_93 rfl (Nat.le_of_ble_eq_true rfl) (Nat.le_of_ble_eq_true rfl) ⟨Nat.le_refl _, Nat.le_add_right _ _⟩ ⟨_, rfl, (by omega), ⟨MQr.z hI y_29, MFI.z y_29, MBT.z hI y_29, u9.z y_29⟩⟩
      · refine tz_iconst (pc := 35) dX12_symbol_35 ?_
        exact tz_iret (pc := 36) (z := 0) dX12_symbol_36 rfl (Nat.le_of_ble_eq_true rfl) (Nat.le_of_ble_eq_true rfl) ⟨Nat.le_refl _, Nat.le_add_right _ _⟩ ⟨_, rfl, (by decide), ⟨MQr.z hI y_29, MFI.z y_29, MBT.z hI y_29, u9.z y_29⟩⟩

set_option maxHeartbeats 4000000 in
set_option maxRecDepth 100000 in
theorem k_rule {l : Launch} {G : tb_G} (hl : l.stackTraces = false) (n : Nat) (J : zJ) (x : Int) (y : Int) (hr_x : -2147483648 ≤ x ∧ x < 2147483648) (hr_y : -2147483648 ≤ y ∧ y < 2147483648) (m : Int) (pn : Int) (RR : Int → Int → Int) (hI : MI J m) (u9 : MUr J pn RR)  : tz_Ok l G M_X12_rule 1 0 0 [.ref 164, zi x, zi y] n J (zqi (fun z J' => MQr J' J ∧ MFI J' J ∧ MBT J' (tbz J) ∧ MUr J' pn RR)) zN := by
  refine tz_Ok.of hl (by decide +kernel) rfl (tb_c1 rfl) (Nat.le_of_ble_eq_true rfl) ?_
  show tz_At l G M_X12_rule (tb_rm 1 0 0) none (tb_ZM G 0 0 (zQ n 0 (zqi (fun z J' => MQr J' J ∧ MFI J' J ∧ MBT J' (tbz J) ∧ MUr J' pn RR))) (zX n 0 zN)) 0 0 n J 0 [some (.ref 164), some (zi x), some (zi y)] []
  have hT := hI.told
  have hW := hI.row
  have hM := hI.1
  have hL := hI.2.1
  refine tz_aload_n (pc := 0) dX12_rule_0 rfl rfl ?_
  refine tz_iconst (pc := 1) dX12_rule_1 ?_
  refine tz_pI (pc := 2) (kz := 8) dX12_rule_2 fl_X12_68 i_164_8 rfl rfl (by decide) ?_
  refine tz_aload_n (pc := 5) dX12_rule_5 rfl rfl ?_
  refine tz_iload_n (pc := 6) dX12_rule_6 rfl rfl ?_
  refine tz_iconst (pc := 7) dX12_rule_7 ?_
  refine tz_aload_n (pc := 8) dX12_rule_8 rfl rfl ?_
  refine tz_fR (pc := 9) dX12_rule_9 fl_X12_9 r_164_0 ?_
  refine tz_bipush (pc := 12) dX12_rule_12 (by decide) ?_
  refine tz_aL (pc := 14) (z := 9) (v := (J 165 9)) dX12_rule_14 a_165 rfl (by decide) rfl (fun r_14 => ?_)
  refine tz_iconst (pc := 15) dX12_rule_15 ?_
  refine tz_isub (pc := 16) (v := (J 165 9) - 1) dX12_rule_16 rfl ?_
  refine tz_cS (pc := 17) (m_within hl n _ _ _ _ (by omega) (by decide) (by omega)) sl_X12_283 dX12_rule_17 rfl rfl (Nat.le_of_ble_eq_true rfl) ⟨(Nat.le_of_ble_eq_true rfl), (Nat.le_of_ble_eq_true rfl)⟩ rfl rfl (Nat.le_of_ble_eq_true rfl) (Nat.le_of_ble_eq_true rfl) (fun r9 J_17 hq9 => ?_)
  obtain ⟨z_17, rfl, hz_17, rfl, hw_17⟩ := hq9
  refine tz_if_eq (pc := 20) (tgt := 36) dX12_rule_20 (by decide) (by omega) (fun h_20 => ?_) (fun h_20 => ?_)
  · refine tz_iconst (pc := 36) dX12_rule_36 ?_
    refine tz_iconst (pc := 37) dX12_rule_37 ?_
    refine tz_cV (pc := 38) (m_right hl n _ _ _ (by decide) (by decide) (by decide)) vl_X12_334 dX12_rule_38 o_164 rfl rfl (Nat.le_of_ble_eq_true rfl) ⟨(Nat.le_of_ble_eq_true rfl), (Nat.le_of_ble_eq_true rfl)⟩ rfl rfl (Nat.le_of_ble_eq_true rfl) (Nat.le_of_ble_eq_true rfl) (fun r9 J_38 hq9 => ?_)
    obtain ⟨z_38, rfl, hz_38, f_38, b_38, c_38⟩ := hq9
    have x_38 : MZ J_38 (zup J 164 8 0) := MZ.f f_38 (by decide) (by decide)
    have y_38 := MZ.tr (MZ.up (k := 8) MZ.rf (by decide)) x_38
    obtain rfl : z_38 = 0 := by rcases b_38 with e9 | e9; exact e9; exact absurd (c_38 e9).2.2 (by decide)
    refine tz_if_eqT (pc := 41) (tgt := 60) (by decide) dX12_rule_41 (by decide) (by decide) ?_
    refine tz_iconst (pc := 60) dX12_rule_60 ?_
    exact tz_iret (pc := 61) (z := 0) dX12_rule_61 rfl (Nat.le_of_ble_eq_true rfl) (Nat.le_of_ble_eq_true rfl) ⟨Nat.le_refl _, Nat.le_add_right _ _⟩ ⟨_, rfl, (by decide), ⟨MQr.z hI y_38, MFI.z y_38, MBT.z hI y_38, u9.z y_38⟩⟩
  · refine tz_iload_n (pc := 23) dX12_rule_23 rfl rfl ?_
    refine tz_iconst (pc := 24) dX12_rule_24 ?_
    refine tz_iconst (pc := 25) dX12_rule_25 ?_
    refine tz_cS (pc := 26) (m_within hl n _ _ _ _ (by omega) (by decide) (by decide)) sl_X12_283 dX12_rule_26 rfl rfl (Nat.le_of_ble_eq_true rfl) ⟨(Nat.le_of_ble_eq_true rfl), (Nat.le_of_ble_eq_true rfl)⟩ rfl rfl (Nat.le_of_ble_eq_true rfl) (Nat.le_of_ble_eq_true rfl) (fun r9 J_26 hq9 => ?_)
    obtain ⟨z_26, rfl, hz_26, rfl, hw_26⟩ := hq9
    refine tz_if_eq (pc := 29) (tgt := 36) dX12_rule_29 (by decide) (by omega) (fun h_29 => ?_) (fun h_29 => ?_)
    · refine tz_iconst (pc := 36) dX12_rule_36 ?_
      refine tz_iconst (pc := 37) dX12_rule_37 ?_
      refine tz_cV (pc := 38) (m_right hl n _ _ _ (by decide) (by decide) (by decide)) vl_X12_334 dX12_rule_38 o_164 rfl rfl (Nat.le_of_ble_eq_true rfl) ⟨(Nat.le_of_ble_eq_true rfl), (Nat.le_of_ble_eq_true rfl)⟩ rfl rfl (Nat.le_of_ble_eq_true rfl) (Nat.le_of_ble_eq_true rfl) (fun r9 J_38 hq9 => ?_)
      obtain ⟨z_38, rfl, hz_38, f_38, b_38, c_38⟩ := hq9
      have x_38 : MZ J_38 (zup J 164 8 0) := MZ.f f_38 (by decide) (by decide)
      have y_38 := MZ.tr (MZ.up (k := 8) MZ.rf (by decide)) x_38
      obtain rfl : z_38 = 0 := by rcases b_38 with e9 | e9; exact e9; exact absurd (c_38 e9).2.2 (by decide)
      refine tz_if_eqT (pc := 41) (tgt := 60) (by decide) dX12_rule_41 (by decide) (by decide) ?_
      refine tz_iconst (pc := 60) dX12_rule_60 ?_
      exact tz_iret (pc := 61) (z := 0) dX12_rule_61 rfl (Nat.le_of_ble_eq_true rfl) (Nat.le_of_ble_eq_true rfl) ⟨Nat.le_refl _, Nat.le_add_right _ _⟩ ⟨_, rfl, (by decide), ⟨MQr.z hI y_38, MFI.z y_38, MBT.z hI y_38, u9.z y_38⟩⟩
    · refine tz_iconst (pc := 32) dX12_rule_32 ?_
      refine tz_goto (pc := 33) (tgt := 37) dX12_rule_33 (by decide) ?_
      refine tz_iconst (pc := 37) dX12_rule_37 ?_
      refine tz_cV (pc := 38) (m_right hl n _ _ _ (by decide) (by decide) (by decide)) vl_X12_334 dX12_rule_38 o_164 rfl rfl (Nat.le_of_ble_eq_true rfl) ⟨(Nat.le_of_ble_eq_true rfl), (Nat.le_of_ble_eq_true rfl)⟩ rfl rfl (Nat.le_of_ble_eq_true rfl) (Nat.le_of_ble_eq_true rfl) (fun r9 J_38 hq9 => ?_)
      obtain ⟨z_38, rfl, hz_38, f_38, b_38, c_38⟩ := hq9
      have x_38 : MZ J_38 (zup J 164 8 0) := MZ.f f_38 (by decide) (by decide)
      have y_38 := MZ.tr (MZ.up (k := 8) MZ.rf (by decide)) x_38
      refine tz_if_eq (pc := 41) (tgt := 60) dX12_rule_41 (by decide) (by omega) (fun h_41 => ?_) (fun h_41 => ?_)
      · refine tz_iconst (pc := 60) dX12_rule_60 ?_
        exact tz_iret (pc := 61) (z := 0) dX12_rule_61 rfl (Nat.le_of_ble_eq_true rfl) (Nat.le_of_ble_eq_true rfl) ⟨Nat.le_refl _, Nat.le_add_right _ _⟩ ⟨_, rfl, (by decide), ⟨MQr.z hI y_38, MFI.z y_38, MBT.z hI y_38, u9.z y_38⟩⟩
      · refine tz_aload_n (pc := 44) dX12_rule_44 rfl rfl ?_
        refine tz_fR (pc := 45) dX12_rule_45 fl_X12_9 r_164_0 ?_
        refine tz_bipush (pc := 48) dX12_rule_48 (by decide) ?_
        refine tz_iconst (pc := 50) dX12_rule_50 ?_
        refine tz_iload_n (pc := 51) dX12_rule_51 rfl rfl ?_
        refine tz_imul (pc := 52) (v := 2 * x) dX12_rule_52 rfl ?_
        refine tz_iadd (pc := 53) (v := 10 + (2 * x)) dX12_rule_53 rfl ?_
        refine tz_iload_n (pc := 54) dX12_rule_54 rfl rfl ?_
        refine tz_iadd (pc := 55) (v := (10 + (2 * x)) + y) dX12_rule_55 rfl ?_
        refine tz_aL (pc := 56) (z := ((10 + (2 * x)) + y)) (v := (J 165 ((10 + (2 * x)) + y))) dX12_rule_56 a_165 rfl (by omega) (Eq.trans (congrFun (x_38.1 165 rfl) ((10 + (2 * x)) + y)) rfl) (fun r_56 => ?_)
        refine tz_goto (pc := 57) (tgt := 61) dX12_rule_57 (by decide) ?_
        exact tz_iret (pc := 61) (z := (J 165 ((10 + (2 * x)) + y))) dX12_rule_61 rfl (Nat.le_of_ble_eq_true rfl) (Nat.le_of_ble_eq_true rfl) ⟨Nat.le_refl _, Nat.le_add_right _ _⟩ ⟨_, rfl, (by omega), ⟨MQr.z hI y_38, MFI.z y_38, MBT.z hI y_38, u9.z y_38⟩⟩

set_option maxHeartbeats 4000000 in
set_option maxRecDepth 100000 in
theorem k_entry {l : Launch} {G : tb_G} (hl : l.stackTraces = false) (n : Nat) (J : zJ) (x : Int) (hr_x : -2147483648 ≤ x ∧ x < 2147483648) (m : Int) (pn : Int) (RR : Int → Int → Int) (hI : MI J m) (u9 : MUr J pn RR)  : tz_Ok l G M_X12_entry 1 0 0 [.ref 164, zi x] n J (zqi (fun z J' => MQr J' J ∧ MFI J' J ∧ MBT J' (tbz J) ∧ MUr J' pn RR)) zN := by
  refine tz_Ok.of hl (by decide +kernel) rfl (tb_c1 rfl) (Nat.le_of_ble_eq_true rfl) ?_
  show tz_At l G M_X12_entry (tb_rm 1 0 0) none (tb_ZM G 0 0 (zQ n 0 (zqi (fun z J' => MQr J' J ∧ MFI J' J ∧ MBT J' (tbz J) ∧ MUr J' pn RR))) (zX n 0 zN)) 0 0 n J 0 [some (.ref 164), some (zi x)] []
  have hT := hI.told
  have hW := hI.row
  have hM := hI.1
  have hL := hI.2.1
  refine tz_aload_n (pc := 0) dX12_entry_0 rfl rfl ?_
  refine tz_iconst (pc := 1) dX12_entry_1 ?_
  refine tz_pI (pc := 2) (kz := 8) dX12_entry_2 fl_X12_68 i_164_8 rfl rfl (by decide) ?_
  refine tz_aload_n (pc := 5) dX12_entry_5 rfl rfl ?_
  refine tz_iload_n (pc := 6) dX12_entry_6 rfl rfl ?_
  refine tz_iconst (pc := 7) dX12_entry_7 ?_
  refine tz_aload_n (pc := 8) dX12_entry_8 rfl rfl ?_
  refine tz_fR (pc := 9) dX12_entry_9 fl_X12_9 r_164_0 ?_
  refine tz_bipush (pc := 12) dX12_entry_12 (by decide) ?_
  refine tz_aL (pc := 14) (z := 26) (v := (J 165 26)) dX12_entry_14 a_165 rfl (by decide) rfl (fun r_14 => ?_)
  refine tz_iconst (pc := 15) dX12_entry_15 ?_
  refine tz_isub (pc := 16) (v := (J 165 26) - 1) dX12_entry_16 rfl ?_
  refine tz_cS (pc := 17) (m_within hl n _ _ _ _ (by omega) (by decide) (by omega)) sl_X12_283 dX12_entry_17 rfl rfl (Nat.le_of_ble_eq_true rfl) ⟨(Nat.le_of_ble_eq_true rfl), (Nat.le_of_ble_eq_true rfl)⟩ rfl rfl (Nat.le_of_ble_eq_true rfl) (Nat.le_of_ble_eq_true rfl) (fun r9 J_17 hq9 => ?_)
  obtain ⟨z_17, rfl, hz_17, rfl, hw_17⟩ := hq9
  refine tz_iconst (pc := 20) dX12_entry_20 ?_
  refine tz_cV (pc := 21) (m_right hl n _ _ _ (by omega) (by decide) (by decide)) vl_X12_334 dX12_entry_21 o_164 rfl rfl (Nat.le_of_ble_eq_true rfl) ⟨(Nat.le_of_ble_eq_true rfl), (Nat.le_of_ble_eq_true rfl)⟩ rfl rfl (Nat.le_of_ble_eq_true rfl) (Nat.le_of_ble_eq_true rfl) (fun r9 J_21 hq9 => ?_)
  obtain ⟨z_21, rfl, hz_21, f_21, b_21, c_21⟩ := hq9
  have x_21 : MZ J_21 (zup J 164 8 0) := MZ.f f_21 (by decide) (by decide)
  have y_21 := MZ.tr (MZ.up (k := 8) MZ.rf (by decide)) x_21
  have e_21 : z_21 = 1 → ¬ z_17 = 0 := fun q9 => (c_21 q9).2.2.resolve_right (by decide)
  refine tz_if_eq (pc := 24) (tgt := 39) dX12_entry_24 (by decide) (by omega) (fun h_24 => ?_) (fun h_24 => ?_)
  · refine tz_iconst (pc := 39) dX12_entry_39 ?_
    exact tz_iret (pc := 40) (z := 0) dX12_entry_40 rfl (Nat.le_of_ble_eq_true rfl) (Nat.le_of_ble_eq_true rfl) ⟨Nat.le_refl _, Nat.le_add_right _ _⟩ ⟨_, rfl, (by decide), ⟨MQr.z hI y_21, MFI.z y_21, MBT.z hI y_21, u9.z y_21⟩⟩
  · refine tz_aload_n (pc := 27) dX12_entry_27 rfl rfl ?_
    refine tz_fR (pc := 28) dX12_entry_28 fl_X12_9 r_164_0 ?_
    refine tz_bipush (pc := 31) dX12_entry_31 (by decide) ?_
    refine tz_iload_n (pc := 33) dX12_entry_33 rfl rfl ?_
    refine tz_iadd (pc := 34) (v := 27 + x) dX12_entry_34 rfl ?_
    refine tz_aL (pc := 35) (z := (27 + x)) (v := (J 165 (27 + x))) dX12_entry_35 a_165 rfl (by omega) (Eq.trans (congrFun (x_21.1 165 rfl) (27 + x)) rfl) (fun r_35 => ?_)
    refine tz_goto (pc := 36) (tgt := 40) dX12_entry_36 (by decide) ?_
    exact tz_iret (pc := 40) (z := (J 165 (27 + x))) dX12_entry_40 rfl (Nat.le_of_ble_eq_true rfl) (Nat.le_of_ble_eq_true rfl) ⟨Nat.le_refl _, Nat.le_add_right _ _⟩ ⟨_, rfl, (by omega), ⟨MQr.z hI y_21, MFI.z y_21, MBT.z hI y_21, u9.z y_21⟩⟩

set_option maxHeartbeats 4000000 in
set_option maxRecDepth 100000 in
theorem k_memo {l : Launch} {G : tb_G} (hl : l.stackTraces = false) (n : Nat) (J : zJ) (x : Int) (y : Int) (hr_x : -2147483648 ≤ x ∧ x < 2147483648) (hr_y : -2147483648 ≤ y ∧ y < 2147483648) (m : Int) (pn : Int) (RR : Int → Int → Int) (hI : MI J m) (u9 : MUr J pn RR)  : tz_Ok l G M_X12_memo 1 0 0 [.ref 164, zi x, zi y] n J (zqi (fun z J' => MQr J' J ∧ MFI J' J ∧ MBT J' (tbz J) ∧ MUr J' pn RR)) zN := by
  refine tz_Ok.of hl (by decide +kernel) rfl (tb_c1 rfl) (Nat.le_of_ble_eq_true rfl) ?_
  show tz_At l G M_X12_memo (tb_rm 1 0 0) none (tb_ZM G 0 0 (zQ n 0 (zqi (fun z J' => MQr J' J ∧ MFI J' J ∧ MBT J' (tbz J) ∧ MUr J' pn RR))) (zX n 0 zN)) 0 0 n J 0 [some (.ref 164), some (zi x), some (zi y)] []
  have hT := hI.told
  have hW := hI.row
  have hM := hI.1
  have hL := hI.2.1
  refine tz_aload_n (pc := 0) dX12_memo_0 rfl rfl ?_
  refine tz_iconst (pc := 1) dX12_memo_1 ?_
  refine tz_pI (pc := 2) (kz := 8) dX12_memo_2 fl_X12_68 i_164_8 rfl rfl (by decide) ?_
  refine tz_aload_n (pc := 5) dX12_memo_5 rfl rfl ?_
  refine tz_iload_n (pc := 6) dX12_memo_6 rfl rfl ?_
  refine tz_iconst (pc := 7) dX12_memo_7 ?_
  refine tz_aload_n (pc := 8) dX12_memo_8 rfl rfl ?_
  refine tz_fR (pc := 9) dX12_memo_9 fl_X12_9 r_164_0 ?_
  refine tz_bipush (pc := 12) dX12_memo_12 (by decide) ?_
  refine tz_aL (pc := 14) (z := 40) (v := (J 165 40)) dX12_memo_14 a_165 rfl (by decide) rfl (fun r_14 => ?_)
  refine tz_iconst (pc := 15) dX12_memo_15 ?_
  refine tz_isub (pc := 16) (v := (J 165 40) - 1) dX12_memo_16 rfl ?_
  refine tz_cS (pc := 17) (m_within hl n _ _ _ _ (by omega) (by decide) (by omega)) sl_X12_283 dX12_memo_17 rfl rfl (Nat.le_of_ble_eq_true rfl) ⟨(Nat.le_of_ble_eq_true rfl), (Nat.le_of_ble_eq_true rfl)⟩ rfl rfl (Nat.le_of_ble_eq_true rfl) (Nat.le_of_ble_eq_true rfl) (fun r9 J_17 hq9 => ?_)
  obtain ⟨z_17, rfl, hz_17, rfl, hw_17⟩ := hq9
  refine tz_if_eq (pc := 20) (tgt := 36) dX12_memo_20 (by decide) (by omega) (fun h_20 => ?_) (fun h_20 => ?_)
  · refine tz_iconst (pc := 36) dX12_memo_36 ?_
    refine tz_iconst (pc := 37) dX12_memo_37 ?_
    refine tz_cV (pc := 38) (m_right hl n _ _ _ (by decide) (by decide) (by decide)) vl_X12_334 dX12_memo_38 o_164 rfl rfl (Nat.le_of_ble_eq_true rfl) ⟨(Nat.le_of_ble_eq_true rfl), (Nat.le_of_ble_eq_true rfl)⟩ rfl rfl (Nat.le_of_ble_eq_true rfl) (Nat.le_of_ble_eq_true rfl) (fun r9 J_38 hq9 => ?_)
    obtain ⟨z_38, rfl, hz_38, f_38, b_38, c_38⟩ := hq9
    have x_38 : MZ J_38 (zup J 164 8 0) := MZ.f f_38 (by decide) (by decide)
    have y_38 := MZ.tr (MZ.up (k := 8) MZ.rf (by decide)) x_38
    obtain rfl : z_38 = 0 := by rcases b_38 with e9 | e9; exact e9; exact absurd (c_38 e9).2.2 (by decide)
    refine tz_if_eqT (pc := 41) (tgt := 60) (by decide) dX12_memo_41 (by decide) (by decide) ?_
    refine tz_iconst (pc := 60) dX12_memo_60 ?_
    exact tz_iret (pc := 61) (z := 0) dX12_memo_61 rfl (Nat.le_of_ble_eq_true rfl) (Nat.le_of_ble_eq_true rfl) ⟨Nat.le_refl _, Nat.le_add_right _ _⟩ ⟨_, rfl, (by decide), ⟨MQr.z hI y_38, MFI.z y_38, MBT.z hI y_38, u9.z y_38⟩⟩
  · refine tz_iload_n (pc := 23) dX12_memo_23 rfl rfl ?_
    refine tz_iconst (pc := 24) dX12_memo_24 ?_
    refine tz_iconst (pc := 25) dX12_memo_25 ?_
    refine tz_cS (pc := 26) (m_within hl n _ _ _ _ (by omega) (by decide) (by decide)) sl_X12_283 dX12_memo_26 rfl rfl (Nat.le_of_ble_eq_true rfl) ⟨(Nat.le_of_ble_eq_true rfl), (Nat.le_of_ble_eq_true rfl)⟩ rfl rfl (Nat.le_of_ble_eq_true rfl) (Nat.le_of_ble_eq_true rfl) (fun r9 J_26 hq9 => ?_)
    obtain ⟨z_26, rfl, hz_26, rfl, hw_26⟩ := hq9
    refine tz_if_eq (pc := 29) (tgt := 36) dX12_memo_29 (by decide) (by omega) (fun h_29 => ?_) (fun h_29 => ?_)
    · refine tz_iconst (pc := 36) dX12_memo_36 ?_
      refine tz_iconst (pc := 37) dX12_memo_37 ?_
      refine tz_cV (pc := 38) (m_right hl n _ _ _ (by decide) (by decide) (by decide)) vl_X12_334 dX12_memo_38 o_164 rfl rfl (Nat.le_of_ble_eq_true rfl) ⟨(Nat.le_of_ble_eq_true rfl), (Nat.le_of_ble_eq_true rfl)⟩ rfl rfl (Nat.le_of_ble_eq_true rfl) (Nat.le_of_ble_eq_true rfl) (fun r9 J_38 hq9 => ?_)
      obtain ⟨z_38, rfl, hz_38, f_38, b_38, c_38⟩ := hq9
      have x_38 : MZ J_38 (zup J 164 8 0) := MZ.f f_38 (by decide) (by decide)
      have y_38 := MZ.tr (MZ.up (k := 8) MZ.rf (by decide)) x_38
      obtain rfl : z_38 = 0 := by rcases b_38 with e9 | e9; exact e9; exact absurd (c_38 e9).2.2 (by decide)
      refine tz_if_eqT (pc := 41) (tgt := 60) (by decide) dX12_memo_41 (by decide) (by decide) ?_
      refine tz_iconst (pc := 60) dX12_memo_60 ?_
      exact tz_iret (pc := 61) (z := 0) dX12_memo_61 rfl (Nat.le_of_ble_eq_true rfl) (Nat.le_of_ble_eq_true rfl) ⟨Nat.le_refl _, Nat.le_add_right _ _⟩ ⟨_, rfl, (by decide), ⟨MQr.z hI y_38, MFI.z y_38, MBT.z hI y_38, u9.z y_38⟩⟩
    · refine tz_iconst (pc := 32) dX12_memo_32 ?_
      refine tz_goto (pc := 33) (tgt := 37) dX12_memo_33 (by decide) ?_
      refine tz_iconst (pc := 37) dX12_memo_37 ?_
      refine tz_cV (pc := 38) (m_right hl n _ _ _ (by decide) (by decide) (by decide)) vl_X12_334 dX12_memo_38 o_164 rfl rfl (Nat.le_of_ble_eq_true rfl) ⟨(Nat.le_of_ble_eq_true rfl), (Nat.le_of_ble_eq_true rfl)⟩ rfl rfl (Nat.le_of_ble_eq_true rfl) (Nat.le_of_ble_eq_true rfl) (fun r9 J_38 hq9 => ?_)
      obtain ⟨z_38, rfl, hz_38, f_38, b_38, c_38⟩ := hq9
      have x_38 : MZ J_38 (zup J 164 8 0) := MZ.f f_38 (by decide) (by decide)
      have y_38 := MZ.tr (MZ.up (k := 8) MZ.rf (by decide)) x_38
      refine tz_if_eq (pc := 41) (tgt := 60) dX12_memo_41 (by decide) (by omega) (fun h_41 => ?_) (fun h_41 => ?_)
      · refine tz_iconst (pc := 60) dX12_memo_60 ?_
        exact tz_iret (pc := 61) (z := 0) dX12_memo_61 rfl (Nat.le_of_ble_eq_true rfl) (Nat.le_of_ble_eq_true rfl) ⟨Nat.le_refl _, Nat.le_add_right _ _⟩ ⟨_, rfl, (by decide), ⟨MQr.z hI y_38, MFI.z y_38, MBT.z hI y_38, u9.z y_38⟩⟩
      · refine tz_aload_n (pc := 44) dX12_memo_44 rfl rfl ?_
        refine tz_fR (pc := 45) dX12_memo_45 fl_X12_9 r_164_0 ?_
        refine tz_bipush (pc := 48) dX12_memo_48 (by decide) ?_
        refine tz_iconst (pc := 50) dX12_memo_50 ?_
        refine tz_iload_n (pc := 51) dX12_memo_51 rfl rfl ?_
        refine tz_imul (pc := 52) (v := 2 * x) dX12_memo_52 rfl ?_
        refine tz_iadd (pc := 53) (v := 41 + (2 * x)) dX12_memo_53 rfl ?_
        refine tz_iload_n (pc := 54) dX12_memo_54 rfl rfl ?_
        refine tz_iadd (pc := 55) (v := (41 + (2 * x)) + y) dX12_memo_55 rfl ?_
        refine tz_aL (pc := 56) (z := ((41 + (2 * x)) + y)) (v := (J 165 ((41 + (2 * x)) + y))) dX12_memo_56 a_165 rfl (by omega) (Eq.trans (congrFun (x_38.1 165 rfl) ((41 + (2 * x)) + y)) rfl) (fun r_56 => ?_)
        refine tz_goto (pc := 57) (tgt := 61) dX12_memo_57 (by decide) ?_
        exact tz_iret (pc := 61) (z := (J 165 ((41 + (2 * x)) + y))) dX12_memo_61 rfl (Nat.le_of_ble_eq_true rfl) (Nat.le_of_ble_eq_true rfl) ⟨Nat.le_refl _, Nat.le_add_right _ _⟩ ⟨_, rfl, (by omega), ⟨MQr.z hI y_38, MFI.z y_38, MBT.z hI y_38, u9.z y_38⟩⟩

set_option maxHeartbeats 4000000 in
set_option maxRecDepth 100000 in
theorem k_bound {l : Launch} {G : tb_G} (hl : l.stackTraces = false) (n : Nat) (J : zJ) (x : Int) (hr_x : -2147483648 ≤ x ∧ x < 2147483648) (m : Int) (pn : Int) (RR : Int → Int → Int) (hI : MI J m) (u9 : MUr J pn RR)  : tz_Ok l G M_X12_bound 1 0 0 [.ref 164, zi x] n J (zqi (fun z J' => MQr J' J ∧ MFI J' J ∧ MBT J' (tbz J) ∧ MUr J' pn RR)) zN := by
  refine tz_Ok.of hl (by decide +kernel) rfl (tb_c1 rfl) (Nat.le_of_ble_eq_true rfl) ?_
  show tz_At l G M_X12_bound (tb_rm 1 0 0) none (tb_ZM G 0 0 (zQ n 0 (zqi (fun z J' => MQr J' J ∧ MFI J' J ∧ MBT J' (tbz J) ∧ MUr J' pn RR))) (zX n 0 zN)) 0 0 n J 0 [some (.ref 164), some (zi x)] []
  have hT := hI.told
  have hW := hI.row
  have hM := hI.1
  have hL := hI.2.1
  have hB := hL.2.2.2
  refine tz_aload_n (pc := 0) dX12_bound_0 rfl rfl ?_
  refine tz_iconst (pc := 1) dX12_bound_1 ?_
  refine tz_pI (pc := 2) (kz := 8) dX12_bound_2 fl_X12_68 i_164_8 rfl rfl (by decide) ?_
  refine tz_aload_n (pc := 5) dX12_bound_5 rfl rfl ?_
  refine tz_iload_n (pc := 6) dX12_bound_6 rfl rfl ?_
  refine tz_iconst (pc := 7) dX12_bound_7 ?_
  refine tz_bipush (pc := 8) dX12_bound_8 (by decide) ?_
  refine tz_cS (pc := 10) (m_within hl n _ _ _ _ (by omega) (by decide) (by decide)) sl_X12_283 dX12_bound_10 rfl rfl (Nat.le_of_ble_eq_true rfl) ⟨(Nat.le_of_ble_eq_true rfl), (Nat.le_of_ble_eq_true rfl)⟩ rfl rfl (Nat.le_of_ble_eq_true rfl) (Nat.le_of_ble_eq_true rfl) (fun r9 J_10 hq9 => ?_)
  obtain ⟨z_10, rfl, hz_10, rfl, hw_10⟩ := hq9
  refine tz_iconst (pc := 13) dX12_bound_13 ?_
  refine tz_cV (pc := 14) (m_right hl n _ _ _ (by omega) (by decide) (by decide)) vl_X12_334 dX12_bound_14 o_164 rfl rfl (Nat.le_of_ble_eq_true rfl) ⟨(Nat.le_of_ble_eq_true rfl), (Nat.le_of_ble_eq_true rfl)⟩ rfl rfl (Nat.le_of_ble_eq_true rfl) (Nat.le_of_ble_eq_true rfl) (fun r9 J_14 hq9 => ?_)
  obtain ⟨z_14, rfl, hz_14, f_14, b_14, c_14⟩ := hq9
  have x_14 : MZ J_14 (zup J 164 8 0) := MZ.f f_14 (by decide) (by decide)
  have y_14 := MZ.tr (MZ.up (k := 8) MZ.rf (by decide)) x_14
  have e_14 : z_14 = 1 → ¬ z_10 = 0 := fun q9 => (c_14 q9).2.2.resolve_right (by decide)
  refine tz_if_eq (pc := 17) (tgt := 33) dX12_bound_17 (by decide) (by omega) (fun h_17 => ?_) (fun h_17 => ?_)
  · refine tz_iconst (pc := 33) dX12_bound_33 ?_
    exact tz_iret (pc := 34) (z := 0) dX12_bound_34 rfl (Nat.le_of_ble_eq_true rfl) (Nat.le_of_ble_eq_true rfl) ⟨Nat.le_refl _, Nat.le_add_right _ _⟩ ⟨_, rfl, (by decide), ⟨MQr.z hI y_14, MFI.z y_14, MBT.z hI y_14, u9.z y_14⟩⟩
  · refine tz_aload_n (pc := 20) dX12_bound_20 rfl rfl ?_
    refine tz_fR (pc := 21) dX12_bound_21 fl_X12_9 r_164_0 ?_
    refine tz_iconst (pc := 24) dX12_bound_24 ?_
    refine tz_iload_n (pc := 25) dX12_bound_25 rfl rfl ?_
    refine tz_iadd (pc := 26) (v := 1 + x) dX12_bound_26 rfl ?_
    refine tz_aL (pc := 27) (z := (1 + x)) (v := (J 165 (1 + x))) dX12_bound_27 a_165 rfl (by omega) (Eq.trans (congrFun (x_14.1 165 rfl) (1 + x)) rfl) (fun r_27 => ?_)
    refine tz_iconst (pc := 28) dX12_bound_28 ?_
    refine tz_isub (pc := 29) (v := (J 165 (1 + x)) - 1) dX12_bound_29 rfl ?_
    refine tz_goto (pc := 30) (tgt := 34) dX12_bound_30 (by decide) ?_
    refine tz_tw ?_
    have rw_34 := zw_rg ((J 165 (1 + x)) - 1)
    exact tz_iret (pc := 34) (z := (zw ((J 165 (1 + x)) - 1))) dX12_bound_34 rfl (Nat.le_of_ble_eq_true rfl) (Nat.le_of_ble_eq_true rfl) ⟨Nat.le_refl _, Nat.le_add_right _ _⟩ ⟨_, rfl, (zw_rg _), ⟨MQr.z hI y_14, MFI.z y_14, MBT.z hI y_14, u9.z y_14⟩⟩

set_option maxHeartbeats 4000000 in
set_option maxRecDepth 100000 in
theorem k_term {l : Launch} {G : tb_G} (hl : l.stackTraces = false) (n : Nat) (J : zJ) (x : Int) (y : Int) (hr_x : -2147483648 ≤ x ∧ x < 2147483648) (hr_y : -2147483648 ≤ y ∧ y < 2147483648) (m : Int) (pn : Int) (RR : Int → Int → Int) (hI : MI J m) (u9 : MUr J pn RR)  : tz_Ok l G M_X12_term 20 0 0 [.ref 164, zi x, zi y] n J (zqi (fun z J' => MQr J' J ∧ MFI J' J ∧ MBT J' (tbz J) ∧ MUr J' pn RR)) zN := by
  refine tz_Ok.of hl (by decide +kernel) rfl (tb_c1 rfl) (Nat.le_of_ble_eq_true rfl) ?_
  show tz_At l G M_X12_term (tb_rm 20 0 0) none (tb_ZM G 0 0 (zQ n 0 (zqi (fun z J' => MQr J' J ∧ MFI J' J ∧ MBT J' (tbz J) ∧ MUr J' pn RR))) (zX n 0 zN)) 0 0 n J 0 [some (.ref 164), some (zi x), some (zi y)] []
  have hT := hI.told
  have hW := hI.row
  have hM := hI.1
  have hL := hI.2.1
  refine tz_aload_n (pc := 0) dX12_term_0 rfl rfl ?_
  refine tz_iconst (pc := 1) dX12_term_1 ?_
  refine tz_pI (pc := 2) (kz := 8) dX12_term_2 fl_X12_68 i_164_8 rfl rfl (by decide) ?_
  refine tz_aload_n (pc := 5) dX12_term_5 rfl rfl ?_
  refine tz_iload_n (pc := 6) dX12_term_6 rfl rfl ?_
  refine tz_cV (pc := 7) (m_isTermNow hl n _ _ (by omega) (by rw [(show ((zup J 164 8 0) : zJ) 165 0 = (J 165 0) from rfl)]; omega)) vl_X12_379 dX12_term_7 o_164 rfl rfl (Nat.le_of_ble_eq_true rfl) ⟨(Nat.le_of_ble_eq_true rfl), (Nat.le_of_ble_eq_true rfl)⟩ rfl rfl (Nat.le_of_ble_eq_true rfl) (Nat.le_of_ble_eq_true rfl) (fun r9 J_7 hq9 => ?_)
  obtain ⟨z_7, rfl, hz_7, f_7, b_7, c_7⟩ := hq9
  have x_7 : MZ J_7 (zup J 164 8 0) := MZ.f f_7 (by decide) (by decide)
  have y_7 := MZ.tr (MZ.up (k := 8) MZ.rf (by decide)) x_7
  rw [(show ((zup J 164 8 0) : zJ) 165 0 = (J 165 0) from rfl)] at c_7
  refine tz_if_eq (pc := 10) (tgt := 28) dX12_term_10 (by decide) (by omega) (fun h_10 => ?_) (fun h_10 => ?_)
  · refine tz_iconst (pc := 28) dX12_term_28 ?_
    exact tz_iret (pc := 29) (z := 0) dX12_term_29 rfl (Nat.le_of_ble_eq_true rfl) (Nat.le_of_ble_eq_true rfl) ⟨Nat.le_refl _, Nat.le_add_right _ _⟩ ⟨_, rfl, (by decide), ⟨MQr.z hI y_7, MFI.z y_7, MBT.z hI y_7, u9.z y_7⟩⟩
  · refine tz_aload_n (pc := 13) dX12_term_13 rfl rfl ?_
    refine tz_iload_n (pc := 14) dX12_term_14 rfl rfl ?_
    refine tz_iconst (pc := 15) dX12_term_15 ?_
    refine tz_bipush (pc := 16) dX12_term_16 (by decide) ?_
    refine tz_cS (pc := 18) (m_within hl n _ _ _ _ (by omega) (by decide) (by decide)) sl_X12_283 dX12_term_18 rfl rfl (Nat.le_of_ble_eq_true rfl) ⟨(Nat.le_of_ble_eq_true rfl), (Nat.le_of_ble_eq_true rfl)⟩ rfl rfl (Nat.le_of_ble_eq_true rfl) (Nat.le_of_ble_eq_true rfl) (fun r9 J_18 hq9 => ?_)
    obtain ⟨z_18, rfl, hz_18, rfl, hw_18⟩ := hq9
    refine tz_iconst (pc := 21) dX12_term_21 ?_
    refine tz_cV (pc := 22) (m_right hl n _ _ _ (by omega) (by decide) (by decide)) vl_X12_334 dX12_term_22 o_164 rfl rfl (Nat.le_of_ble_eq_true rfl) ⟨(Nat.le_of_ble_eq_true rfl), (Nat.le_of_ble_eq_true rfl)⟩ rfl rfl (Nat.le_of_ble_eq_true rfl) (Nat.le_of_ble_eq_true rfl) (fun r9 J_22 hq9 => ?_)
    obtain ⟨z_22, rfl, hz_22, f_22, b_22, c_22⟩ := hq9
    have x_22 : MZ J_22 J_7 := MZ.f f_22 (by decide) (by decide)
    have y_22 := MZ.tr y_7 x_22
    have e_22 : z_22 = 1 → ¬ z_18 = 0 := fun q9 => (c_22 q9).2.2.resolve_right (by decide)
    refine tz_if_ne (pc := 25) (tgt := 30) dX12_term_25 (by decide) (by omega) (fun h_25 => ?_) (fun h_25 => ?_)
    · refine tz_iload_n (pc := 30) dX12_term_30 rfl rfl ?_
      by_cases hs_31 : y < 0 ∨ 8 < y
      · refine tz_tabOut (pc := 31) (tgt := 159) dX12_term_31 (by omega) hs_31 (by decide) ?_
        refine tz_aload_n (pc := 159) dX12_term_159 rfl rfl ?_
        refine tz_iload_n (pc := 160) dX12_term_160 rfl rfl ?_
        refine tz_cV (pc := 161) (m_settled hl n _ _ (by omega) 0 0 0 (J 164 9) m (hM.z y_22) (MR.z hL.1 y_22) (by omega)) vl_X12_230 dX12_term_161 o_164 rfl rfl (Nat.le_of_ble_eq_true rfl) ⟨(Nat.le_of_ble_eq_true rfl), (Nat.le_of_ble_eq_true rfl)⟩ rfl rfl (Nat.le_of_ble_eq_true rfl) (Nat.le_of_ble_eq_true rfl) (fun r9 J_161 hq9 => ?_)
        obtain ⟨z_161, rfl, hz_161, b_161, f_161⟩ := hq9
        have x_161 : MZ J_161 J_22 := MZ.c f_161 (by decide)
        have y_161 := MZ.tr y_22 x_161
        refine tz_if_eq (pc := 164) (tgt := 171) dX12_term_164 (by decide) (by omega) (fun h_164 => ?_) (fun h_164 => ?_)
        · refine tz_iconst (pc := 171) dX12_term_171 ?_
          exact tz_iret (pc := 172) (z := 0) dX12_term_172 rfl (Nat.le_of_ble_eq_true rfl) (Nat.le_of_ble_eq_true rfl) ⟨Nat.le_refl _, Nat.le_add_right _ _⟩ ⟨_, rfl, (by decide), ⟨MQr.z hI y_161, MFI.z y_161, MBT.z hI y_161, u9.z y_161⟩⟩
        · refine tz_iconst (pc := 167) dX12_term_167 ?_
          refine tz_goto (pc := 168) (tgt := 172) dX12_term_168 (by decide) ?_
          exact tz_iret (pc := 172) (z := 1) dX12_term_172 rfl (Nat.le_of_ble_eq_true rfl) (Nat.le_of_ble_eq_true rfl) ⟨Nat.le_refl _, Nat.le_add_right _ _⟩ ⟨_, rfl, (by decide), ⟨MQr.z hI y_161, MFI.z y_161, MBT.z hI y_161, u9.z y_161⟩⟩
      · have hs9 : y = 0 ∨ y = 1 ∨ y = 2 ∨ y = 3 ∨ y = 4 ∨ y = 5 ∨ y = 6 ∨ y = 7 ∨ y = 8 := by omega
        rcases hs9 with hc_31 | hc_31 | hc_31 | hc_31 | hc_31 | hc_31 | hc_31 | hc_31 | hc_31
        · refine tz_tabIn (pc := 31) (tgt := 80) 0 dX12_term_31 hc_31 (by decide) rfl (by decide) ?_
          refine tz_aload_n (pc := 80) dX12_term_80 rfl rfl ?_
          refine tz_iload_n (pc := 81) dX12_term_81 rfl rfl ?_
          refine tz_cV (pc := 82) (m_isVar hl n _ _ (by omega) 0 0 0 (J 164 9) m (hM.z y_22) (by omega) ) vl_X12_78 dX12_term_82 o_164 rfl rfl (Nat.le_of_ble_eq_true rfl) ⟨(Nat.le_of_ble_eq_true rfl), (Nat.le_of_ble_eq_true rfl)⟩ rfl rfl (Nat.le_of_ble_eq_true rfl) (Nat.le_of_ble_eq_true rfl) (fun r9 J_82 hq9 => ?_)
          obtain ⟨z_82, rfl, hz_82, rfl, hv_82⟩ := hq9
          refine tz_if_eq (pc := 85) (tgt := 92) dX12_term_85 (by decide) (by omega) (fun h_85 => ?_) (fun h_85 => ?_)
          · refine tz_aload_n (pc := 92) dX12_term_92 rfl rfl ?_
            refine tz_iload_n (pc := 93) dX12_term_93 rfl rfl ?_
            refine tz_cV (pc := 94) (m_head hl n _ _ (by omega) 0 0 0 (J 164 9) m (hM.z y_22) (by omega) ) vl_X12_74 dX12_term_94 o_164 rfl rfl (Nat.le_of_ble_eq_true rfl) ⟨(Nat.le_of_ble_eq_true rfl), (Nat.le_of_ble_eq_true rfl)⟩ rfl rfl (Nat.le_of_ble_eq_true rfl) (Nat.le_of_ble_eq_true rfl) (fun r9 J_94 hq9 => ?_)
            obtain ⟨z_94, rfl, hz_94, rfl, hh_94⟩ := hq9
            exact tz_iret (pc := 97) (z := z_94) dX12_term_97 rfl (Nat.le_of_ble_eq_true rfl) (Nat.le_of_ble_eq_true rfl) ⟨Nat.le_refl _, Nat.le_add_right _ _⟩ ⟨_, rfl, (by omega), ⟨MQr.z hI y_22, MFI.z y_22, MBT.z hI y_22, u9.z y_22⟩⟩
          · refine tz_iconst (pc := 88) dX12_term_88 ?_
            refine tz_goto (pc := 89) (tgt := 97) dX12_term_89 (by decide) ?_
            exact tz_iret (pc := 97) (z := (-1)) dX12_term_97 rfl (Nat.le_of_ble_eq_true rfl) (Nat.le_of_ble_eq_true rfl) ⟨Nat.le_refl _, Nat.le_add_right _ _⟩ ⟨_, rfl, (by decide), ⟨MQr.z hI y_22, MFI.z y_22, MBT.z hI y_22, u9.z y_22⟩⟩
        · refine tz_tabIn (pc := 31) (tgt := 98) 1 dX12_term_31 hc_31 (by decide) rfl (by decide) ?_
          refine tz_aload_n (pc := 98) dX12_term_98 rfl rfl ?_
          refine tz_iload_n (pc := 99) dX12_term_99 rfl rfl ?_
          refine tz_cV (pc := 100) (m_isVar hl n _ _ (by omega) 0 0 0 (J 164 9) m (hM.z y_22) (by omega) ) vl_X12_78 dX12_term_100 o_164 rfl rfl (Nat.le_of_ble_eq_true rfl) ⟨(Nat.le_of_ble_eq_true rfl), (Nat.le_of_ble_eq_true rfl)⟩ rfl rfl (Nat.le_of_ble_eq_true rfl) (Nat.le_of_ble_eq_true rfl) (fun r9 J_100 hq9 => ?_)
          obtain ⟨z_100, rfl, hz_100, rfl, hv_100⟩ := hq9
          refine tz_if_eq (pc := 103) (tgt := 114) dX12_term_103 (by decide) (by omega) (fun h_103 => ?_) (fun h_103 => ?_)
          · refine tz_iconst (pc := 114) dX12_term_114 ?_
            exact tz_iret (pc := 115) (z := (-1)) dX12_term_115 rfl (Nat.le_of_ble_eq_true rfl) (Nat.le_of_ble_eq_true rfl) ⟨Nat.le_refl _, Nat.le_add_right _ _⟩ ⟨_, rfl, (by decide), ⟨MQr.z hI y_22, MFI.z y_22, MBT.z hI y_22, u9.z y_22⟩⟩
          · refine tz_aload_n (pc := 106) dX12_term_106 rfl rfl ?_
            refine tz_iload_n (pc := 107) dX12_term_107 rfl rfl ?_
            refine tz_cV (pc := 108) (m_varOf hl n _ _ (by omega) 0 0 0 (J 164 9) m (hM.z y_22) (by omega) ) vl_X12_123 dX12_term_108 o_164 rfl rfl (Nat.le_of_ble_eq_true rfl) ⟨(Nat.le_of_ble_eq_true rfl), (Nat.le_of_ble_eq_true rfl)⟩ rfl rfl (Nat.le_of_ble_eq_true rfl) (Nat.le_of_ble_eq_true rfl) (fun r9 J_108 hq9 => ?_)
            obtain ⟨z_108, rfl, hz_108, rfl, hh_108⟩ := hq9
            refine tz_goto (pc := 111) (tgt := 115) dX12_term_111 (by decide) ?_
            exact tz_iret (pc := 115) (z := z_108) dX12_term_115 rfl (Nat.le_of_ble_eq_true rfl) (Nat.le_of_ble_eq_true rfl) ⟨Nat.le_refl _, Nat.le_add_right _ _⟩ ⟨_, rfl, (by omega), ⟨MQr.z hI y_22, MFI.z y_22, MBT.z hI y_22, u9.z y_22⟩⟩
        · refine tz_tabIn (pc := 31) (tgt := 116) 2 dX12_term_31 hc_31 (by decide) rfl (by decide) ?_
          refine tz_aload_n (pc := 116) dX12_term_116 rfl rfl ?_
          refine tz_iload_n (pc := 117) dX12_term_117 rfl rfl ?_
          refine tz_cV (pc := 118) (m_size hl n _ _ (by omega) 0 0 0 (J 164 9) m (hM.z y_22) (by omega) ) vl_X12_114 dX12_term_118 o_164 rfl rfl (Nat.le_of_ble_eq_true rfl) ⟨(Nat.le_of_ble_eq_true rfl), (Nat.le_of_ble_eq_true rfl)⟩ rfl rfl (Nat.le_of_ble_eq_true rfl) (Nat.le_of_ble_eq_true rfl) (fun r9 J_118 hq9 => ?_)
          obtain ⟨z_118, rfl, hz_118, rfl, hh_118⟩ := hq9
          exact tz_iret (pc := 121) (z := z_118) dX12_term_121 rfl (Nat.le_of_ble_eq_true rfl) (Nat.le_of_ble_eq_true rfl) ⟨Nat.le_refl _, Nat.le_add_right _ _⟩ ⟨_, rfl, (by omega), ⟨MQr.z hI y_22, MFI.z y_22, MBT.z hI y_22, u9.z y_22⟩⟩
        · refine tz_tabIn (pc := 31) (tgt := 122) 3 dX12_term_31 hc_31 (by decide) rfl (by decide) ?_
          refine tz_aload_n (pc := 122) dX12_term_122 rfl rfl ?_
          refine tz_iload_n (pc := 123) dX12_term_123 rfl rfl ?_
          refine tz_cV (pc := 124) (m_shared hl n _ _ (by omega) 0 0 0 (J 164 9) m (hM.z y_22) (by omega) ) vl_X12_382 dX12_term_124 o_164 rfl rfl (Nat.le_of_ble_eq_true rfl) ⟨(Nat.le_of_ble_eq_true rfl), (Nat.le_of_ble_eq_true rfl)⟩ rfl rfl (Nat.le_of_ble_eq_true rfl) (Nat.le_of_ble_eq_true rfl) (fun r9 J_124 hq9 => ?_)
          obtain ⟨z_124, rfl, hz_124, rfl⟩ := hq9
          exact tz_iret (pc := 127) (z := z_124) dX12_term_127 rfl (Nat.le_of_ble_eq_true rfl) (Nat.le_of_ble_eq_true rfl) ⟨Nat.le_refl _, Nat.le_add_right _ _⟩ ⟨_, rfl, (by omega), ⟨MQr.z hI y_22, MFI.z y_22, MBT.z hI y_22, u9.z y_22⟩⟩
        · refine tz_tabIn (pc := 31) (tgt := 128) 4 dX12_term_31 hc_31 (by decide) rfl (by decide) ?_
          refine tz_aload_n (pc := 128) dX12_term_128 rfl rfl ?_
          refine tz_fR (pc := 129) dX12_term_129 fl_X12_19 r_164_3 ?_
          refine tz_iload_n (pc := 132) dX12_term_132 rfl rfl ?_
          refine tz_aL (pc := 133) (z := x) (v := (J 168 x)) dX12_term_133 a_168 rfl (by omega) (Eq.trans (congrFun (x_22.1 168 rfl) x) (Eq.trans (congrFun (x_7.1 168 rfl) x) rfl)) (fun r_133 => ?_)
          exact tz_iret (pc := 134) (z := (J 168 x)) dX12_term_134 rfl (Nat.le_of_ble_eq_true rfl) (Nat.le_of_ble_eq_true rfl) ⟨Nat.le_refl _, Nat.le_add_right _ _⟩ ⟨_, rfl, (by omega), ⟨MQr.z hI y_22, MFI.z y_22, MBT.z hI y_22, u9.z y_22⟩⟩
        · refine tz_tabIn (pc := 31) (tgt := 135) 5 dX12_term_31 hc_31 (by decide) rfl (by decide) ?_
          refine tz_aload_n (pc := 135) dX12_term_135 rfl rfl ?_
          refine tz_iload_n (pc := 136) dX12_term_136 rfl rfl ?_
          refine tz_cV (pc := 137) (m_weight hl n _ _ (by omega) 0 0 0 (J 164 9) m (hM.z y_22) (by omega) ) vl_X12_120 dX12_term_137 o_164 rfl rfl (Nat.le_of_ble_eq_true rfl) ⟨(Nat.le_of_ble_eq_true rfl), (Nat.le_of_ble_eq_true rfl)⟩ rfl rfl (Nat.le_of_ble_eq_true rfl) (Nat.le_of_ble_eq_true rfl) (fun r9 J_137 hq9 => ?_)
          obtain ⟨z_137, rfl, hz_137, rfl⟩ := hq9
          exact tz_iret (pc := 140) (z := z_137) dX12_term_140 rfl (Nat.le_of_ble_eq_true rfl) (Nat.le_of_ble_eq_true rfl) ⟨Nat.le_refl _, Nat.le_add_right _ _⟩ ⟨_, rfl, (by omega), ⟨MQr.z hI y_22, MFI.z y_22, MBT.z hI y_22, u9.z y_22⟩⟩
        · refine tz_tabIn (pc := 31) (tgt := 141) 6 dX12_term_31 hc_31 (by decide) rfl (by decide) ?_
          refine tz_aload_n (pc := 141) dX12_term_141 rfl rfl ?_
          refine tz_iload_n (pc := 142) dX12_term_142 rfl rfl ?_
          refine tz_cV (pc := 143) (m_vars hl n _ _ (by omega) 0 0 0 (J 164 9) m (hM.z y_22) (by omega) ) vl_X12_126 dX12_term_143 o_164 rfl rfl (Nat.le_of_ble_eq_true rfl) ⟨(Nat.le_of_ble_eq_true rfl), (Nat.le_of_ble_eq_true rfl)⟩ rfl rfl (Nat.le_of_ble_eq_true rfl) (Nat.le_of_ble_eq_true rfl) (fun r9 J_143 hq9 => ?_)
          obtain ⟨z_143, rfl, hz_143, rfl⟩ := hq9
          exact tz_iret (pc := 146) (z := z_143) dX12_term_146 rfl (Nat.le_of_ble_eq_true rfl) (Nat.le_of_ble_eq_true rfl) ⟨Nat.le_refl _, Nat.le_add_right _ _⟩ ⟨_, rfl, (by omega), ⟨MQr.z hI y_22, MFI.z y_22, MBT.z hI y_22, u9.z y_22⟩⟩
        · refine tz_tabIn (pc := 31) (tgt := 147) 7 dX12_term_31 hc_31 (by decide) rfl (by decide) ?_
          refine tz_aload_n (pc := 147) dX12_term_147 rfl rfl ?_
          refine tz_iload_n (pc := 148) dX12_term_148 rfl rfl ?_
          refine tz_cV (pc := 149) (m_uses hl n _ _ (by omega) 0 0 0 (J 164 9) m (hM.z y_22)  ) vl_X12_385 dX12_term_149 o_164 rfl rfl (Nat.le_of_ble_eq_true rfl) ⟨(Nat.le_of_ble_eq_true rfl), (Nat.le_of_ble_eq_true rfl)⟩ rfl rfl (Nat.le_of_ble_eq_true rfl) (Nat.le_of_ble_eq_true rfl) (fun r9 J_149 hq9 => ?_)
          obtain ⟨z_149, rfl, hz_149, rfl, hh_149⟩ := hq9
          exact tz_iret (pc := 152) (z := z_149) dX12_term_152 rfl (Nat.le_of_ble_eq_true rfl) (Nat.le_of_ble_eq_true rfl) ⟨Nat.le_refl _, Nat.le_add_right _ _⟩ ⟨_, rfl, (by omega), ⟨MQr.z hI y_22, MFI.z y_22, MBT.z hI y_22, u9.z y_22⟩⟩
        · refine tz_tabIn (pc := 31) (tgt := 153) 8 dX12_term_31 hc_31 (by decide) rfl (by decide) ?_
          refine tz_aload_n (pc := 153) dX12_term_153 rfl rfl ?_
          refine tz_iload_n (pc := 154) dX12_term_154 rfl rfl ?_
          have h16_155 : (J_22 : zJ) 164 16 = 0 := (show (J_22 : zJ) 164 16 = (J 164 16) from (Eq.trans (x_22.2 16 (by decide) (by decide)) (Eq.trans (x_7.2 16 (by decide) (by decide)) rfl))).trans hT.2.2.2.1.2.1
          have h26_155 : (J_22 : zJ) 165 (0 + 26) = J 165 26 := by rw [Int.zero_add]; exact (show (J_22 : zJ) 165 26 = (J 165 26) from (Eq.trans (congrFun (x_22.1 165 rfl) 26) (Eq.trans (congrFun (x_7.1 165 rfl) 26) rfl)))
          refine tz_cV (pc := 155) (m_entryOf hl n _ _ (by omega) (by rw [h16_155]; decide) (by rw [h16_155, h26_155]; omega)) vl_X12_307 dX12_term_155 o_164 rfl rfl (Nat.le_of_ble_eq_true rfl) ⟨(Nat.le_of_ble_eq_true rfl), (Nat.le_of_ble_eq_true rfl)⟩ rfl rfl (Nat.le_of_ble_eq_true rfl) (Nat.le_of_ble_eq_true rfl) (fun r9 J_155 hq9 => ?_)
          obtain ⟨z_155, rfl, hz_155, rfl, he_155⟩ := hq9
          rw [h16_155, h26_155] at he_155
          exact tz_iret (pc := 158) (z := z_155) dX12_term_158 rfl (Nat.le_of_ble_eq_true rfl) (Nat.le_of_ble_eq_true rfl) ⟨Nat.le_refl _, Nat.le_add_right _ _⟩ ⟨_, rfl, (by omega), ⟨MQr.z hI y_22, MFI.z y_22, MBT.z hI y_22, u9.z y_22⟩⟩
    · refine tz_iconst (pc := 28) dX12_term_28 ?_
      exact tz_iret (pc := 29) (z := 0) dX12_term_29 rfl (Nat.le_of_ble_eq_true rfl) (Nat.le_of_ble_eq_true rfl) ⟨Nat.le_refl _, Nat.le_add_right _ _⟩ ⟨_, rfl, (by decide), ⟨MQr.z hI y_22, MFI.z y_22, MBT.z hI y_22, u9.z y_22⟩⟩

set_option maxHeartbeats 4000000 in
set_option maxRecDepth 100000 in
theorem k_argument {l : Launch} {G : tb_G} (hl : l.stackTraces = false) (n : Nat) (J : zJ) (x : Int) (y : Int) (hr_x : -2147483648 ≤ x ∧ x < 2147483648) (hr_y : -2147483648 ≤ y ∧ y < 2147483648) (m : Int) (pn : Int) (RR : Int → Int → Int) (hI : MI J m) (u9 : MUr J pn RR)  : tz_Ok l G M_X12_argument 3 0 0 [.ref 164, zi x, zi y] n J (zqi (fun z J' => MQr J' J ∧ MFI J' J ∧ MBT J' (tbz J) ∧ MUr J' pn RR)) zN := by
  refine tz_Ok.of hl (by decide +kernel) rfl (tb_c1 rfl) (Nat.le_of_ble_eq_true rfl) ?_
  show tz_At l G M_X12_argument (tb_rm 3 0 0) none (tb_ZM G 0 0 (zQ n 0 (zqi (fun z J' => MQr J' J ∧ MFI J' J ∧ MBT J' (tbz J) ∧ MUr J' pn RR))) (zX n 0 zN)) 0 0 n J 0 [some (.ref 164), some (zi x), some (zi y)] []
  have hT := hI.told
  have hW := hI.row
  have hM := hI.1
  have hL := hI.2.1
  refine tz_aload_n (pc := 0) dX12_argument_0 rfl rfl ?_
  refine tz_iconst (pc := 1) dX12_argument_1 ?_
  refine tz_pI (pc := 2) (kz := 8) dX12_argument_2 fl_X12_68 i_164_8 rfl rfl (by decide) ?_
  refine tz_aload_n (pc := 5) dX12_argument_5 rfl rfl ?_
  refine tz_iload_n (pc := 6) dX12_argument_6 rfl rfl ?_
  refine tz_cV (pc := 7) (m_isTermNow hl n _ _ (by omega) (by rw [(show ((zup J 164 8 0) : zJ) 165 0 = (J 165 0) from rfl)]; omega)) vl_X12_379 dX12_argument_7 o_164 rfl rfl (Nat.le_of_ble_eq_true rfl) ⟨(Nat.le_of_ble_eq_true rfl), (Nat.le_of_ble_eq_true rfl)⟩ rfl rfl (Nat.le_of_ble_eq_true rfl) (Nat.le_of_ble_eq_true rfl) (fun r9 J_7 hq9 => ?_)
  obtain ⟨z_7, rfl, hz_7, f_7, b_7, c_7⟩ := hq9
  have x_7 : MZ J_7 (zup J 164 8 0) := MZ.f f_7 (by decide) (by decide)
  have y_7 := MZ.tr (MZ.up (k := 8) MZ.rf (by decide)) x_7
  rw [(show ((zup J 164 8 0) : zJ) 165 0 = (J 165 0) from rfl)] at c_7
  refine tz_if_eq (pc := 10) (tgt := 42) dX12_argument_10 (by decide) (by omega) (fun h_10 => ?_) (fun h_10 => ?_)
  · refine tz_iconst (pc := 42) dX12_argument_42 ?_
    exact tz_iret (pc := 43) (z := 0) dX12_argument_43 rfl (Nat.le_of_ble_eq_true rfl) (Nat.le_of_ble_eq_true rfl) ⟨Nat.le_refl _, Nat.le_add_right _ _⟩ ⟨_, rfl, (by decide), ⟨MQr.z hI y_7, MFI.z y_7, MBT.z hI y_7, u9.z y_7⟩⟩
  · refine tz_aload_n (pc := 13) dX12_argument_13 rfl rfl ?_
    refine tz_iload_n (pc := 14) dX12_argument_14 rfl rfl ?_
    refine tz_iconst (pc := 15) dX12_argument_15 ?_
    refine tz_aload_n (pc := 16) dX12_argument_16 rfl rfl ?_
    refine tz_iload_n (pc := 17) dX12_argument_17 rfl rfl ?_
    refine tz_cV (pc := 18) (m_arity hl n _ _ (by omega) 0 0 0 (J 164 9) m (hM.z y_7) (by omega) ) vl_X12_111 dX12_argument_18 o_164 rfl rfl (Nat.le_of_ble_eq_true rfl) ⟨(Nat.le_of_ble_eq_true rfl), (Nat.le_of_ble_eq_true rfl)⟩ rfl rfl (Nat.le_of_ble_eq_true rfl) (Nat.le_of_ble_eq_true rfl) (fun r9 J_18 hq9 => ?_)
    obtain ⟨z_18, rfl, hz_18, rfl, hh_18⟩ := hq9
    have ha_18 := ((hM.z y_7).ar (t := x) (by omega)).1
    rw [hh_18] at ha_18
    refine tz_iconst (pc := 21) dX12_argument_21 ?_
    refine tz_isub (pc := 22) (v := z_18 - 1) dX12_argument_22 rfl ?_
    refine tz_cS (pc := 23) (m_within hl n _ _ _ _ (by omega) (by decide) (by omega)) sl_X12_283 dX12_argument_23 rfl rfl (Nat.le_of_ble_eq_true rfl) ⟨(Nat.le_of_ble_eq_true rfl), (Nat.le_of_ble_eq_true rfl)⟩ rfl rfl (Nat.le_of_ble_eq_true rfl) (Nat.le_of_ble_eq_true rfl) (fun r9 J_23 hq9 => ?_)
    obtain ⟨z_23, rfl, hz_23, rfl, hw_23⟩ := hq9
    refine tz_iconst (pc := 26) dX12_argument_26 ?_
    refine tz_cV (pc := 27) (m_right hl n _ _ _ (by omega) (by decide) (by decide)) vl_X12_334 dX12_argument_27 o_164 rfl rfl (Nat.le_of_ble_eq_true rfl) ⟨(Nat.le_of_ble_eq_true rfl), (Nat.le_of_ble_eq_true rfl)⟩ rfl rfl (Nat.le_of_ble_eq_true rfl) (Nat.le_of_ble_eq_true rfl) (fun r9 J_27 hq9 => ?_)
    obtain ⟨z_27, rfl, hz_27, f_27, b_27, c_27⟩ := hq9
    have x_27 : MZ J_27 J_7 := MZ.f f_27 (by decide) (by decide)
    have y_27 := MZ.tr y_7 x_27
    have e_27 : z_27 = 1 → ¬ z_23 = 0 := fun q9 => (c_27 q9).2.2.resolve_right (by decide)
    refine tz_if_eq (pc := 30) (tgt := 42) dX12_argument_30 (by decide) (by omega) (fun h_30 => ?_) (fun h_30 => ?_)
    · refine tz_iconst (pc := 42) dX12_argument_42 ?_
      exact tz_iret (pc := 43) (z := 0) dX12_argument_43 rfl (Nat.le_of_ble_eq_true rfl) (Nat.le_of_ble_eq_true rfl) ⟨Nat.le_refl _, Nat.le_add_right _ _⟩ ⟨_, rfl, (by decide), ⟨MQr.z hI y_27, MFI.z y_27, MBT.z hI y_27, u9.z y_27⟩⟩
    · refine tz_aload_n (pc := 33) dX12_argument_33 rfl rfl ?_
      refine tz_iload_n (pc := 34) dX12_argument_34 rfl rfl ?_
      refine tz_iload_n (pc := 35) dX12_argument_35 rfl rfl ?_
      refine tz_cV (pc := 36) (m_arg hl n _ _ _ (by omega) (by omega) 0 0 0 (J 164 9) m (hM.z y_27) (by omega) (by omega) ) vl_X12_88 dX12_argument_36 o_164 rfl rfl (Nat.le_of_ble_eq_true rfl) ⟨(Nat.le_of_ble_eq_true rfl), (Nat.le_of_ble_eq_true rfl)⟩ rfl rfl (Nat.le_of_ble_eq_true rfl) (Nat.le_of_ble_eq_true rfl) (fun r9 J_36 hq9 => ?_)
      obtain ⟨z_36, rfl, hz_36, rfl, hh_36⟩ := hq9
      refine tz_goto (pc := 39) (tgt := 43) dX12_argument_39 (by decide) ?_
      exact tz_iret (pc := 43) (z := z_36) dX12_argument_43 rfl (Nat.le_of_ble_eq_true rfl) (Nat.le_of_ble_eq_true rfl) ⟨Nat.le_refl _, Nat.le_add_right _ _⟩ ⟨_, rfl, (by omega), ⟨MQr.z hI y_27, MFI.z y_27, MBT.z hI y_27, u9.z y_27⟩⟩

set_option maxHeartbeats 4000000 in
set_option maxRecDepth 100000 in
theorem k_place {l : Launch} {G : tb_G} (hl : l.stackTraces = false) (n : Nat) (J : zJ) (x : Int) (y : Int) (hr_x : -2147483648 ≤ x ∧ x < 2147483648) (hr_y : -2147483648 ≤ y ∧ y < 2147483648) (m : Int) (pn : Int) (RR : Int → Int → Int) (hI : MI J m) (u9 : MUr J pn RR)  : tz_Ok l G M_X12_place 20 0 0 [.ref 164, zi x, zi y] n J (zqi (fun z J' => MQr J' J ∧ MFI J' J ∧ MBT J' (tbz J) ∧ MUr J' pn RR)) zN := by
  refine tz_Ok.of hl (by decide +kernel) rfl (tb_c1 rfl) (Nat.le_of_ble_eq_true rfl) ?_
  show tz_At l G M_X12_place (tb_rm 20 0 0) none (tb_ZM G 0 0 (zQ n 0 (zqi (fun z J' => MQr J' J ∧ MFI J' J ∧ MBT J' (tbz J) ∧ MUr J' pn RR))) (zX n 0 zN)) 0 0 n J 0 [some (.ref 164), some (zi x), some (zi y), none] []
  have hT := hI.told
  have hW := hI.row
  have hM := hI.1
  have hL := hI.2.1
  refine tz_aload_n (pc := 0) dX12_place_0 rfl rfl ?_
  refine tz_iconst (pc := 1) dX12_place_1 ?_
  refine tz_pI (pc := 2) (kz := 8) dX12_place_2 fl_X12_68 i_164_8 rfl rfl (by decide) ?_
  refine tz_aload_n (pc := 5) dX12_place_5 rfl rfl ?_
  refine tz_iload_n (pc := 6) dX12_place_6 rfl rfl ?_
  refine tz_cV (pc := 7) (m_isTermNow hl n _ _ (by omega) (by rw [(show ((zup J 164 8 0) : zJ) 165 0 = (J 165 0) from rfl)]; omega)) vl_X12_379 dX12_place_7 o_164 rfl rfl (Nat.le_of_ble_eq_true rfl) ⟨(Nat.le_of_ble_eq_true rfl), (Nat.le_of_ble_eq_true rfl)⟩ rfl rfl (Nat.le_of_ble_eq_true rfl) (Nat.le_of_ble_eq_true rfl) (fun r9 J_7 hq9 => ?_)
  obtain ⟨z_7, rfl, hz_7, f_7, b_7, c_7⟩ := hq9
  have x_7 : MZ J_7 (zup J 164 8 0) := MZ.f f_7 (by decide) (by decide)
  have y_7 := MZ.tr (MZ.up (k := 8) MZ.rf (by decide)) x_7
  rw [(show ((zup J 164 8 0) : zJ) 165 0 = (J 165 0) from rfl)] at c_7
  refine tz_if_ne (pc := 10) (tgt := 15) dX12_place_10 (by decide) (by omega) (fun h_10 => ?_) (fun h_10 => ?_)
  · refine tz_aload_n (pc := 15) dX12_place_15 rfl rfl ?_
    refine tz_iload_n (pc := 16) dX12_place_16 rfl rfl ?_
    refine tz_iload_n (pc := 17) dX12_place_17 rfl rfl ?_
    refine tz_cV (pc := 18) (m_place hl n _ _ _ (by omega) (by omega) 0 0 0 (J 164 9) m (hM.z y_7) (by omega) ) vl_X12_139 dX12_place_18 o_164 rfl rfl (Nat.le_of_ble_eq_true rfl) ⟨(Nat.le_of_ble_eq_true rfl), (Nat.le_of_ble_eq_true rfl)⟩ rfl rfl (Nat.le_of_ble_eq_true rfl) (Nat.le_of_ble_eq_true rfl) (fun r9 J_18 hq9 => ?_)
    obtain ⟨z_18, rfl, hz_18, rfl, hh_18⟩ := hq9
    refine tz_istore_n (pc := 21) (L2 := [_, _, _, _]) dX12_place_21 rfl (by decide) rfl ?_
    refine tz_aload_n (pc := 22) dX12_place_22 rfl rfl ?_
    refine tz_iload_n (pc := 23) dX12_place_23 rfl rfl ?_
    refine tz_iconst (pc := 24) dX12_place_24 ?_
    refine tz_icmp_eq (pc := 25) (tgt := 32) dX12_place_25 (by decide) (by omega) (by decide) (fun h_25 => ?_) (fun h_25 => ?_)
    · refine tz_iconst (pc := 32) dX12_place_32 ?_
      refine tz_iconst (pc := 33) dX12_place_33 ?_
      refine tz_cV (pc := 34) (m_right hl n _ _ _ (by decide) (by decide) (by decide)) vl_X12_334 dX12_place_34 o_164 rfl rfl (Nat.le_of_ble_eq_true rfl) ⟨(Nat.le_of_ble_eq_true rfl), (Nat.le_of_ble_eq_true rfl)⟩ rfl rfl (Nat.le_of_ble_eq_true rfl) (Nat.le_of_ble_eq_true rfl) (fun r9 J_34 hq9 => ?_)
      obtain ⟨z_34, rfl, hz_34, f_34, b_34, c_34⟩ := hq9
      have x_34 : MZ J_34 J_7 := MZ.f f_34 (by decide) (by decide)
      have y_34 := MZ.tr y_7 x_34
      obtain rfl : z_34 = 0 := by rcases b_34 with e9 | e9; exact e9; exact absurd (c_34 e9).2.2 (by decide)
      refine tz_if_eqT (pc := 37) (tgt := 44) (by decide) dX12_place_37 (by decide) (by decide) ?_
      refine tz_iconst (pc := 44) dX12_place_44 ?_
      exact tz_iret (pc := 45) (z := 0) dX12_place_45 rfl (Nat.le_of_ble_eq_true rfl) (Nat.le_of_ble_eq_true rfl) ⟨Nat.le_refl _, Nat.le_add_right _ _⟩ ⟨_, rfl, (by decide), ⟨MQr.z hI y_34, MFI.z y_34, MBT.z hI y_34, u9.z y_34⟩⟩
    · refine tz_iconst (pc := 28) dX12_place_28 ?_
      refine tz_goto (pc := 29) (tgt := 33) dX12_place_29 (by decide) ?_
      refine tz_iconst (pc := 33) dX12_place_33 ?_
      refine tz_cV (pc := 34) (m_right hl n _ _ _ (by decide) (by decide) (by decide)) vl_X12_334 dX12_place_34 o_164 rfl rfl (Nat.le_of_ble_eq_true rfl) ⟨(Nat.le_of_ble_eq_true rfl), (Nat.le_of_ble_eq_true rfl)⟩ rfl rfl (Nat.le_of_ble_eq_true rfl) (Nat.le_of_ble_eq_true rfl) (fun r9 J_34 hq9 => ?_)
      obtain ⟨z_34, rfl, hz_34, f_34, b_34, c_34⟩ := hq9
      have x_34 : MZ J_34 J_7 := MZ.f f_34 (by decide) (by decide)
      have y_34 := MZ.tr y_7 x_34
      refine tz_if_eq (pc := 37) (tgt := 44) dX12_place_37 (by decide) (by omega) (fun h_37 => ?_) (fun h_37 => ?_)
      · refine tz_iconst (pc := 44) dX12_place_44 ?_
        exact tz_iret (pc := 45) (z := 0) dX12_place_45 rfl (Nat.le_of_ble_eq_true rfl) (Nat.le_of_ble_eq_true rfl) ⟨Nat.le_refl _, Nat.le_add_right _ _⟩ ⟨_, rfl, (by decide), ⟨MQr.z hI y_34, MFI.z y_34, MBT.z hI y_34, u9.z y_34⟩⟩
      · refine tz_iload_n (pc := 40) dX12_place_40 rfl rfl ?_
        refine tz_goto (pc := 41) (tgt := 45) dX12_place_41 (by decide) ?_
        exact tz_iret (pc := 45) (z := z_18) dX12_place_45 rfl (Nat.le_of_ble_eq_true rfl) (Nat.le_of_ble_eq_true rfl) ⟨Nat.le_refl _, Nat.le_add_right _ _⟩ ⟨_, rfl, (by omega), ⟨MQr.z hI y_34, MFI.z y_34, MBT.z hI y_34, u9.z y_34⟩⟩
  · refine tz_iconst (pc := 13) dX12_place_13 ?_
    exact tz_iret (pc := 14) (z := 0) dX12_place_14 rfl (Nat.le_of_ble_eq_true rfl) (Nat.le_of_ble_eq_true rfl) ⟨Nat.le_refl _, Nat.le_add_right _ _⟩ ⟨_, rfl, (by decide), ⟨MQr.z hI y_7, MFI.z y_7, MBT.z hI y_7, u9.z y_7⟩⟩

set_option maxHeartbeats 4000000 in
set_option maxRecDepth 100000 in
theorem k_order {l : Launch} {G : tb_G} (hl : l.stackTraces = false) (n : Nat) (J : zJ) (x : Int) (y : Int) (hr_x : -2147483648 ≤ x ∧ x < 2147483648) (hr_y : -2147483648 ≤ y ∧ y < 2147483648) (m : Int) (pn : Int) (RR : Int → Int → Int) (hI : MI J m) (u9 : MUr J pn RR)  : tz_Ok l G M_X12_order 20 0 0 [.ref 164, zi x, zi y] n J (zqi (fun z J' => MQr J' J ∧ MFI J' J ∧ MBT J' (tbz J) ∧ MUr J' pn RR)) zN := by
  refine tz_Ok.of hl (by decide +kernel) rfl (tb_c1 rfl) (Nat.le_of_ble_eq_true rfl) ?_
  show tz_At l G M_X12_order (tb_rm 20 0 0) none (tb_ZM G 0 0 (zQ n 0 (zqi (fun z J' => MQr J' J ∧ MFI J' J ∧ MBT J' (tbz J) ∧ MUr J' pn RR))) (zX n 0 zN)) 0 0 n J 0 [some (.ref 164), some (zi x), some (zi y)] []
  have hT := hI.told
  have hW := hI.row
  have hM := hI.1
  have hL := hI.2.1
  refine tz_aload_n (pc := 0) dX12_order_0 rfl rfl ?_
  refine tz_iconst (pc := 1) dX12_order_1 ?_
  refine tz_pI (pc := 2) (kz := 8) dX12_order_2 fl_X12_68 i_164_8 rfl rfl (by decide) ?_
  refine tz_aload_n (pc := 5) dX12_order_5 rfl rfl ?_
  refine tz_iload_n (pc := 6) dX12_order_6 rfl rfl ?_
  refine tz_cV (pc := 7) (m_isTermNow hl n _ _ (by omega) (by rw [(show ((zup J 164 8 0) : zJ) 165 0 = (J 165 0) from rfl)]; omega)) vl_X12_379 dX12_order_7 o_164 rfl rfl (Nat.le_of_ble_eq_true rfl) ⟨(Nat.le_of_ble_eq_true rfl), (Nat.le_of_ble_eq_true rfl)⟩ rfl rfl (Nat.le_of_ble_eq_true rfl) (Nat.le_of_ble_eq_true rfl) (fun r9 J_7 hq9 => ?_)
  obtain ⟨z_7, rfl, hz_7, f_7, b_7, c_7⟩ := hq9
  have x_7 : MZ J_7 (zup J 164 8 0) := MZ.f f_7 (by decide) (by decide)
  have y_7 := MZ.tr (MZ.up (k := 8) MZ.rf (by decide)) x_7
  rw [(show ((zup J 164 8 0) : zJ) 165 0 = (J 165 0) from rfl)] at c_7
  refine tz_if_eq (pc := 10) (tgt := 21) dX12_order_10 (by decide) (by omega) (fun h_10 => ?_) (fun h_10 => ?_)
  · refine tz_iconst (pc := 21) dX12_order_21 ?_
    exact tz_iret (pc := 22) (z := 0) dX12_order_22 rfl (Nat.le_of_ble_eq_true rfl) (Nat.le_of_ble_eq_true rfl) ⟨Nat.le_refl _, Nat.le_add_right _ _⟩ ⟨_, rfl, (by decide), ⟨MQr.z hI y_7, MFI.z y_7, MBT.z hI y_7, u9.z y_7⟩⟩
  · refine tz_aload_n (pc := 13) dX12_order_13 rfl rfl ?_
    refine tz_iload_n (pc := 14) dX12_order_14 rfl rfl ?_
    refine tz_cV (pc := 15) (m_isTermNow hl n _ _ (by omega) (by rw [(show (J_7 : zJ) 165 0 = (J 165 0) from (Eq.trans (congrFun (x_7.1 165 rfl) 0) rfl))]; omega)) vl_X12_379 dX12_order_15 o_164 rfl rfl (Nat.le_of_ble_eq_true rfl) ⟨(Nat.le_of_ble_eq_true rfl), (Nat.le_of_ble_eq_true rfl)⟩ rfl rfl (Nat.le_of_ble_eq_true rfl) (Nat.le_of_ble_eq_true rfl) (fun r9 J_15 hq9 => ?_)
    obtain ⟨z_15, rfl, hz_15, f_15, b_15, c_15⟩ := hq9
    have x_15 : MZ J_15 J_7 := MZ.f f_15 (by decide) (by decide)
    have y_15 := MZ.tr y_7 x_15
    rw [(show (J_7 : zJ) 165 0 = (J 165 0) from (Eq.trans (congrFun (x_7.1 165 rfl) 0) rfl))] at c_15
    refine tz_if_ne (pc := 18) (tgt := 23) dX12_order_18 (by decide) (by omega) (fun h_18 => ?_) (fun h_18 => ?_)
    · refine tz_iload_n (pc := 23) dX12_order_23 rfl rfl ?_
      refine tz_iload_n (pc := 24) dX12_order_24 rfl rfl ?_
      refine tz_icmp_ne (pc := 25) (tgt := 32) dX12_order_25 (by decide) (by omega) (by omega) (fun h_25 => ?_) (fun h_25 => ?_)
      · refine tz_aload_n (pc := 32) dX12_order_32 rfl rfl ?_
        refine tz_iload_n (pc := 33) dX12_order_33 rfl rfl ?_
        refine tz_iload_n (pc := 34) dX12_order_34 rfl rfl ?_
        refine tz_cV (pc := 35) (m_greater hl n _ _ _ (by omega) (by omega) 0 0 0 (J 164 9) m (hM.z y_15) (by omega) (by omega) ) vl_X12_142 dX12_order_35 o_164 rfl rfl (Nat.le_of_ble_eq_true rfl) ⟨(Nat.le_of_ble_eq_true rfl), (Nat.le_of_ble_eq_true rfl)⟩ rfl rfl (Nat.le_of_ble_eq_true rfl) (Nat.le_of_ble_eq_true rfl) (fun r9 J_35 hq9 => ?_)
        obtain ⟨z_35, rfl, hz_35, rfl, hh_35⟩ := hq9
        refine tz_if_eq (pc := 38) (tgt := 45) dX12_order_38 (by decide) (by omega) (fun h_38 => ?_) (fun h_38 => ?_)
        · refine tz_aload_n (pc := 45) dX12_order_45 rfl rfl ?_
          refine tz_iload_n (pc := 46) dX12_order_46 rfl rfl ?_
          refine tz_iload_n (pc := 47) dX12_order_47 rfl rfl ?_
          refine tz_cV (pc := 48) (m_greater hl n _ _ _ (by omega) (by omega) 0 0 0 (J 164 9) m (hM.z y_15) (by omega) (by omega) ) vl_X12_142 dX12_order_48 o_164 rfl rfl (Nat.le_of_ble_eq_true rfl) ⟨(Nat.le_of_ble_eq_true rfl), (Nat.le_of_ble_eq_true rfl)⟩ rfl rfl (Nat.le_of_ble_eq_true rfl) (Nat.le_of_ble_eq_true rfl) (fun r9 J_48 hq9 => ?_)
          obtain ⟨z_48, rfl, hz_48, rfl, hh_48⟩ := hq9
          refine tz_if_eq (pc := 51) (tgt := 58) dX12_order_51 (by decide) (by omega) (fun h_51 => ?_) (fun h_51 => ?_)
          · refine tz_iconst (pc := 58) dX12_order_58 ?_
            exact tz_iret (pc := 59) (z := 3) dX12_order_59 rfl (Nat.le_of_ble_eq_true rfl) (Nat.le_of_ble_eq_true rfl) ⟨Nat.le_refl _, Nat.le_add_right _ _⟩ ⟨_, rfl, (by decide), ⟨MQr.z hI y_15, MFI.z y_15, MBT.z hI y_15, u9.z y_15⟩⟩
          · refine tz_iconst (pc := 54) dX12_order_54 ?_
            refine tz_goto (pc := 55) (tgt := 59) dX12_order_55 (by decide) ?_
            exact tz_iret (pc := 59) (z := 2) dX12_order_59 rfl (Nat.le_of_ble_eq_true rfl) (Nat.le_of_ble_eq_true rfl) ⟨Nat.le_refl _, Nat.le_add_right _ _⟩ ⟨_, rfl, (by decide), ⟨MQr.z hI y_15, MFI.z y_15, MBT.z hI y_15, u9.z y_15⟩⟩
        · refine tz_iconst (pc := 41) dX12_order_41 ?_
          refine tz_goto (pc := 42) (tgt := 59) dX12_order_42 (by decide) ?_
          exact tz_iret (pc := 59) (z := 1) dX12_order_59 rfl (Nat.le_of_ble_eq_true rfl) (Nat.le_of_ble_eq_true rfl) ⟨Nat.le_refl _, Nat.le_add_right _ _⟩ ⟨_, rfl, (by decide), ⟨MQr.z hI y_15, MFI.z y_15, MBT.z hI y_15, u9.z y_15⟩⟩
      · refine tz_iconst (pc := 28) dX12_order_28 ?_
        refine tz_goto (pc := 29) (tgt := 59) dX12_order_29 (by decide) ?_
        exact tz_iret (pc := 59) (z := 0) dX12_order_59 rfl (Nat.le_of_ble_eq_true rfl) (Nat.le_of_ble_eq_true rfl) ⟨Nat.le_refl _, Nat.le_add_right _ _⟩ ⟨_, rfl, (by decide), ⟨MQr.z hI y_15, MFI.z y_15, MBT.z hI y_15, u9.z y_15⟩⟩
    · refine tz_iconst (pc := 21) dX12_order_21 ?_
      exact tz_iret (pc := 22) (z := 0) dX12_order_22 rfl (Nat.le_of_ble_eq_true rfl) (Nat.le_of_ble_eq_true rfl) ⟨Nat.le_refl _, Nat.le_add_right _ _⟩ ⟨_, rfl, (by decide), ⟨MQr.z hI y_15, MFI.z y_15, MBT.z hI y_15, u9.z y_15⟩⟩

set_option maxHeartbeats 4000000 in
set_option maxRecDepth 100000 in
theorem k_find {l : Launch} {G : tb_G} (hl : l.stackTraces = false) (n : Nat) (J : zJ) (x : Int) (y : Int) (hr_x : -2147483648 ≤ x ∧ x < 2147483648) (hr_y : -2147483648 ≤ y ∧ y < 2147483648) (m : Int) (pn : Int) (RR : Int → Int → Int) (hI : MI J m) (u9 : MUr J pn RR)  : tz_Ok l G M_X12_find 810 0 0 [.ref 164, zi x, zi y] n J (zqi (fun z J' => MQr J' J ∧ MFI J' J ∧ MBT J' (tbz J) ∧ MUr J' pn RR)) zN := by
  refine tz_Ok.of hl (by decide +kernel) rfl (tb_c1 rfl) (Nat.le_of_ble_eq_true rfl) ?_
  show tz_At l G M_X12_find (tb_rm 810 0 0) none (tb_ZM G 0 0 (zQ n 0 (zqi (fun z J' => MQr J' J ∧ MFI J' J ∧ MBT J' (tbz J) ∧ MUr J' pn RR))) (zX n 0 zN)) 0 0 n J 0 [some (.ref 164), some (zi x), some (zi y), none, none] []
  have hT := hI.told
  have hW := hI.row
  have hM := hI.1
  have hL := hI.2.1
  refine tz_aload_n (pc := 0) dX12_find_0 rfl rfl ?_
  refine tz_iconst (pc := 1) dX12_find_1 ?_
  refine tz_pI (pc := 2) (kz := 8) dX12_find_2 fl_X12_68 i_164_8 rfl rfl (by decide) ?_
  refine tz_aload_n (pc := 5) dX12_find_5 rfl rfl ?_
  refine tz_iload_n (pc := 6) dX12_find_6 rfl rfl ?_
  refine tz_cV (pc := 7) (m_isTermNow hl n _ _ (by omega) (by rw [(show ((zup J 164 8 0) : zJ) 165 0 = (J 165 0) from rfl)]; omega)) vl_X12_379 dX12_find_7 o_164 rfl rfl (Nat.le_of_ble_eq_true rfl) ⟨(Nat.le_of_ble_eq_true rfl), (Nat.le_of_ble_eq_true rfl)⟩ rfl rfl (Nat.le_of_ble_eq_true rfl) (Nat.le_of_ble_eq_true rfl) (fun r9 J_7 hq9 => ?_)
  obtain ⟨z_7, rfl, hz_7, f_7, b_7, c_7⟩ := hq9
  have x_7 : MZ J_7 (zup J 164 8 0) := MZ.f f_7 (by decide) (by decide)
  have y_7 := MZ.tr (MZ.up (k := 8) MZ.rf (by decide)) x_7
  rw [(show ((zup J 164 8 0) : zJ) 165 0 = (J 165 0) from rfl)] at c_7
  refine tz_if_eq (pc := 10) (tgt := 27) dX12_find_10 (by decide) (by omega) (fun h_10 => ?_) (fun h_10 => ?_)
  · refine tz_iconst (pc := 27) dX12_find_27 ?_
    exact tz_iret (pc := 28) (z := 0) dX12_find_28 rfl (Nat.le_of_ble_eq_true rfl) (Nat.le_of_ble_eq_true rfl) ⟨Nat.le_refl _, Nat.le_add_right _ _⟩ ⟨_, rfl, (by decide), ⟨MQr.z hI y_7, MFI.z y_7, MBT.z hI y_7, u9.z y_7⟩⟩
  · refine tz_aload_n (pc := 13) dX12_find_13 rfl rfl ?_
    refine tz_iload_n (pc := 14) dX12_find_14 rfl rfl ?_
    refine tz_iconst (pc := 15) dX12_find_15 ?_
    refine tz_iconst (pc := 16) dX12_find_16 ?_
    refine tz_cS (pc := 17) (m_within hl n _ _ _ _ (by omega) (by decide) (by decide)) sl_X12_283 dX12_find_17 rfl rfl (Nat.le_of_ble_eq_true rfl) ⟨(Nat.le_of_ble_eq_true rfl), (Nat.le_of_ble_eq_true rfl)⟩ rfl rfl (Nat.le_of_ble_eq_true rfl) (Nat.le_of_ble_eq_true rfl) (fun r9 J_17 hq9 => ?_)
    obtain ⟨z_17, rfl, hz_17, rfl, hw_17⟩ := hq9
    refine tz_iconst (pc := 20) dX12_find_20 ?_
    refine tz_cV (pc := 21) (m_right hl n _ _ _ (by omega) (by decide) (by decide)) vl_X12_334 dX12_find_21 o_164 rfl rfl (Nat.le_of_ble_eq_true rfl) ⟨(Nat.le_of_ble_eq_true rfl), (Nat.le_of_ble_eq_true rfl)⟩ rfl rfl (Nat.le_of_ble_eq_true rfl) (Nat.le_of_ble_eq_true rfl) (fun r9 J_21 hq9 => ?_)
    obtain ⟨z_21, rfl, hz_21, f_21, b_21, c_21⟩ := hq9
    have x_21 : MZ J_21 J_7 := MZ.f f_21 (by decide) (by decide)
    have y_21 := MZ.tr y_7 x_21
    have e_21 : z_21 = 1 → ¬ z_17 = 0 := fun q9 => (c_21 q9).2.2.resolve_right (by decide)
    refine tz_if_ne (pc := 24) (tgt := 29) dX12_find_24 (by decide) (by omega) (fun h_24 => ?_) (fun h_24 => ?_)
    · refine tz_iconst (pc := 29) dX12_find_29 ?_
      refine tz_istore_n (pc := 30) (L2 := [_, _, _, _, _]) dX12_find_30 rfl (by decide) rfl ?_
      refine tz_iconst (pc := 31) dX12_find_31 ?_
      refine tz_istore (pc := 32) (L2 := [_, _, _, _, _]) dX12_find_32 (by decide) rfl ?_
      have loop34 : ∀ (f9 : Nat) (q : Int) (k : Int) (J1 : zJ), ((12 - k).toNat) < f9 → (-2147483648 ≤ q ∧ q < 2147483648) → (0 ≤ k ∧ k ≤ J 165 26) → (MZ J1 J) → tz_At l G M_X12_find (tb_rm 810 0 0) none (tb_ZM G 0 0 (zQ n 0 (zqi (fun z J' => MQr J' J ∧ MFI J' J ∧ MBT J' (tbz J) ∧ MUr J' pn RR))) (zX n 0 zN)) 0 0 n J1 34 [some (.ref 164), some (zi x), some (zi y), some (zi q), some (zi k)] [] := by
        intro f9
        induction f9 with
        | zero => intro q k J1 hm9; exact absurd hm9 (Nat.not_lt_zero _)
        | succ f9 ih34 =>
          intro q k J1 hm34 hq hk zf
          refine tz_iload (pc := 34) dX12_find_34 rfl ?_
          refine tz_aload_n (pc := 36) dX12_find_36 rfl rfl ?_
          refine tz_fR (pc := 37) dX12_find_37 fl_X12_9 r_164_0 ?_
          refine tz_bipush (pc := 40) dX12_find_40 (by decide) ?_
          refine tz_aL (pc := 42) (z := 26) (v := (J 165 26)) dX12_find_42 a_165 rfl (by decide) (Eq.trans (congrFun (zf.1 165 rfl) 26) rfl) (fun r_42 => ?_)
          refine tz_icmp_ge (pc := 43) (tgt := 78) dX12_find_43 (by decide) (by omega) (by omega) (fun h_43 => ?_) (fun h_43 => ?_)
          · refine tz_iload_n (pc := 78) dX12_find_78 rfl rfl ?_
            exact tz_iret (pc := 79) (z := q) dX12_find_79 rfl (Nat.le_of_ble_eq_true rfl) (Nat.le_of_ble_eq_true rfl) ⟨Nat.le_refl _, Nat.le_add_right _ _⟩ ⟨_, rfl, (by omega), ⟨MQr.z hI zf, MFI.z zf, MBT.z hI zf, u9.z zf⟩⟩
          · refine tz_aload_n (pc := 46) dX12_find_46 rfl rfl ?_
            refine tz_aload_n (pc := 47) dX12_find_47 rfl rfl ?_
            refine tz_fR (pc := 48) dX12_find_48 fl_X12_9 r_164_0 ?_
            refine tz_bipush (pc := 51) dX12_find_51 (by decide) ?_
            refine tz_iload (pc := 53) dX12_find_53 rfl ?_
            refine tz_iadd (pc := 55) (v := 27 + k) dX12_find_55 rfl ?_
            refine tz_aL (pc := 56) (z := (27 + k)) (v := (J 165 (27 + k))) dX12_find_56 a_165 rfl (by omega) (Eq.trans (congrFun (zf.1 165 rfl) (27 + k)) rfl) (fun r_56 => ?_)
            refine tz_iload_n (pc := 57) dX12_find_57 rfl rfl ?_
            refine tz_iload_n (pc := 58) dX12_find_58 rfl rfl ?_
            have hE := hL.2.2.1.2 k (by omega) (by omega)
            refine tz_cV (pc := 59) (m_isFound hl n _ _ _ _ (by omega) (by omega) (by omega) (J 164 9) m (hM.z zf) (by omega) (by omega)) vl_X12_388 dX12_find_59 o_164 rfl rfl (Nat.le_of_ble_eq_true rfl) ⟨(Nat.le_of_ble_eq_true rfl), (Nat.le_of_ble_eq_true rfl)⟩ rfl rfl (Nat.le_of_ble_eq_true rfl) (Nat.le_of_ble_eq_true rfl) (fun r9 J_59 hq9 => ?_)
            obtain ⟨z_59, rfl, hz_59, b_59, x_59⟩ := hq9
            have y_59 := MZ.tr zf x_59
            refine tz_if_eq (pc := 62) (tgt := 72) dX12_find_62 (by decide) (by omega) (fun h_62 => ?_) (fun h_62 => ?_)
            · refine tz_iinc (pc := 72) (z := k + 1) (L2 := [_, _, _, _, _]) dX12_find_72 rfl (by omega) rfl ?_
              refine tz_goto (pc := 75) (tgt := 34) dX12_find_75 (by decide) ?_
              exact ih34 _ (k + 1) _ (by omega) (by omega) (by omega) y_59
            · refine tz_iload_n (pc := 65) dX12_find_65 rfl rfl ?_
              refine tz_iconst (pc := 66) dX12_find_66 ?_
              refine tz_iload (pc := 67) dX12_find_67 rfl ?_
              refine tz_ishl (pc := 69) (v := zshl 1 k) dX12_find_69 rfl ?_
              have r_69 := zshl_rg 1 k
              refine tz_ior (pc := 70) (v := zor q (zshl 1 k)) dX12_find_70 rfl ?_
              have r_70 := zor_rg q (zshl 1 k)
              refine tz_istore_n (pc := 71) (L2 := [_, _, _, _, _]) dX12_find_71 rfl (by decide) rfl ?_
              refine tz_iinc (pc := 72) (z := k + 1) (L2 := [_, _, _, _, _]) dX12_find_72 rfl (by omega) rfl ?_
              refine tz_goto (pc := 75) (tgt := 34) dX12_find_75 (by decide) ?_
              exact ih34 _ (k + 1) _ (by omega) (by omega) (by omega) y_59
      exact loop34 _ 0 0 _ (Nat.lt_succ_self _) (by omega) (by omega) y_21
    · refine tz_iconst (pc := 27) dX12_find_27 ?_
      exact tz_iret (pc := 28) (z := 0) dX12_find_28 rfl (Nat.le_of_ble_eq_true rfl) (Nat.le_of_ble_eq_true rfl) ⟨Nat.le_refl _, Nat.le_add_right _ _⟩ ⟨_, rfl, (by decide), ⟨MQr.z hI y_21, MFI.z y_21, MBT.z hI y_21, u9.z y_21⟩⟩

