set_option maxHeartbeats 4000000 in
set_option maxRecDepth 100000 in
theorem m_isFound {l : Launch} {G : tb_G} (hl : l.stackTraces = false) (n : Nat) (J : zJ) (u : Int) (t : Int) (w : Int) (hr_u : -2147483648 ≤ u ∧ u < 2147483648) (hr_t : -2147483648 ≤ t ∧ t < 2147483648) (hr_w : -2147483648 ≤ w ∧ w < 2147483648) (s m : Int) (hM : MS J 0 0 0 s m) (hu : 0 ≤ u ∧ u < m) (ht : 0 ≤ t ∧ t < m) : tz_Ok l G M_X12_isFound 809 0 0 [.ref 164, zi u, zi t, zi w] n J (zqi (fun z J' => (z = 0 ∨ z = 1) ∧ MZ J' J)) zN := by
  refine tz_Ok.of hl (by decide +kernel) rfl (tb_c1 rfl) (Nat.le_of_ble_eq_true rfl) ?_
  show tz_At l G M_X12_isFound (tb_rm 809 0 0) none (tb_ZM G 0 0 (zQ n 0 (zqi (fun z J' => (z = 0 ∨ z = 1) ∧ MZ J' J))) (zX n 0 zN)) 0 0 n J 0 [some (.ref 164), some (zi u), some (zi t), some (zi w)] []
  refine tz_iload_n (pc := 0) dX12_isFound_0 rfl rfl ?_
  refine tz_if_ne (pc := 1) (tgt := 11) dX12_isFound_1 (by decide) (by omega) (fun h_1 => ?_) (fun h_1 => ?_)
  · refine tz_iload_n (pc := 11) dX12_isFound_11 rfl rfl ?_
    refine tz_iconst (pc := 12) dX12_isFound_12 ?_
    refine tz_icmp_ne (pc := 13) (tgt := 23) dX12_isFound_13 (by decide) (by omega) (by decide) (fun h_13 => ?_) (fun h_13 => ?_)
    · refine tz_iload_n (pc := 23) dX12_isFound_23 rfl rfl ?_
      refine tz_iconst (pc := 24) dX12_isFound_24 ?_
      refine tz_icmp_ne (pc := 25) (tgt := 37) dX12_isFound_25 (by decide) (by omega) (by decide) (fun h_25 => ?_) (fun h_25 => ?_)
      · refine tz_aload_n (pc := 37) dX12_isFound_37 rfl rfl ?_
        refine tz_iload_n (pc := 38) dX12_isFound_38 rfl rfl ?_
        refine tz_iload_n (pc := 39) dX12_isFound_39 rfl rfl ?_
        refine tz_cV (pc := 40) (m_shape hl n _ _ _ (by omega) (by omega) 0 0 0 s m (hM.z MZ.rf) (by omega) (by omega) ) vl_X12_136 dX12_isFound_40 o_164 rfl rfl (Nat.le_of_ble_eq_true rfl) ⟨(Nat.le_of_ble_eq_true rfl), (Nat.le_of_ble_eq_true rfl)⟩ rfl rfl (Nat.le_of_ble_eq_true rfl) (Nat.le_of_ble_eq_true rfl) (fun r9 J_40 hq9 => ?_)
        obtain ⟨z_40, rfl, hz_40, rfl, hh_40⟩ := hq9
        exact tz_zret (pc := 43) (z := z_40) dX12_isFound_43 rfl (by omega) (Nat.le_of_ble_eq_true rfl) (Nat.le_of_ble_eq_true rfl) ⟨Nat.le_refl _, Nat.le_add_right _ _⟩ ⟨_, rfl, (by omega), ⟨by omega, MZ.rf⟩⟩
      · refine tz_aload_n (pc := 28) dX12_isFound_28 rfl rfl ?_
        refine tz_iload_n (pc := 29) dX12_isFound_29 rfl rfl ?_
        refine tz_iload_n (pc := 30) dX12_isFound_30 rfl rfl ?_
        refine tz_cV (pc := 31) (m_canBe hl n _ _ _ (by omega) (by omega) 0 0 0 s m (hM.z MZ.rf) (by omega) (by omega)) vl_X12_359 dX12_isFound_31 o_164 rfl rfl (Nat.le_of_ble_eq_true rfl) ⟨(Nat.le_of_ble_eq_true rfl), (Nat.le_of_ble_eq_true rfl)⟩ rfl rfl (Nat.le_of_ble_eq_true rfl) (Nat.le_of_ble_eq_true rfl) (fun r9 J_31 hq9 => ?_)
        obtain ⟨z_31, rfl, hz_31, b_31, f_31⟩ := hq9
        have x_31 : MZ J_31 J := MZ.f f_31 (by decide) (by decide)
        have y_31 := MZ.tr MZ.rf x_31
        refine tz_goto (pc := 34) (tgt := 43) dX12_isFound_34 (by decide) ?_
        exact tz_zret (pc := 43) (z := z_31) dX12_isFound_43 rfl (by omega) (Nat.le_of_ble_eq_true rfl) (Nat.le_of_ble_eq_true rfl) ⟨Nat.le_refl _, Nat.le_add_right _ _⟩ ⟨_, rfl, (by omega), ⟨by omega, y_31⟩⟩
    · refine tz_aload_n (pc := 16) dX12_isFound_16 rfl rfl ?_
      refine tz_iload_n (pc := 17) dX12_isFound_17 rfl rfl ?_
      refine tz_iload_n (pc := 18) dX12_isFound_18 rfl rfl ?_
      refine tz_cV (pc := 19) (m_doesMatch hl n _ _ _ (by omega) (by omega) 0 0 0 s m (hM.z MZ.rf) (by omega) (by omega)) vl_X12_227 dX12_isFound_19 o_164 rfl rfl (Nat.le_of_ble_eq_true rfl) ⟨(Nat.le_of_ble_eq_true rfl), (Nat.le_of_ble_eq_true rfl)⟩ rfl rfl (Nat.le_of_ble_eq_true rfl) (Nat.le_of_ble_eq_true rfl) (fun r9 J_19 hq9 => ?_)
      obtain ⟨z_19, rfl, hz_19, b_19, f_19, g_19⟩ := hq9
      have x_19 : MZ J_19 J := MZ.c f_19 (by decide)
      have y_19 := MZ.tr MZ.rf x_19
      exact tz_zret (pc := 22) (z := z_19) dX12_isFound_22 rfl (by omega) (Nat.le_of_ble_eq_true rfl) (Nat.le_of_ble_eq_true rfl) ⟨Nat.le_refl _, Nat.le_add_right _ _⟩ ⟨_, rfl, (by omega), ⟨by omega, y_19⟩⟩
  · refine tz_aload_n (pc := 4) dX12_isFound_4 rfl rfl ?_
    refine tz_iload_n (pc := 5) dX12_isFound_5 rfl rfl ?_
    refine tz_iload_n (pc := 6) dX12_isFound_6 rfl rfl ?_
    refine tz_cV (pc := 7) (m_doesMatch hl n _ _ _ (by omega) (by omega) 0 0 0 s m (hM.z MZ.rf) (by omega) (by omega)) vl_X12_227 dX12_isFound_7 o_164 rfl rfl (Nat.le_of_ble_eq_true rfl) ⟨(Nat.le_of_ble_eq_true rfl), (Nat.le_of_ble_eq_true rfl)⟩ rfl rfl (Nat.le_of_ble_eq_true rfl) (Nat.le_of_ble_eq_true rfl) (fun r9 J_7 hq9 => ?_)
    obtain ⟨z_7, rfl, hz_7, b_7, f_7, g_7⟩ := hq9
    have x_7 : MZ J_7 J := MZ.c f_7 (by decide)
    have y_7 := MZ.tr MZ.rf x_7
    exact tz_zret (pc := 10) (z := z_7) dX12_isFound_10 rfl (by omega) (Nat.le_of_ble_eq_true rfl) (Nat.le_of_ble_eq_true rfl) ⟨Nat.le_refl _, Nat.le_add_right _ _⟩ ⟨_, rfl, (by omega), ⟨by omega, y_7⟩⟩
