set_option maxHeartbeats 4000000 in
set_option maxRecDepth 100000 in
theorem q_unify {l : Launch} {G : tb_G} (hl : l.stackTraces = false) (n : Nat) (J : zJ) (x : Int) (y : Int) (hr_x : -2147483648 ≤ x ∧ x < 2147483648) (hr_y : -2147483648 ≤ y ∧ y < 2147483648) (m : Int) (hI : MI J m)  : tz_Ok l G M_X12_unify 808 0 0 [.ref 164, zi x, zi y] n J (zqi (fun z J' => MQr J' J)) zN := by
  refine tz_Ok.of hl (by decide +kernel) rfl (tb_c1 rfl) (Nat.le_of_ble_eq_true rfl) ?_
  show tz_At l G M_X12_unify (tb_rm 808 0 0) none (tb_ZM G 0 0 (zQ n 0 (zqi (fun z J' => MQr J' J))) (zX n 0 zN)) 0 0 n J 0 [some (.ref 164), some (zi x), some (zi y), none] []
  have hT := hI.told
  have hW := hI.row
  have hM := hI.1
  have hL := hI.2.1
  refine tz_aload_n (pc := 0) dX12_unify_0 rfl rfl ?_
  refine tz_iconst (pc := 1) dX12_unify_1 ?_
  refine tz_pI (pc := 2) (kz := 8) dX12_unify_2 fl_X12_68 i_164_8 rfl rfl (by decide) ?_
  refine tz_aload_n (pc := 5) dX12_unify_5 rfl rfl ?_
  refine tz_iload_n (pc := 6) dX12_unify_6 rfl rfl ?_
  refine tz_cV (pc := 7) (m_isTerm hl n _ _ (by omega) (by rw [(show ((zup J 164 8 0) : zJ) 165 0 = (J 165 0) from rfl)]; omega)) vl_X12_376 dX12_unify_7 o_164 rfl rfl (Nat.le_of_ble_eq_true rfl) ⟨(Nat.le_of_ble_eq_true rfl), (Nat.le_of_ble_eq_true rfl)⟩ rfl rfl (Nat.le_of_ble_eq_true rfl) (Nat.le_of_ble_eq_true rfl) (fun r9 J_7 hq9 => ?_)
  obtain ⟨z_7, rfl, hz_7, rfl, ht_7⟩ := hq9
  rw [(show ((zup J 164 8 0) : zJ) 165 0 = (J 165 0) from rfl)] at ht_7
  refine tz_if_eq (pc := 10) (tgt := 21) dX12_unify_10 (by decide) (by omega) (fun h_10 => ?_) (fun h_10 => ?_)
  · refine tz_aload_n (pc := 21) dX12_unify_21 rfl rfl ?_
    refine tz_iconst (pc := 22) dX12_unify_22 ?_
    refine tz_iconst (pc := 23) dX12_unify_23 ?_
    refine tz_cV (pc := 24) (m_refuses hl n _ _ _ (by decide) (by decide) (by decide)) vl_X12_391 dX12_unify_24 o_164 rfl rfl (Nat.le_of_ble_eq_true rfl) ⟨(Nat.le_of_ble_eq_true rfl), (Nat.le_of_ble_eq_true rfl)⟩ rfl rfl (Nat.le_of_ble_eq_true rfl) (Nat.le_of_ble_eq_true rfl) (fun r9 J_24 hq9 => ?_)
    obtain ⟨z_24, rfl, hz_24, e_24, f_24⟩ := hq9
    have y_24 : MZ J_24 J := MZ.tr (MZ.up (k := 8) MZ.rf (by decide)) (MZ.c f_24 (by decide))
    exact tz_iret (pc := 27) (z := z_24) dX12_unify_27 rfl (Nat.le_of_ble_eq_true rfl) (Nat.le_of_ble_eq_true rfl) ⟨Nat.le_refl _, Nat.le_add_right _ _⟩ ⟨_, rfl, (by omega), MQr.z hI y_24⟩
  · refine tz_aload_n (pc := 13) dX12_unify_13 rfl rfl ?_
    refine tz_iload_n (pc := 14) dX12_unify_14 rfl rfl ?_
    refine tz_cV (pc := 15) (m_isTerm hl n _ _ (by omega) (by rw [(show ((zup J 164 8 0) : zJ) 165 0 = (J 165 0) from rfl)]; omega)) vl_X12_376 dX12_unify_15 o_164 rfl rfl (Nat.le_of_ble_eq_true rfl) ⟨(Nat.le_of_ble_eq_true rfl), (Nat.le_of_ble_eq_true rfl)⟩ rfl rfl (Nat.le_of_ble_eq_true rfl) (Nat.le_of_ble_eq_true rfl) (fun r9 J_15 hq9 => ?_)
    obtain ⟨z_15, rfl, hz_15, rfl, ht_15⟩ := hq9
    rw [(show ((zup J 164 8 0) : zJ) 165 0 = (J 165 0) from rfl)] at ht_15
    refine tz_if_ne (pc := 18) (tgt := 28) dX12_unify_18 (by decide) (by omega) (fun h_18 => ?_) (fun h_18 => ?_)
    · refine tz_aload_n (pc := 28) dX12_unify_28 rfl rfl ?_
      refine tz_iload_n (pc := 29) dX12_unify_29 rfl rfl ?_
      refine tz_iload_n (pc := 30) dX12_unify_30 rfl rfl ?_
      refine tz_cV (pc := 31) (m_unifies hl n _ _ _ (by omega) (by omega) 0 0 0 (J 164 9) m 400 (hM.z (MZ.up (k := 8) MZ.rf (by decide))) (by decide) (by omega) (by omega)) vl_X12_189 dX12_unify_31 o_164 rfl rfl (Nat.le_of_ble_eq_true rfl) ⟨(Nat.le_of_ble_eq_true rfl), (Nat.le_of_ble_eq_true rfl)⟩ rfl rfl (Nat.le_of_ble_eq_true rfl) (Nat.le_of_ble_eq_true rfl) (fun r9 J_31 hq9 => ?_)
      obtain ⟨z_31, rfl, hz_31, u_31, b_31, f_31⟩ := hq9
      have x_31 : MZ J_31 (zup J 164 8 0) := MZ.f f_31 (by decide) (by decide)
      have y_31 := MZ.tr (MZ.up (k := 8) MZ.rf (by decide)) x_31
      refine tz_istore_n (pc := 34) (L2 := [_, _, _, _]) dX12_unify_34 rfl (by decide) rfl ?_
      refine tz_iload_n (pc := 35) dX12_unify_35 rfl rfl ?_
      refine tz_iconst (pc := 36) dX12_unify_36 ?_
      refine tz_icmp_eq (pc := 37) (tgt := 47) dX12_unify_37 (by decide) (by omega) (by decide) (fun h_37 => ?_) (fun h_37 => ?_)
      · refine tz_aload_n (pc := 47) dX12_unify_47 rfl rfl ?_
        refine tz_cV (pc := 48) (m_begins hl n _) vl_X12_400 dX12_unify_48 o_164 rfl rfl (Nat.le_of_ble_eq_true rfl) ⟨(Nat.le_of_ble_eq_true rfl), (Nat.le_of_ble_eq_true rfl)⟩ rfl rfl (Nat.le_of_ble_eq_true rfl) (Nat.le_of_ble_eq_true rfl) (fun r9 J_48 hq9 => ?_)
        obtain ⟨rfl, hj_48⟩ := hq9
        have a_48 : AM J_48 J m m := by rw [← hj_48]; exact AM.begin (hI.z y_31) ⟨MZ.lo y_31, SC.z y_31⟩
        have br_48 : ∀ k, (k < 63 ∨ 126 ≤ k) → J_48 165 k = (J_31 : zJ) 165 k := fun k hk => by rw [← hj_48]; exact zbg_r hk
        have bl_48 : ∀ k, ¬ k = 34 → ¬ k = 33 → ¬ k = 21 → J_48 164 k = (J_31 : zJ) 164 k := fun k u v w => by rw [← hj_48]; exact zbg_f u v w
        have bo_48 : zOf (zbut [164, 165]) J_48 J_31 := by rw [← hj_48]; exact zbg_of
        have b3_48 : J_48 164 21 = 0 ∧ J_48 164 33 = 0 ∧ J_48 164 34 = 0 := by rw [← hj_48]; exact ⟨rfl, rfl, rfl⟩
        have s9_48 : J_48 164 9 = J 164 9 := (bl_48 9 (by decide) (by decide) (by decide)).trans (y_31.2 9 (by decide) (by decide))
        refine tz_aload_n (pc := 51) dX12_unify_51 rfl rfl ?_
        refine tz_aload_n (pc := 52) dX12_unify_52 rfl rfl ?_
        refine tz_iload_n (pc := 53) dX12_unify_53 rfl rfl ?_
        refine tz_cV (pc := 54) (m_vars hl n _ _ (by omega) 0 0 0 (J_48 164 9) m a_48.1.1 (by omega)) vl_X12_126 dX12_unify_54 o_164 rfl rfl (Nat.le_of_ble_eq_true rfl) ⟨(Nat.le_of_ble_eq_true rfl), (Nat.le_of_ble_eq_true rfl)⟩ rfl rfl (Nat.le_of_ble_eq_true rfl) (Nat.le_of_ble_eq_true rfl) (fun r9 J_54 hq9 => ?_)
        obtain ⟨z_54, rfl, hz_54, rfl⟩ := hq9
        refine tz_aload_n (pc := 57) dX12_unify_57 rfl rfl ?_
        refine tz_iload_n (pc := 58) dX12_unify_58 rfl rfl ?_
        refine tz_cV (pc := 59) (m_vars hl n _ _ (by omega) 0 0 0 (J_48 164 9) m a_48.1.1 (by omega)) vl_X12_126 dX12_unify_59 o_164 rfl rfl (Nat.le_of_ble_eq_true rfl) ⟨(Nat.le_of_ble_eq_true rfl), (Nat.le_of_ble_eq_true rfl)⟩ rfl rfl (Nat.le_of_ble_eq_true rfl) (Nat.le_of_ble_eq_true rfl) (fun r9 J_59 hq9 => ?_)
        obtain ⟨z_59, rfl, hz_59, rfl⟩ := hq9
        refine tz_ior (pc := 62) (v := zor z_54 z_59) dX12_unify_62 rfl ?_
        refine tz_cV (pc := 63) (m_binds hl n _ _ (zor_rg _ _) 0 0 0 (J_48 164 9) m (a_48).1.1 (u_31.of (bo_48 177 rfl) (bo_48 178 rfl) (bo_48 179 rfl))) vl_X12_412 dX12_unify_63 o_164 rfl rfl (Nat.le_of_ble_eq_true rfl) ⟨(Nat.le_of_ble_eq_true rfl), (Nat.le_of_ble_eq_true rfl)⟩ rfl rfl (Nat.le_of_ble_eq_true rfl) (Nat.le_of_ble_eq_true rfl) (fun r9 J_63 hq9 => ?_)
        obtain ⟨rfl, m_63, g_63, h_63⟩ := hq9
        have a_63 := AM.binds a_48 g_63 h_63 rfl
        have lm_63 := a_63.1.2.2
        refine tz_aload_n (pc := 66) dX12_unify_66 rfl rfl ?_
        refine tz_iconst (pc := 67) dX12_unify_67 ?_
        refine tz_cV (pc := 68) (m_keeps hl n _ _ (by decide) (a_63).2.2.2.1.1.1 (a_63).2.2.2.1.1.2) vl_X12_403 dX12_unify_68 o_164 rfl rfl (Nat.le_of_ble_eq_true rfl) ⟨(Nat.le_of_ble_eq_true rfl), (Nat.le_of_ble_eq_true rfl)⟩ rfl rfl (Nat.le_of_ble_eq_true rfl) (Nat.le_of_ble_eq_true rfl) (fun r9 J_68 hq9 => ?_)
        obtain ⟨z_68, rfl, hz_68, k_68⟩ := hq9
        exact tz_iret (pc := 71) (z := z_68) dX12_unify_71 rfl (Nat.le_of_ble_eq_true rfl) (Nat.le_of_ble_eq_true rfl) ⟨Nat.le_refl _, Nat.le_add_right _ _⟩ ⟨_, rfl, (by omega), AM.keep a_63 k_68⟩
      · refine tz_aload_n (pc := 40) dX12_unify_40 rfl rfl ?_
        refine tz_iconst (pc := 41) dX12_unify_41 ?_
        refine tz_iload_n (pc := 42) dX12_unify_42 rfl rfl ?_
        refine tz_cV (pc := 43) (m_refuses hl n _ _ _ (by decide) (by omega) (by decide)) vl_X12_391 dX12_unify_43 o_164 rfl rfl (Nat.le_of_ble_eq_true rfl) ⟨(Nat.le_of_ble_eq_true rfl), (Nat.le_of_ble_eq_true rfl)⟩ rfl rfl (Nat.le_of_ble_eq_true rfl) (Nat.le_of_ble_eq_true rfl) (fun r9 J_43 hq9 => ?_)
        obtain ⟨z_43, rfl, hz_43, e_43, f_43⟩ := hq9
        have y_43 : MZ J_43 J := MZ.tr y_31 (MZ.c f_43 (by decide))
        exact tz_iret (pc := 46) (z := z_43) dX12_unify_46 rfl (Nat.le_of_ble_eq_true rfl) (Nat.le_of_ble_eq_true rfl) ⟨Nat.le_refl _, Nat.le_add_right _ _⟩ ⟨_, rfl, (by omega), MQr.z hI y_43⟩
    · refine tz_aload_n (pc := 21) dX12_unify_21 rfl rfl ?_
      refine tz_iconst (pc := 22) dX12_unify_22 ?_
      refine tz_iconst (pc := 23) dX12_unify_23 ?_
      refine tz_cV (pc := 24) (m_refuses hl n _ _ _ (by decide) (by decide) (by decide)) vl_X12_391 dX12_unify_24 o_164 rfl rfl (Nat.le_of_ble_eq_true rfl) ⟨(Nat.le_of_ble_eq_true rfl), (Nat.le_of_ble_eq_true rfl)⟩ rfl rfl (Nat.le_of_ble_eq_true rfl) (Nat.le_of_ble_eq_true rfl) (fun r9 J_24 hq9 => ?_)
      obtain ⟨z_24, rfl, hz_24, e_24, f_24⟩ := hq9
      have y_24 : MZ J_24 J := MZ.tr (MZ.up (k := 8) MZ.rf (by decide)) (MZ.c f_24 (by decide))
      exact tz_iret (pc := 27) (z := z_24) dX12_unify_27 rfl (Nat.le_of_ble_eq_true rfl) (Nat.le_of_ble_eq_true rfl) ⟨Nat.le_refl _, Nat.le_add_right _ _⟩ ⟨_, rfl, (by omega), MQr.z hI y_24⟩

set_option maxHeartbeats 4000000 in
set_option maxRecDepth 100000 in
theorem q_common {l : Launch} {G : tb_G} (hl : l.stackTraces = false) (n : Nat) (J : zJ) (x : Int) (y : Int) (hr_x : -2147483648 ≤ x ∧ x < 2147483648) (hr_y : -2147483648 ≤ y ∧ y < 2147483648) (m : Int) (hI : MI J m)  : tz_Ok l G M_X12_common 12 0 0 [.ref 164, zi x, zi y] n J (zqi (fun z J' => MQr J' J)) zN := by
  refine tz_Ok.of hl (by decide +kernel) rfl (tb_c1 rfl) (Nat.le_of_ble_eq_true rfl) ?_
  show tz_At l G M_X12_common (tb_rm 12 0 0) none (tb_ZM G 0 0 (zQ n 0 (zqi (fun z J' => MQr J' J))) (zX n 0 zN)) 0 0 n J 0 [some (.ref 164), some (zi x), some (zi y), none] []
  have hT := hI.told
  have hW := hI.row
  have hM := hI.1
  have hL := hI.2.1
  refine tz_aload_n (pc := 0) dX12_common_0 rfl rfl ?_
  refine tz_iconst (pc := 1) dX12_common_1 ?_
  refine tz_pI (pc := 2) (kz := 8) dX12_common_2 fl_X12_68 i_164_8 rfl rfl (by decide) ?_
  refine tz_aload_n (pc := 5) dX12_common_5 rfl rfl ?_
  refine tz_iload_n (pc := 6) dX12_common_6 rfl rfl ?_
  refine tz_cV (pc := 7) (m_isTerm hl n _ _ (by omega) (by rw [(show ((zup J 164 8 0) : zJ) 165 0 = (J 165 0) from rfl)]; omega)) vl_X12_376 dX12_common_7 o_164 rfl rfl (Nat.le_of_ble_eq_true rfl) ⟨(Nat.le_of_ble_eq_true rfl), (Nat.le_of_ble_eq_true rfl)⟩ rfl rfl (Nat.le_of_ble_eq_true rfl) (Nat.le_of_ble_eq_true rfl) (fun r9 J_7 hq9 => ?_)
  obtain ⟨z_7, rfl, hz_7, rfl, ht_7⟩ := hq9
  rw [(show ((zup J 164 8 0) : zJ) 165 0 = (J 165 0) from rfl)] at ht_7
  refine tz_if_eq (pc := 10) (tgt := 21) dX12_common_10 (by decide) (by omega) (fun h_10 => ?_) (fun h_10 => ?_)
  · refine tz_aload_n (pc := 21) dX12_common_21 rfl rfl ?_
    refine tz_iconst (pc := 22) dX12_common_22 ?_
    refine tz_iconst (pc := 23) dX12_common_23 ?_
    refine tz_cV (pc := 24) (m_refuses hl n _ _ _ (by decide) (by decide) (by decide)) vl_X12_391 dX12_common_24 o_164 rfl rfl (Nat.le_of_ble_eq_true rfl) ⟨(Nat.le_of_ble_eq_true rfl), (Nat.le_of_ble_eq_true rfl)⟩ rfl rfl (Nat.le_of_ble_eq_true rfl) (Nat.le_of_ble_eq_true rfl) (fun r9 J_24 hq9 => ?_)
    obtain ⟨z_24, rfl, hz_24, e_24, f_24⟩ := hq9
    have y_24 : MZ J_24 J := MZ.tr (MZ.up (k := 8) MZ.rf (by decide)) (MZ.c f_24 (by decide))
    exact tz_iret (pc := 27) (z := z_24) dX12_common_27 rfl (Nat.le_of_ble_eq_true rfl) (Nat.le_of_ble_eq_true rfl) ⟨Nat.le_refl _, Nat.le_add_right _ _⟩ ⟨_, rfl, (by omega), MQr.z hI y_24⟩
  · refine tz_aload_n (pc := 13) dX12_common_13 rfl rfl ?_
    refine tz_iload_n (pc := 14) dX12_common_14 rfl rfl ?_
    refine tz_cV (pc := 15) (m_isTerm hl n _ _ (by omega) (by rw [(show ((zup J 164 8 0) : zJ) 165 0 = (J 165 0) from rfl)]; omega)) vl_X12_376 dX12_common_15 o_164 rfl rfl (Nat.le_of_ble_eq_true rfl) ⟨(Nat.le_of_ble_eq_true rfl), (Nat.le_of_ble_eq_true rfl)⟩ rfl rfl (Nat.le_of_ble_eq_true rfl) (Nat.le_of_ble_eq_true rfl) (fun r9 J_15 hq9 => ?_)
    obtain ⟨z_15, rfl, hz_15, rfl, ht_15⟩ := hq9
    rw [(show ((zup J 164 8 0) : zJ) 165 0 = (J 165 0) from rfl)] at ht_15
    refine tz_if_ne (pc := 18) (tgt := 28) dX12_common_18 (by decide) (by omega) (fun h_18 => ?_) (fun h_18 => ?_)
    · refine tz_aload_n (pc := 28) dX12_common_28 rfl rfl ?_
      refine tz_cV (pc := 29) (m_begins hl n _) vl_X12_400 dX12_common_29 o_164 rfl rfl (Nat.le_of_ble_eq_true rfl) ⟨(Nat.le_of_ble_eq_true rfl), (Nat.le_of_ble_eq_true rfl)⟩ rfl rfl (Nat.le_of_ble_eq_true rfl) (Nat.le_of_ble_eq_true rfl) (fun r9 J_29 hq9 => ?_)
      obtain ⟨rfl, hj_29⟩ := hq9
      have a_29 : AM J_29 J m m := by rw [← hj_29]; exact AM.begin (hI.z (MZ.up (k := 8) MZ.rf (by decide))) ⟨MZ.lo (MZ.up (k := 8) MZ.rf (by decide)), SC.z (MZ.up (k := 8) MZ.rf (by decide))⟩
      have br_29 : ∀ k, (k < 63 ∨ 126 ≤ k) → J_29 165 k = ((zup J 164 8 0) : zJ) 165 k := fun k hk => by rw [← hj_29]; exact zbg_r hk
      have bl_29 : ∀ k, ¬ k = 34 → ¬ k = 33 → ¬ k = 21 → J_29 164 k = ((zup J 164 8 0) : zJ) 164 k := fun k u v w => by rw [← hj_29]; exact zbg_f u v w
      have bo_29 : zOf (zbut [164, 165]) J_29 (zup J 164 8 0) := by rw [← hj_29]; exact zbg_of
      have b3_29 : J_29 164 21 = 0 ∧ J_29 164 33 = 0 ∧ J_29 164 34 = 0 := by rw [← hj_29]; exact ⟨rfl, rfl, rfl⟩
      have s9_29 : J_29 164 9 = J 164 9 := (bl_29 9 (by decide) (by decide) (by decide)).trans ((MZ.up (k := 8) MZ.rf (by decide)).2 9 (by decide) (by decide))
      refine tz_aload_n (pc := 32) dX12_common_32 rfl rfl ?_
      refine tz_iconst (pc := 33) dX12_common_33 ?_
      refine tz_pI (pc := 34) (kz := 32) dX12_common_34 fl_X12_192 i_164_32 rfl rfl (by decide) ?_
      refine tz_aload_n (pc := 37) dX12_common_37 rfl rfl ?_
      refine tz_iload_n (pc := 38) dX12_common_38 rfl rfl ?_
      refine tz_iload_n (pc := 39) dX12_common_39 rfl rfl ?_
      refine tz_cV (pc := 40) (m_common hl n _ _ _ (by omega) (by omega) 0 0 0 ((zup J_29 164 32 0) 164 9) m (AM.z a_29 (MZ.up (k := 32) MZ.rf (by decide)) (fun q => q)).1.1 (by omega) (by omega) (by show 0 ≤ zup J_29 164 32 0 164 32 ∧ zup J_29 164 32 0 164 32 ≤ 8; rw [zup_at]; decide)) vl_X12_201 dX12_common_40 o_164 rfl rfl (Nat.le_of_ble_eq_true rfl) ⟨(Nat.le_of_ble_eq_true rfl), (Nat.le_of_ble_eq_true rfl)⟩ rfl rfl (Nat.le_of_ble_eq_true rfl) (Nat.le_of_ble_eq_true rfl) (fun r9 J_40 hq9 => ?_)
      obtain ⟨z_40, rfl, hz_40, m_40, g_40, h_40, i_40, j_40⟩ := hq9
      have a_40 := AM.grow0 (AM.z a_29 (MZ.up (k := 32) (v := 0) MZ.rf (by decide)) (fun q => q)) g_40 (fun c hc => by simp at hc; omega) (fun k x y => by simp; omega) rfl
      have lm_40 := a_40.1.2.2
      refine tz_istore_n (pc := 43) (L2 := [_, _, _, _]) dX12_common_43 rfl (by decide) rfl ?_
      refine tz_aload_n (pc := 44) dX12_common_44 rfl rfl ?_
      refine tz_fI (pc := 45) (kz := 21) (v := (J_40 164 21)) dX12_common_45 fl_X12_92 i_164_21 rfl rfl (fun r_45 => ?_)
      refine tz_if_ne (pc := 48) (tgt := 68) dX12_common_48 (by decide) (by omega) (fun h_48 => ?_) (fun h_48 => ?_)
      · refine tz_aload_n (pc := 68) dX12_common_68 rfl rfl ?_
        refine tz_iload_n (pc := 69) dX12_common_69 rfl rfl ?_
        refine tz_cV (pc := 70) (m_keeps hl n _ _ (by omega) (a_40).2.2.2.1.1.1 (a_40).2.2.2.1.1.2) vl_X12_403 dX12_common_70 o_164 rfl rfl (Nat.le_of_ble_eq_true rfl) ⟨(Nat.le_of_ble_eq_true rfl), (Nat.le_of_ble_eq_true rfl)⟩ rfl rfl (Nat.le_of_ble_eq_true rfl) (Nat.le_of_ble_eq_true rfl) (fun r9 J_70 hq9 => ?_)
        obtain ⟨z_70, rfl, hz_70, k_70⟩ := hq9
        exact tz_iret (pc := 73) (z := z_70) dX12_common_73 rfl (Nat.le_of_ble_eq_true rfl) (Nat.le_of_ble_eq_true rfl) ⟨Nat.le_refl _, Nat.le_add_right _ _⟩ ⟨_, rfl, (by omega), AM.keep a_40 k_70⟩
      · refine tz_aload_n (pc := 51) dX12_common_51 rfl rfl ?_
        refine tz_fI (pc := 52) (kz := 33) (v := (J_40 164 33)) dX12_common_52 fl_X12_195 i_164_33 rfl rfl (fun r_52 => ?_)
        refine tz_if_eq (pc := 55) (tgt := 68) dX12_common_55 (by decide) (by omega) (fun h_55 => ?_) (fun h_55 => ?_)
        · refine tz_aload_n (pc := 68) dX12_common_68 rfl rfl ?_
          refine tz_iload_n (pc := 69) dX12_common_69 rfl rfl ?_
          refine tz_cV (pc := 70) (m_keeps hl n _ _ (by omega) (a_40).2.2.2.1.1.1 (a_40).2.2.2.1.1.2) vl_X12_403 dX12_common_70 o_164 rfl rfl (Nat.le_of_ble_eq_true rfl) ⟨(Nat.le_of_ble_eq_true rfl), (Nat.le_of_ble_eq_true rfl)⟩ rfl rfl (Nat.le_of_ble_eq_true rfl) (Nat.le_of_ble_eq_true rfl) (fun r9 J_70 hq9 => ?_)
          obtain ⟨z_70, rfl, hz_70, k_70⟩ := hq9
          exact tz_iret (pc := 73) (z := z_70) dX12_common_73 rfl (Nat.le_of_ble_eq_true rfl) (Nat.le_of_ble_eq_true rfl) ⟨Nat.le_refl _, Nat.le_add_right _ _⟩ ⟨_, rfl, (by omega), AM.keep a_40 k_70⟩
        · refine tz_aload_n (pc := 58) dX12_common_58 rfl rfl ?_
          refine tz_iconst (pc := 59) dX12_common_59 ?_
          refine tz_bipush (pc := 60) dX12_common_60 (by decide) ?_
          refine tz_cV (pc := 62) (m_fails hl n _ _ _ (by decide) (by decide) (by decide)) vl_X12_394 dX12_common_62 o_164 rfl rfl (Nat.le_of_ble_eq_true rfl) ⟨(Nat.le_of_ble_eq_true rfl), (Nat.le_of_ble_eq_true rfl)⟩ rfl rfl (Nat.le_of_ble_eq_true rfl) (Nat.le_of_ble_eq_true rfl) (fun r9 J_62 hq9 => ?_)
          obtain ⟨z_62, rfl, hz_62, e_62, f_62⟩ := hq9
          refine tz_goto (pc := 65) (tgt := 73) dX12_common_65 (by decide) ?_
          exact tz_iret (pc := 73) (z := z_62) dX12_common_73 rfl (Nat.le_of_ble_eq_true rfl) (Nat.le_of_ble_eq_true rfl) ⟨Nat.le_refl _, Nat.le_add_right _ _⟩ ⟨_, rfl, (by omega), AM.fail a_40 f_62⟩
    · refine tz_aload_n (pc := 21) dX12_common_21 rfl rfl ?_
      refine tz_iconst (pc := 22) dX12_common_22 ?_
      refine tz_iconst (pc := 23) dX12_common_23 ?_
      refine tz_cV (pc := 24) (m_refuses hl n _ _ _ (by decide) (by decide) (by decide)) vl_X12_391 dX12_common_24 o_164 rfl rfl (Nat.le_of_ble_eq_true rfl) ⟨(Nat.le_of_ble_eq_true rfl), (Nat.le_of_ble_eq_true rfl)⟩ rfl rfl (Nat.le_of_ble_eq_true rfl) (Nat.le_of_ble_eq_true rfl) (fun r9 J_24 hq9 => ?_)
      obtain ⟨z_24, rfl, hz_24, e_24, f_24⟩ := hq9
      have y_24 : MZ J_24 J := MZ.tr (MZ.up (k := 8) MZ.rf (by decide)) (MZ.c f_24 (by decide))
      exact tz_iret (pc := 27) (z := z_24) dX12_common_27 rfl (Nat.le_of_ble_eq_true rfl) (Nat.le_of_ble_eq_true rfl) ⟨Nat.le_refl _, Nat.le_add_right _ _⟩ ⟨_, rfl, (by omega), MQr.z hI y_24⟩

set_option maxHeartbeats 4000000 in
set_option maxRecDepth 100000 in
theorem q_normal {l : Launch} {G : tb_G} (hl : l.stackTraces = false) (n : Nat) (J : zJ) (x : Int) (hr_x : -2147483648 ≤ x ∧ x < 2147483648) (m : Int) (hI : MI J m)  : tz_Ok l G M_X12_normal 731 0 0 [.ref 164, zi x] n J (zqi (fun z J' => MQr J' J)) zN := by
  refine tz_Ok.of hl (by decide +kernel) rfl (tb_c1 rfl) (Nat.le_of_ble_eq_true rfl) ?_
  show tz_At l G M_X12_normal (tb_rm 731 0 0) none (tb_ZM G 0 0 (zQ n 0 (zqi (fun z J' => MQr J' J))) (zX n 0 zN)) 0 0 n J 0 [some (.ref 164), some (zi x), none] []
  have hT := hI.told
  have hW := hI.row
  have hM := hI.1
  have hL := hI.2.1
  refine tz_aload_n (pc := 0) dX12_normal_0 rfl rfl ?_
  refine tz_iconst (pc := 1) dX12_normal_1 ?_
  refine tz_pI (pc := 2) (kz := 8) dX12_normal_2 fl_X12_68 i_164_8 rfl rfl (by decide) ?_
  refine tz_aload_n (pc := 5) dX12_normal_5 rfl rfl ?_
  refine tz_iload_n (pc := 6) dX12_normal_6 rfl rfl ?_
  refine tz_cV (pc := 7) (m_isTerm hl n _ _ (by omega) (by rw [(show ((zup J 164 8 0) : zJ) 165 0 = (J 165 0) from rfl)]; omega)) vl_X12_376 dX12_normal_7 o_164 rfl rfl (Nat.le_of_ble_eq_true rfl) ⟨(Nat.le_of_ble_eq_true rfl), (Nat.le_of_ble_eq_true rfl)⟩ rfl rfl (Nat.le_of_ble_eq_true rfl) (Nat.le_of_ble_eq_true rfl) (fun r9 J_7 hq9 => ?_)
  obtain ⟨z_7, rfl, hz_7, rfl, ht_7⟩ := hq9
  rw [(show ((zup J 164 8 0) : zJ) 165 0 = (J 165 0) from rfl)] at ht_7
  refine tz_if_ne (pc := 10) (tgt := 20) dX12_normal_10 (by decide) (by omega) (fun h_10 => ?_) (fun h_10 => ?_)
  · refine tz_aload_n (pc := 20) dX12_normal_20 rfl rfl ?_
    refine tz_cV (pc := 21) (m_begins hl n _) vl_X12_400 dX12_normal_21 o_164 rfl rfl (Nat.le_of_ble_eq_true rfl) ⟨(Nat.le_of_ble_eq_true rfl), (Nat.le_of_ble_eq_true rfl)⟩ rfl rfl (Nat.le_of_ble_eq_true rfl) (Nat.le_of_ble_eq_true rfl) (fun r9 J_21 hq9 => ?_)
    obtain ⟨rfl, hj_21⟩ := hq9
    have a_21 : AM J_21 J m m := by rw [← hj_21]; exact AM.begin (hI.z (MZ.up (k := 8) MZ.rf (by decide))) ⟨MZ.lo (MZ.up (k := 8) MZ.rf (by decide)), SC.z (MZ.up (k := 8) MZ.rf (by decide))⟩
    have br_21 : ∀ k, (k < 63 ∨ 126 ≤ k) → J_21 165 k = ((zup J 164 8 0) : zJ) 165 k := fun k hk => by rw [← hj_21]; exact zbg_r hk
    have bl_21 : ∀ k, ¬ k = 34 → ¬ k = 33 → ¬ k = 21 → J_21 164 k = ((zup J 164 8 0) : zJ) 164 k := fun k u v w => by rw [← hj_21]; exact zbg_f u v w
    have bo_21 : zOf (zbut [164, 165]) J_21 (zup J 164 8 0) := by rw [← hj_21]; exact zbg_of
    have b3_21 : J_21 164 21 = 0 ∧ J_21 164 33 = 0 ∧ J_21 164 34 = 0 := by rw [← hj_21]; exact ⟨rfl, rfl, rfl⟩
    have s9_21 : J_21 164 9 = J 164 9 := (bl_21 9 (by decide) (by decide) (by decide)).trans ((MZ.up (k := 8) MZ.rf (by decide)).2 9 (by decide) (by decide))
    refine tz_aload_n (pc := 24) dX12_normal_24 rfl rfl ?_
    refine tz_iload_n (pc := 25) dX12_normal_25 rfl rfl ?_
    refine tz_cV (pc := 26) (m_normal hl n _ _ (by omega) 0 0 0 (J_21 164 9) m (AM.nz a_21 b3_21.1 (by omega)) (by omega)) vl_X12_221 dX12_normal_26 o_164 rfl rfl (Nat.le_of_ble_eq_true rfl) ⟨(Nat.le_of_ble_eq_true rfl), (Nat.le_of_ble_eq_true rfl)⟩ rfl rfl (Nat.le_of_ble_eq_true rfl) (Nat.le_of_ble_eq_true rfl) (fun r9 J_26 hq9 => ?_)
    obtain ⟨z_26, rfl, hz_26, m_26, g_26, h_26⟩ := hq9
    have a_26 := AM.norm a_21 g_26 rfl
    have lm_26 := a_26.1.2.2
    refine tz_istore_n (pc := 29) (L2 := [_, _, _]) dX12_normal_29 rfl (by decide) rfl ?_
    refine tz_aload_n (pc := 30) dX12_normal_30 rfl rfl ?_
    refine tz_fI (pc := 31) (kz := 34) (v := (J_26 164 34)) dX12_normal_31 fl_X12_208 i_164_34 rfl rfl (fun r_31 => ?_)
    refine tz_bipush (pc := 34) dX12_normal_34 (by decide) ?_
    refine tz_icmp_le (pc := 36) (tgt := 49) dX12_normal_36 (by decide) (by omega) (by decide) (fun h_36 => ?_) (fun h_36 => ?_)
    · refine tz_aload_n (pc := 49) dX12_normal_49 rfl rfl ?_
      refine tz_iload_n (pc := 50) dX12_normal_50 rfl rfl ?_
      refine tz_cV (pc := 51) (m_keeps hl n _ _ (by omega) (a_26).2.2.2.1.1.1 (a_26).2.2.2.1.1.2) vl_X12_403 dX12_normal_51 o_164 rfl rfl (Nat.le_of_ble_eq_true rfl) ⟨(Nat.le_of_ble_eq_true rfl), (Nat.le_of_ble_eq_true rfl)⟩ rfl rfl (Nat.le_of_ble_eq_true rfl) (Nat.le_of_ble_eq_true rfl) (fun r9 J_51 hq9 => ?_)
      obtain ⟨z_51, rfl, hz_51, k_51⟩ := hq9
      exact tz_iret (pc := 54) (z := z_51) dX12_normal_54 rfl (Nat.le_of_ble_eq_true rfl) (Nat.le_of_ble_eq_true rfl) ⟨Nat.le_refl _, Nat.le_add_right _ _⟩ ⟨_, rfl, (by omega), AM.keep a_26 k_51⟩
    · refine tz_aload_n (pc := 39) dX12_normal_39 rfl rfl ?_
      refine tz_iconst (pc := 40) dX12_normal_40 ?_
      refine tz_bipush (pc := 41) dX12_normal_41 (by decide) ?_
      refine tz_cV (pc := 43) (m_fails hl n _ _ _ (by decide) (by decide) (by decide)) vl_X12_394 dX12_normal_43 o_164 rfl rfl (Nat.le_of_ble_eq_true rfl) ⟨(Nat.le_of_ble_eq_true rfl), (Nat.le_of_ble_eq_true rfl)⟩ rfl rfl (Nat.le_of_ble_eq_true rfl) (Nat.le_of_ble_eq_true rfl) (fun r9 J_43 hq9 => ?_)
      obtain ⟨z_43, rfl, hz_43, e_43, f_43⟩ := hq9
      refine tz_goto (pc := 46) (tgt := 54) dX12_normal_46 (by decide) ?_
      exact tz_iret (pc := 54) (z := z_43) dX12_normal_54 rfl (Nat.le_of_ble_eq_true rfl) (Nat.le_of_ble_eq_true rfl) ⟨Nat.le_refl _, Nat.le_add_right _ _⟩ ⟨_, rfl, (by omega), AM.fail a_26 f_43⟩
  · refine tz_aload_n (pc := 13) dX12_normal_13 rfl rfl ?_
    refine tz_iconst (pc := 14) dX12_normal_14 ?_
    refine tz_iconst (pc := 15) dX12_normal_15 ?_
    refine tz_cV (pc := 16) (m_refuses hl n _ _ _ (by decide) (by decide) (by decide)) vl_X12_391 dX12_normal_16 o_164 rfl rfl (Nat.le_of_ble_eq_true rfl) ⟨(Nat.le_of_ble_eq_true rfl), (Nat.le_of_ble_eq_true rfl)⟩ rfl rfl (Nat.le_of_ble_eq_true rfl) (Nat.le_of_ble_eq_true rfl) (fun r9 J_16 hq9 => ?_)
    obtain ⟨z_16, rfl, hz_16, e_16, f_16⟩ := hq9
    have y_16 : MZ J_16 J := MZ.tr (MZ.up (k := 8) MZ.rf (by decide)) (MZ.c f_16 (by decide))
    exact tz_iret (pc := 19) (z := z_16) dX12_normal_19 rfl (Nat.le_of_ble_eq_true rfl) (Nat.le_of_ble_eq_true rfl) ⟨Nat.le_refl _, Nat.le_add_right _ _⟩ ⟨_, rfl, (by omega), MQr.z hI y_16⟩

set_option maxHeartbeats 4000000 in
set_option maxRecDepth 100000 in
theorem q_rules {l : Launch} {G : tb_G} (hl : l.stackTraces = false) (n : Nat) (J : zJ) (x : Int) (y : Int) (hr_x : -2147483648 ≤ x ∧ x < 2147483648) (hr_y : -2147483648 ≤ y ∧ y < 2147483648) (m : Int) (hI : MI J m)  : tz_Ok l G M_X12_rules 21 0 0 [.ref 164, zi x, zi y] n J (zqi (fun z J' => MQr J' J)) zN := by
  refine tz_Ok.of hl (by decide +kernel) rfl (tb_c1 rfl) (Nat.le_of_ble_eq_true rfl) ?_
  show tz_At l G M_X12_rules (tb_rm 21 0 0) none (tb_ZM G 0 0 (zQ n 0 (zqi (fun z J' => MQr J' J))) (zX n 0 zN)) 0 0 n J 0 [some (.ref 164), some (zi x), some (zi y)] []
  have hT := hI.told
  have hW := hI.row
  have hM := hI.1
  have hL := hI.2.1
  refine tz_aload_n (pc := 0) dX12_rules_0 rfl rfl ?_
  refine tz_iconst (pc := 1) dX12_rules_1 ?_
  refine tz_pI (pc := 2) (kz := 8) dX12_rules_2 fl_X12_68 i_164_8 rfl rfl (by decide) ?_
  refine tz_aload_n (pc := 5) dX12_rules_5 rfl rfl ?_
  refine tz_iload_n (pc := 6) dX12_rules_6 rfl rfl ?_
  refine tz_cV (pc := 7) (m_isTerm hl n _ _ (by omega) (by rw [(show ((zup J 164 8 0) : zJ) 165 0 = (J 165 0) from rfl)]; omega)) vl_X12_376 dX12_rules_7 o_164 rfl rfl (Nat.le_of_ble_eq_true rfl) ⟨(Nat.le_of_ble_eq_true rfl), (Nat.le_of_ble_eq_true rfl)⟩ rfl rfl (Nat.le_of_ble_eq_true rfl) (Nat.le_of_ble_eq_true rfl) (fun r9 J_7 hq9 => ?_)
  obtain ⟨z_7, rfl, hz_7, rfl, ht_7⟩ := hq9
  rw [(show ((zup J 164 8 0) : zJ) 165 0 = (J 165 0) from rfl)] at ht_7
  refine tz_if_eq (pc := 10) (tgt := 42) dX12_rules_10 (by decide) (by omega) (fun h_10 => ?_) (fun h_10 => ?_)
  · refine tz_aload_n (pc := 42) dX12_rules_42 rfl rfl ?_
    refine tz_iconst (pc := 43) dX12_rules_43 ?_
    refine tz_iconst (pc := 44) dX12_rules_44 ?_
    refine tz_cV (pc := 45) (m_refuses hl n _ _ _ (by decide) (by decide) (by decide)) vl_X12_391 dX12_rules_45 o_164 rfl rfl (Nat.le_of_ble_eq_true rfl) ⟨(Nat.le_of_ble_eq_true rfl), (Nat.le_of_ble_eq_true rfl)⟩ rfl rfl (Nat.le_of_ble_eq_true rfl) (Nat.le_of_ble_eq_true rfl) (fun r9 J_45 hq9 => ?_)
    obtain ⟨z_45, rfl, hz_45, e_45, f_45⟩ := hq9
    have y_45 : MZ J_45 J := MZ.tr (MZ.up (k := 8) MZ.rf (by decide)) (MZ.c f_45 (by decide))
    exact tz_iret (pc := 48) (z := z_45) dX12_rules_48 rfl (Nat.le_of_ble_eq_true rfl) (Nat.le_of_ble_eq_true rfl) ⟨Nat.le_refl _, Nat.le_add_right _ _⟩ ⟨_, rfl, (by omega), MQr.z hI y_45⟩
  · refine tz_aload_n (pc := 13) dX12_rules_13 rfl rfl ?_
    refine tz_iload_n (pc := 14) dX12_rules_14 rfl rfl ?_
    refine tz_cV (pc := 15) (m_isTerm hl n _ _ (by omega) (by rw [(show ((zup J 164 8 0) : zJ) 165 0 = (J 165 0) from rfl)]; omega)) vl_X12_376 dX12_rules_15 o_164 rfl rfl (Nat.le_of_ble_eq_true rfl) ⟨(Nat.le_of_ble_eq_true rfl), (Nat.le_of_ble_eq_true rfl)⟩ rfl rfl (Nat.le_of_ble_eq_true rfl) (Nat.le_of_ble_eq_true rfl) (fun r9 J_15 hq9 => ?_)
    obtain ⟨z_15, rfl, hz_15, rfl, ht_15⟩ := hq9
    rw [(show ((zup J 164 8 0) : zJ) 165 0 = (J 165 0) from rfl)] at ht_15
    refine tz_if_eq (pc := 18) (tgt := 42) dX12_rules_18 (by decide) (by omega) (fun h_18 => ?_) (fun h_18 => ?_)
    · refine tz_aload_n (pc := 42) dX12_rules_42 rfl rfl ?_
      refine tz_iconst (pc := 43) dX12_rules_43 ?_
      refine tz_iconst (pc := 44) dX12_rules_44 ?_
      refine tz_cV (pc := 45) (m_refuses hl n _ _ _ (by decide) (by decide) (by decide)) vl_X12_391 dX12_rules_45 o_164 rfl rfl (Nat.le_of_ble_eq_true rfl) ⟨(Nat.le_of_ble_eq_true rfl), (Nat.le_of_ble_eq_true rfl)⟩ rfl rfl (Nat.le_of_ble_eq_true rfl) (Nat.le_of_ble_eq_true rfl) (fun r9 J_45 hq9 => ?_)
      obtain ⟨z_45, rfl, hz_45, e_45, f_45⟩ := hq9
      have y_45 : MZ J_45 J := MZ.tr (MZ.up (k := 8) MZ.rf (by decide)) (MZ.c f_45 (by decide))
      exact tz_iret (pc := 48) (z := z_45) dX12_rules_48 rfl (Nat.le_of_ble_eq_true rfl) (Nat.le_of_ble_eq_true rfl) ⟨Nat.le_refl _, Nat.le_add_right _ _⟩ ⟨_, rfl, (by omega), MQr.z hI y_45⟩
    · refine tz_aload_n (pc := 21) dX12_rules_21 rfl rfl ?_
      refine tz_fR (pc := 22) dX12_rules_22 fl_X12_9 r_164_0 ?_
      refine tz_bipush (pc := 25) dX12_rules_25 (by decide) ?_
      refine tz_aL (pc := 27) (z := 9) (v := (J 165 9)) dX12_rules_27 a_165 rfl (by decide) rfl (fun r_27 => ?_)
      refine tz_bipush (pc := 28) dX12_rules_28 (by decide) ?_
      refine tz_icmp_eq (pc := 30) (tgt := 42) dX12_rules_30 (by decide) (by omega) (by decide) (fun h_30 => ?_) (fun h_30 => ?_)
      · refine tz_aload_n (pc := 42) dX12_rules_42 rfl rfl ?_
        refine tz_iconst (pc := 43) dX12_rules_43 ?_
        refine tz_iconst (pc := 44) dX12_rules_44 ?_
        refine tz_cV (pc := 45) (m_refuses hl n _ _ _ (by decide) (by decide) (by decide)) vl_X12_391 dX12_rules_45 o_164 rfl rfl (Nat.le_of_ble_eq_true rfl) ⟨(Nat.le_of_ble_eq_true rfl), (Nat.le_of_ble_eq_true rfl)⟩ rfl rfl (Nat.le_of_ble_eq_true rfl) (Nat.le_of_ble_eq_true rfl) (fun r9 J_45 hq9 => ?_)
        obtain ⟨z_45, rfl, hz_45, e_45, f_45⟩ := hq9
        have y_45 : MZ J_45 J := MZ.tr (MZ.up (k := 8) MZ.rf (by decide)) (MZ.c f_45 (by decide))
        exact tz_iret (pc := 48) (z := z_45) dX12_rules_48 rfl (Nat.le_of_ble_eq_true rfl) (Nat.le_of_ble_eq_true rfl) ⟨Nat.le_refl _, Nat.le_add_right _ _⟩ ⟨_, rfl, (by omega), MQr.z hI y_45⟩
      · refine tz_aload_n (pc := 33) dX12_rules_33 rfl rfl ?_
        refine tz_iload_n (pc := 34) dX12_rules_34 rfl rfl ?_
        refine tz_iload_n (pc := 35) dX12_rules_35 rfl rfl ?_
        refine tz_cV (pc := 36) (m_isRule hl n _ _ _ (by omega) (by omega) 0 0 0 (J 164 9) m (hM.z (MZ.up (k := 8) MZ.rf (by decide))) (by omega) (by omega) ) vl_X12_301 dX12_rules_36 o_164 rfl rfl (Nat.le_of_ble_eq_true rfl) ⟨(Nat.le_of_ble_eq_true rfl), (Nat.le_of_ble_eq_true rfl)⟩ rfl rfl (Nat.le_of_ble_eq_true rfl) (Nat.le_of_ble_eq_true rfl) (fun r9 J_36 hq9 => ?_)
        obtain ⟨z_36, rfl, hz_36, rfl, hh_36⟩ := hq9
        refine tz_if_ne (pc := 39) (tgt := 49) dX12_rules_39 (by decide) (by omega) (fun h_39 => ?_) (fun h_39 => ?_)
        · refine tz_aload_n (pc := 49) dX12_rules_49 rfl rfl ?_
          refine tz_cV (pc := 50) (m_begins hl n _) vl_X12_400 dX12_rules_50 o_164 rfl rfl (Nat.le_of_ble_eq_true rfl) ⟨(Nat.le_of_ble_eq_true rfl), (Nat.le_of_ble_eq_true rfl)⟩ rfl rfl (Nat.le_of_ble_eq_true rfl) (Nat.le_of_ble_eq_true rfl) (fun r9 J_50 hq9 => ?_)
          obtain ⟨rfl, hj_50⟩ := hq9
          have a_50 : AM J_50 J m m := by rw [← hj_50]; exact AM.begin (hI.z (MZ.up (k := 8) MZ.rf (by decide))) ⟨MZ.lo (MZ.up (k := 8) MZ.rf (by decide)), SC.z (MZ.up (k := 8) MZ.rf (by decide))⟩
          have br_50 : ∀ k, (k < 63 ∨ 126 ≤ k) → J_50 165 k = ((zup J 164 8 0) : zJ) 165 k := fun k hk => by rw [← hj_50]; exact zbg_r hk
          have bl_50 : ∀ k, ¬ k = 34 → ¬ k = 33 → ¬ k = 21 → J_50 164 k = ((zup J 164 8 0) : zJ) 164 k := fun k u v w => by rw [← hj_50]; exact zbg_f u v w
          have bo_50 : zOf (zbut [164, 165]) J_50 (zup J 164 8 0) := by rw [← hj_50]; exact zbg_of
          have b3_50 : J_50 164 21 = 0 ∧ J_50 164 33 = 0 ∧ J_50 164 34 = 0 := by rw [← hj_50]; exact ⟨rfl, rfl, rfl⟩
          have s9_50 : J_50 164 9 = J 164 9 := (bl_50 9 (by decide) (by decide) (by decide)).trans ((MZ.up (k := 8) MZ.rf (by decide)).2 9 (by decide) (by decide))
          refine tz_aload_n (pc := 53) dX12_rules_53 rfl rfl ?_
          refine tz_iload_n (pc := 54) dX12_rules_54 rfl rfl ?_
          refine tz_iload_n (pc := 55) dX12_rules_55 rfl rfl ?_
          have z9_56 : J_50 165 (0 + 9) = J 165 9 := by rw [Int.zero_add, br_50 9 (by decide)]; rfl
          refine tz_cV (pc := 56) (m_rules1 hl n _ _ _ (by omega) (by omega) 0 ((bl_50 16 (by decide) (by decide) (by decide)).trans hT.2.2.2.1.2.1) (by decide) (by rw [z9_56]; omega)) vl_X12_304 dX12_rules_56 o_164 rfl rfl (Nat.le_of_ble_eq_true rfl) ⟨(Nat.le_of_ble_eq_true rfl), (Nat.le_of_ble_eq_true rfl)⟩ rfl rfl (Nat.le_of_ble_eq_true rfl) (Nat.le_of_ble_eq_true rfl) (fun r9 J_56 hq9 => ?_)
          obtain ⟨rfl, hr_56⟩ := hq9
          have a_56 : AM (zup J_56 165 40 0) J m m := by rw [← hr_56]; exact AM.rule a_50 b3_50.1 (by rw [br_50 9 (by decide)]; show J 165 9 < 8; omega) (by omega) (by omega)
          refine tz_aload_n (pc := 59) dX12_rules_59 rfl rfl ?_
          refine tz_fR (pc := 60) dX12_rules_60 fl_X12_9 r_164_0 ?_
          refine tz_bipush (pc := 63) dX12_rules_63 (by decide) ?_
          refine tz_iconst (pc := 65) dX12_rules_65 ?_
          refine tz_aS (pc := 66) (z := 40) dX12_rules_66 a_165 rfl (by decide) (by decide) ?_
          refine tz_aload_n (pc := 67) dX12_rules_67 rfl rfl ?_
          refine tz_aload_n (pc := 68) dX12_rules_68 rfl rfl ?_
          refine tz_fR (pc := 69) dX12_rules_69 fl_X12_9 r_164_0 ?_
          refine tz_bipush (pc := 72) dX12_rules_72 (by decide) ?_
          refine tz_aL (pc := 74) (z := 9) (v := (J_56 165 9)) dX12_rules_74 a_165 rfl (by decide) rfl (fun r_74 => ?_)
          refine tz_cV (pc := 75) (m_keeps hl n _ _ (by omega) (a_56).2.2.2.1.1.1 (a_56).2.2.2.1.1.2) vl_X12_403 dX12_rules_75 o_164 rfl rfl (Nat.le_of_ble_eq_true rfl) ⟨(Nat.le_of_ble_eq_true rfl), (Nat.le_of_ble_eq_true rfl)⟩ rfl rfl (Nat.le_of_ble_eq_true rfl) (Nat.le_of_ble_eq_true rfl) (fun r9 J_75 hq9 => ?_)
          obtain ⟨z_75, rfl, hz_75, k_75⟩ := hq9
          exact tz_iret (pc := 78) (z := z_75) dX12_rules_78 rfl (Nat.le_of_ble_eq_true rfl) (Nat.le_of_ble_eq_true rfl) ⟨Nat.le_refl _, Nat.le_add_right _ _⟩ ⟨_, rfl, (by omega), AM.keep a_56 k_75⟩
        · refine tz_aload_n (pc := 42) dX12_rules_42 rfl rfl ?_
          refine tz_iconst (pc := 43) dX12_rules_43 ?_
          refine tz_iconst (pc := 44) dX12_rules_44 ?_
          refine tz_cV (pc := 45) (m_refuses hl n _ _ _ (by decide) (by decide) (by decide)) vl_X12_391 dX12_rules_45 o_164 rfl rfl (Nat.le_of_ble_eq_true rfl) ⟨(Nat.le_of_ble_eq_true rfl), (Nat.le_of_ble_eq_true rfl)⟩ rfl rfl (Nat.le_of_ble_eq_true rfl) (Nat.le_of_ble_eq_true rfl) (fun r9 J_45 hq9 => ?_)
          obtain ⟨z_45, rfl, hz_45, e_45, f_45⟩ := hq9
          have y_45 : MZ J_45 J := MZ.tr (MZ.up (k := 8) MZ.rf (by decide)) (MZ.c f_45 (by decide))
          exact tz_iret (pc := 48) (z := z_45) dX12_rules_48 rfl (Nat.le_of_ble_eq_true rfl) (Nat.le_of_ble_eq_true rfl) ⟨Nat.le_refl _, Nat.le_add_right _ _⟩ ⟨_, rfl, (by omega), MQr.z hI y_45⟩

set_option maxHeartbeats 4000000 in
set_option maxRecDepth 100000 in
theorem q_enter {l : Launch} {G : tb_G} (hl : l.stackTraces = false) (n : Nat) (J : zJ) (x : Int) (hr_x : -2147483648 ≤ x ∧ x < 2147483648) (m : Int) (hI : MI J m)  : tz_Ok l G M_X12_enter 3 0 0 [.ref 164, zi x] n J (zqi (fun z J' => MQr J' J)) zN := by
  refine tz_Ok.of hl (by decide +kernel) rfl (tb_c1 rfl) (Nat.le_of_ble_eq_true rfl) ?_
  show tz_At l G M_X12_enter (tb_rm 3 0 0) none (tb_ZM G 0 0 (zQ n 0 (zqi (fun z J' => MQr J' J))) (zX n 0 zN)) 0 0 n J 0 [some (.ref 164), some (zi x)] []
  have hT := hI.told
  have hW := hI.row
  have hM := hI.1
  have hL := hI.2.1
  refine tz_aload_n (pc := 0) dX12_enter_0 rfl rfl ?_
  refine tz_iconst (pc := 1) dX12_enter_1 ?_
  refine tz_pI (pc := 2) (kz := 8) dX12_enter_2 fl_X12_68 i_164_8 rfl rfl (by decide) ?_
  refine tz_aload_n (pc := 5) dX12_enter_5 rfl rfl ?_
  refine tz_iload_n (pc := 6) dX12_enter_6 rfl rfl ?_
  refine tz_cV (pc := 7) (m_isTerm hl n _ _ (by omega) (by rw [(show ((zup J 164 8 0) : zJ) 165 0 = (J 165 0) from rfl)]; omega)) vl_X12_376 dX12_enter_7 o_164 rfl rfl (Nat.le_of_ble_eq_true rfl) ⟨(Nat.le_of_ble_eq_true rfl), (Nat.le_of_ble_eq_true rfl)⟩ rfl rfl (Nat.le_of_ble_eq_true rfl) (Nat.le_of_ble_eq_true rfl) (fun r9 J_7 hq9 => ?_)
  obtain ⟨z_7, rfl, hz_7, rfl, ht_7⟩ := hq9
  rw [(show ((zup J 164 8 0) : zJ) 165 0 = (J 165 0) from rfl)] at ht_7
  refine tz_if_eq (pc := 10) (tgt := 34) dX12_enter_10 (by decide) (by omega) (fun h_10 => ?_) (fun h_10 => ?_)
  · refine tz_aload_n (pc := 34) dX12_enter_34 rfl rfl ?_
    refine tz_iconst (pc := 35) dX12_enter_35 ?_
    refine tz_iconst (pc := 36) dX12_enter_36 ?_
    refine tz_cV (pc := 37) (m_refuses hl n _ _ _ (by decide) (by decide) (by decide)) vl_X12_391 dX12_enter_37 o_164 rfl rfl (Nat.le_of_ble_eq_true rfl) ⟨(Nat.le_of_ble_eq_true rfl), (Nat.le_of_ble_eq_true rfl)⟩ rfl rfl (Nat.le_of_ble_eq_true rfl) (Nat.le_of_ble_eq_true rfl) (fun r9 J_37 hq9 => ?_)
    obtain ⟨z_37, rfl, hz_37, e_37, f_37⟩ := hq9
    have y_37 : MZ J_37 J := MZ.tr (MZ.up (k := 8) MZ.rf (by decide)) (MZ.c f_37 (by decide))
    exact tz_iret (pc := 40) (z := z_37) dX12_enter_40 rfl (Nat.le_of_ble_eq_true rfl) (Nat.le_of_ble_eq_true rfl) ⟨Nat.le_refl _, Nat.le_add_right _ _⟩ ⟨_, rfl, (by omega), MQr.z hI y_37⟩
  · refine tz_aload_n (pc := 13) dX12_enter_13 rfl rfl ?_
    refine tz_fR (pc := 14) dX12_enter_14 fl_X12_9 r_164_0 ?_
    refine tz_bipush (pc := 17) dX12_enter_17 (by decide) ?_
    refine tz_aL (pc := 19) (z := 26) (v := (J 165 26)) dX12_enter_19 a_165 rfl (by decide) rfl (fun r_19 => ?_)
    refine tz_bipush (pc := 20) dX12_enter_20 (by decide) ?_
    refine tz_icmp_eq (pc := 22) (tgt := 34) dX12_enter_22 (by decide) (by omega) (by decide) (fun h_22 => ?_) (fun h_22 => ?_)
    · refine tz_aload_n (pc := 34) dX12_enter_34 rfl rfl ?_
      refine tz_iconst (pc := 35) dX12_enter_35 ?_
      refine tz_iconst (pc := 36) dX12_enter_36 ?_
      refine tz_cV (pc := 37) (m_refuses hl n _ _ _ (by decide) (by decide) (by decide)) vl_X12_391 dX12_enter_37 o_164 rfl rfl (Nat.le_of_ble_eq_true rfl) ⟨(Nat.le_of_ble_eq_true rfl), (Nat.le_of_ble_eq_true rfl)⟩ rfl rfl (Nat.le_of_ble_eq_true rfl) (Nat.le_of_ble_eq_true rfl) (fun r9 J_37 hq9 => ?_)
      obtain ⟨z_37, rfl, hz_37, e_37, f_37⟩ := hq9
      have y_37 : MZ J_37 J := MZ.tr (MZ.up (k := 8) MZ.rf (by decide)) (MZ.c f_37 (by decide))
      exact tz_iret (pc := 40) (z := z_37) dX12_enter_40 rfl (Nat.le_of_ble_eq_true rfl) (Nat.le_of_ble_eq_true rfl) ⟨Nat.le_refl _, Nat.le_add_right _ _⟩ ⟨_, rfl, (by omega), MQr.z hI y_37⟩
    · refine tz_aload_n (pc := 25) dX12_enter_25 rfl rfl ?_
      refine tz_iload_n (pc := 26) dX12_enter_26 rfl rfl ?_
      have h16_27 : ((zup J 164 8 0) : zJ) 164 16 = 0 := (show ((zup J 164 8 0) : zJ) 164 16 = (J 164 16) from rfl).trans hT.2.2.2.1.2.1
      have h26_27 : ((zup J 164 8 0) : zJ) 165 (0 + 26) = J 165 26 := by rw [Int.zero_add]; exact (show ((zup J 164 8 0) : zJ) 165 26 = (J 165 26) from rfl)
      refine tz_cV (pc := 27) (m_entryOf hl n _ _ (by omega) (by rw [h16_27]; decide) (by rw [h16_27, h26_27]; omega)) vl_X12_307 dX12_enter_27 o_164 rfl rfl (Nat.le_of_ble_eq_true rfl) ⟨(Nat.le_of_ble_eq_true rfl), (Nat.le_of_ble_eq_true rfl)⟩ rfl rfl (Nat.le_of_ble_eq_true rfl) (Nat.le_of_ble_eq_true rfl) (fun r9 J_27 hq9 => ?_)
      obtain ⟨z_27, rfl, hz_27, rfl, he_27⟩ := hq9
      rw [h16_27, h26_27] at he_27
      refine tz_iconst (pc := 30) dX12_enter_30 ?_
      refine tz_icmp_eq (pc := 31) (tgt := 41) dX12_enter_31 (by decide) (by omega) (by decide) (fun h_31 => ?_) (fun h_31 => ?_)
      · refine tz_aload_n (pc := 41) dX12_enter_41 rfl rfl ?_
        refine tz_cV (pc := 42) (m_begins hl n _) vl_X12_400 dX12_enter_42 o_164 rfl rfl (Nat.le_of_ble_eq_true rfl) ⟨(Nat.le_of_ble_eq_true rfl), (Nat.le_of_ble_eq_true rfl)⟩ rfl rfl (Nat.le_of_ble_eq_true rfl) (Nat.le_of_ble_eq_true rfl) (fun r9 J_42 hq9 => ?_)
        obtain ⟨rfl, hj_42⟩ := hq9
        have a_42 : AM J_42 J m m := by rw [← hj_42]; exact AM.begin (hI.z (MZ.up (k := 8) MZ.rf (by decide))) ⟨MZ.lo (MZ.up (k := 8) MZ.rf (by decide)), SC.z (MZ.up (k := 8) MZ.rf (by decide))⟩
        have br_42 : ∀ k, (k < 63 ∨ 126 ≤ k) → J_42 165 k = ((zup J 164 8 0) : zJ) 165 k := fun k hk => by rw [← hj_42]; exact zbg_r hk
        have bl_42 : ∀ k, ¬ k = 34 → ¬ k = 33 → ¬ k = 21 → J_42 164 k = ((zup J 164 8 0) : zJ) 164 k := fun k u v w => by rw [← hj_42]; exact zbg_f u v w
        have bo_42 : zOf (zbut [164, 165]) J_42 (zup J 164 8 0) := by rw [← hj_42]; exact zbg_of
        have b3_42 : J_42 164 21 = 0 ∧ J_42 164 33 = 0 ∧ J_42 164 34 = 0 := by rw [← hj_42]; exact ⟨rfl, rfl, rfl⟩
        have s9_42 : J_42 164 9 = J 164 9 := (bl_42 9 (by decide) (by decide) (by decide)).trans ((MZ.up (k := 8) MZ.rf (by decide)).2 9 (by decide) (by decide))
        refine tz_aload_n (pc := 45) dX12_enter_45 rfl rfl ?_
        refine tz_iload_n (pc := 46) dX12_enter_46 rfl rfl ?_
        have z9_47 : J_42 165 (0 + 26) = J 165 26 := by rw [Int.zero_add, br_42 26 (by decide)]; rfl
        refine tz_cV (pc := 47) (m_enters1 hl n _ _ (by omega) 0 ((bl_42 16 (by decide) (by decide) (by decide)).trans hT.2.2.2.1.2.1) (by decide) (by rw [z9_47]; omega)) vl_X12_310 dX12_enter_47 o_164 rfl rfl (Nat.le_of_ble_eq_true rfl) ⟨(Nat.le_of_ble_eq_true rfl), (Nat.le_of_ble_eq_true rfl)⟩ rfl rfl (Nat.le_of_ble_eq_true rfl) (Nat.le_of_ble_eq_true rfl) (fun r9 J_47 hq9 => ?_)
        obtain ⟨rfl, hr_47⟩ := hq9
        have a_47 : AM J_47 J m m := by rw [← hr_47]; exact AM.enter a_42 b3_42.1 (by rw [br_42 26 (by decide)]; show J 165 26 < 12; omega) (by omega)
        refine tz_aload_n (pc := 50) dX12_enter_50 rfl rfl ?_
        refine tz_aload_n (pc := 51) dX12_enter_51 rfl rfl ?_
        refine tz_fR (pc := 52) dX12_enter_52 fl_X12_9 r_164_0 ?_
        refine tz_bipush (pc := 55) dX12_enter_55 (by decide) ?_
        refine tz_aL (pc := 57) (z := 26) (v := (J_47 165 26)) dX12_enter_57 a_165 rfl (by decide) rfl (fun r_57 => ?_)
        refine tz_cV (pc := 58) (m_keeps hl n _ _ (by omega) (a_47).2.2.2.1.1.1 (a_47).2.2.2.1.1.2) vl_X12_403 dX12_enter_58 o_164 rfl rfl (Nat.le_of_ble_eq_true rfl) ⟨(Nat.le_of_ble_eq_true rfl), (Nat.le_of_ble_eq_true rfl)⟩ rfl rfl (Nat.le_of_ble_eq_true rfl) (Nat.le_of_ble_eq_true rfl) (fun r9 J_58 hq9 => ?_)
        obtain ⟨z_58, rfl, hz_58, k_58⟩ := hq9
        exact tz_iret (pc := 61) (z := z_58) dX12_enter_61 rfl (Nat.le_of_ble_eq_true rfl) (Nat.le_of_ble_eq_true rfl) ⟨Nat.le_refl _, Nat.le_add_right _ _⟩ ⟨_, rfl, (by omega), AM.keep a_47 k_58⟩
      · refine tz_aload_n (pc := 34) dX12_enter_34 rfl rfl ?_
        refine tz_iconst (pc := 35) dX12_enter_35 ?_
        refine tz_iconst (pc := 36) dX12_enter_36 ?_
        refine tz_cV (pc := 37) (m_refuses hl n _ _ _ (by decide) (by decide) (by decide)) vl_X12_391 dX12_enter_37 o_164 rfl rfl (Nat.le_of_ble_eq_true rfl) ⟨(Nat.le_of_ble_eq_true rfl), (Nat.le_of_ble_eq_true rfl)⟩ rfl rfl (Nat.le_of_ble_eq_true rfl) (Nat.le_of_ble_eq_true rfl) (fun r9 J_37 hq9 => ?_)
        obtain ⟨z_37, rfl, hz_37, e_37, f_37⟩ := hq9
        have y_37 : MZ J_37 J := MZ.tr (MZ.up (k := 8) MZ.rf (by decide)) (MZ.c f_37 (by decide))
        exact tz_iret (pc := 40) (z := z_37) dX12_enter_40 rfl (Nat.le_of_ble_eq_true rfl) (Nat.le_of_ble_eq_true rfl) ⟨Nat.le_refl _, Nat.le_add_right _ _⟩ ⟨_, rfl, (by omega), MQr.z hI y_37⟩

set_option maxHeartbeats 4000000 in
set_option maxRecDepth 100000 in
theorem q_draw {l : Launch} {G : tb_G} (hl : l.stackTraces = false) (n : Nat) (J : zJ) (x : Int) (y : Int) (hr_x : -2147483648 ≤ x ∧ x < 2147483648) (hr_y : -2147483648 ≤ y ∧ y < 2147483648) (m : Int) (hI : MI J m)  : tz_Ok l G M_X12_draw 12 0 0 [.ref 164, zi x, zi y] n J (zqi (fun z J' => MQr J' J)) zN := by
  refine tz_Ok.of hl (by decide +kernel) rfl (tb_c1 rfl) (Nat.le_of_ble_eq_true rfl) ?_
  show tz_At l G M_X12_draw (tb_rm 12 0 0) none (tb_ZM G 0 0 (zQ n 0 (zqi (fun z J' => MQr J' J))) (zX n 0 zN)) 0 0 n J 0 [some (.ref 164), some (zi x), some (zi y)] []
  have hT := hI.told
  have hW := hI.row
  have hM := hI.1
  have hL := hI.2.1
  refine tz_aload_n (pc := 0) dX12_draw_0 rfl rfl ?_
  refine tz_iconst (pc := 1) dX12_draw_1 ?_
  refine tz_pI (pc := 2) (kz := 8) dX12_draw_2 fl_X12_68 i_164_8 rfl rfl (by decide) ?_
  refine tz_iload_n (pc := 5) dX12_draw_5 rfl rfl ?_
  refine tz_iconst (pc := 6) dX12_draw_6 ?_
  refine tz_iconst (pc := 7) dX12_draw_7 ?_
  refine tz_cS (pc := 8) (m_within hl n _ _ _ _ (by omega) (by decide) (by decide)) sl_X12_283 dX12_draw_8 rfl rfl (Nat.le_of_ble_eq_true rfl) ⟨(Nat.le_of_ble_eq_true rfl), (Nat.le_of_ble_eq_true rfl)⟩ rfl rfl (Nat.le_of_ble_eq_true rfl) (Nat.le_of_ble_eq_true rfl) (fun r9 J_8 hq9 => ?_)
  obtain ⟨z_8, rfl, hz_8, rfl, hw_8⟩ := hq9
  refine tz_if_ne (pc := 11) (tgt := 21) dX12_draw_11 (by decide) (by omega) (fun h_11 => ?_) (fun h_11 => ?_)
  · refine tz_aload_n (pc := 21) dX12_draw_21 rfl rfl ?_
    refine tz_cV (pc := 22) (m_begins hl n _) vl_X12_400 dX12_draw_22 o_164 rfl rfl (Nat.le_of_ble_eq_true rfl) ⟨(Nat.le_of_ble_eq_true rfl), (Nat.le_of_ble_eq_true rfl)⟩ rfl rfl (Nat.le_of_ble_eq_true rfl) (Nat.le_of_ble_eq_true rfl) (fun r9 J_22 hq9 => ?_)
    obtain ⟨rfl, hj_22⟩ := hq9
    have a_22 : AM J_22 J m m := by rw [← hj_22]; exact AM.begin (hI.z (MZ.up (k := 8) MZ.rf (by decide))) ⟨MZ.lo (MZ.up (k := 8) MZ.rf (by decide)), SC.z (MZ.up (k := 8) MZ.rf (by decide))⟩
    have br_22 : ∀ k, (k < 63 ∨ 126 ≤ k) → J_22 165 k = ((zup J 164 8 0) : zJ) 165 k := fun k hk => by rw [← hj_22]; exact zbg_r hk
    have bl_22 : ∀ k, ¬ k = 34 → ¬ k = 33 → ¬ k = 21 → J_22 164 k = ((zup J 164 8 0) : zJ) 164 k := fun k u v w => by rw [← hj_22]; exact zbg_f u v w
    have bo_22 : zOf (zbut [164, 165]) J_22 (zup J 164 8 0) := by rw [← hj_22]; exact zbg_of
    have b3_22 : J_22 164 21 = 0 ∧ J_22 164 33 = 0 ∧ J_22 164 34 = 0 := by rw [← hj_22]; exact ⟨rfl, rfl, rfl⟩
    have s9_22 : J_22 164 9 = J 164 9 := (bl_22 9 (by decide) (by decide) (by decide)).trans ((MZ.up (k := 8) MZ.rf (by decide)).2 9 (by decide) (by decide))
    refine tz_aload_n (pc := 25) dX12_draw_25 rfl rfl ?_
    refine tz_iload_n (pc := 26) dX12_draw_26 rfl rfl ?_
    refine tz_pI (pc := 27) (kz := 46) dX12_draw_27 fl_X12_423 i_164_46 rfl rfl (by omega) ?_
    refine tz_aload_n (pc := 30) dX12_draw_30 rfl rfl ?_
    refine tz_aload_n (pc := 31) dX12_draw_31 rfl rfl ?_
    refine tz_iload_n (pc := 32) dX12_draw_32 rfl rfl ?_
    refine tz_cV (pc := 33) (m_drawn hl n _ _ (by omega) ((zup J_22 164 46 x) 164 9) m (AM.z a_22 (MZ.up (k := 46) MZ.rf (by decide)) (fun q => q)).1.1 rfl (by omega)) vl_X12_430 dX12_draw_33 o_164 rfl rfl (Nat.le_of_ble_eq_true rfl) ⟨(Nat.le_of_ble_eq_true rfl), (Nat.le_of_ble_eq_true rfl)⟩ rfl rfl (Nat.le_of_ble_eq_true rfl) (Nat.le_of_ble_eq_true rfl) (fun r9 J_33 hq9 => ?_)
    obtain ⟨z_33, rfl, hz_33, m_33, g_33, h_33⟩ := hq9
    have a_33 := AM.grow0 (AM.z a_22 (MZ.up (k := 46) (v := x) MZ.rf (by decide)) (fun q => q)) g_33 (fun c hc => by simp at hc) (fun k x y => by simp; omega) rfl
    have lm_33 := a_33.1.2.2
    refine tz_cV (pc := 36) (m_keeps hl n _ _ (by omega) (a_33).2.2.2.1.1.1 (a_33).2.2.2.1.1.2) vl_X12_403 dX12_draw_36 o_164 rfl rfl (Nat.le_of_ble_eq_true rfl) ⟨(Nat.le_of_ble_eq_true rfl), (Nat.le_of_ble_eq_true rfl)⟩ rfl rfl (Nat.le_of_ble_eq_true rfl) (Nat.le_of_ble_eq_true rfl) (fun r9 J_36 hq9 => ?_)
    obtain ⟨z_36, rfl, hz_36, k_36⟩ := hq9
    exact tz_iret (pc := 39) (z := z_36) dX12_draw_39 rfl (Nat.le_of_ble_eq_true rfl) (Nat.le_of_ble_eq_true rfl) ⟨Nat.le_refl _, Nat.le_add_right _ _⟩ ⟨_, rfl, (by omega), AM.keep a_33 k_36⟩
  · refine tz_aload_n (pc := 14) dX12_draw_14 rfl rfl ?_
    refine tz_iconst (pc := 15) dX12_draw_15 ?_
    refine tz_iconst (pc := 16) dX12_draw_16 ?_
    refine tz_cV (pc := 17) (m_refuses hl n _ _ _ (by decide) (by decide) (by decide)) vl_X12_391 dX12_draw_17 o_164 rfl rfl (Nat.le_of_ble_eq_true rfl) ⟨(Nat.le_of_ble_eq_true rfl), (Nat.le_of_ble_eq_true rfl)⟩ rfl rfl (Nat.le_of_ble_eq_true rfl) (Nat.le_of_ble_eq_true rfl) (fun r9 J_17 hq9 => ?_)
    obtain ⟨z_17, rfl, hz_17, e_17, f_17⟩ := hq9
    have y_17 : MZ J_17 J := MZ.tr (MZ.up (k := 8) MZ.rf (by decide)) (MZ.c f_17 (by decide))
    exact tz_iret (pc := 20) (z := z_17) dX12_draw_20 rfl (Nat.le_of_ble_eq_true rfl) (Nat.le_of_ble_eq_true rfl) ⟨Nat.le_refl _, Nat.le_add_right _ _⟩ ⟨_, rfl, (by omega), MQr.z hI y_17⟩

