set_option maxHeartbeats 4000000 in
set_option maxRecDepth 100000 in
theorem m_placeN {l : Launch} {G : tb_G} (hl : l.stackTraces = false) (n : Nat) (J : zJ) (t : Int) (p : Int) (hr_t : -2147483648 ≤ t ∧ t < 2147483648) (hr_p : -2147483648 ≤ p ∧ p < 2147483648)  (hp : p < 0) : tz_Ok l G M_X12_placeOf 19 0 0 [.ref 164, zi t, zi p] n J (zqi (fun z J' => J = J' ∧ (z = -1 ∨ 0 ≤ p))) zN := by
  refine tz_Ok.of hl (by decide +kernel) rfl (tb_c1 rfl) (Nat.le_of_ble_eq_true rfl) ?_
  show tz_At l G M_X12_placeOf (tb_rm 19 0 0) none (tb_ZM G 0 0 (zQ n 0 (zqi (fun z J' => J = J' ∧ (z = -1 ∨ 0 ≤ p)))) (zX n 0 zN)) 0 0 n J 0 [some (.ref 164), some (zi t), some (zi p), none, none, none] []
  refine tz_iload_n (pc := 0) dX12_placeOf_0 rfl rfl ?_
  refine tz_if_geF (pc := 1) (tgt := 6) (by omega) dX12_placeOf_1 (by decide) (by omega) ?_
  refine tz_iconst (pc := 4) dX12_placeOf_4 ?_
  exact tz_iret (pc := 5) (z := (-1)) dX12_placeOf_5 rfl (Nat.le_of_ble_eq_true rfl) (Nat.le_of_ble_eq_true rfl) ⟨Nat.le_refl _, Nat.le_add_right _ _⟩ ⟨_, rfl, (by decide), ⟨rfl, Or.inl rfl⟩⟩

theorem m_place0 {l : Launch} {G : tb_G} (hl : l.stackTraces = false) (n : Nat) (J : zJ) (t p : Int) (hr_t : -2147483648 ≤ t ∧ t < 2147483648) (hr_p : -2147483648 ≤ p ∧ p < 2147483648) (b r d s m : Int) (hM : MS J b r d s m) (ht : 0 ≤ t ∧ t < m) : tz_Ok l G M_X12_placeOf 19 0 0 [.ref 164, zi t, zi p] n J (zqi (fun z J' => J = J' ∧ (z = -1 ∨ 0 ≤ p))) zN := by
  by_cases hp : 0 ≤ p
  · exact (m_place hl n J t p hr_t hr_p b r d s m hM ht).mono (fun r J' _ ⟨z, h1, h2, h3, _⟩ => ⟨z, h1, h2, h3, Or.inr hp⟩) (fun _ _ _ h => h)
  · exact m_placeN hl n J t p hr_t hr_p (by omega)
set_option maxHeartbeats 4000000 in
set_option maxRecDepth 100000 in
theorem q_put {l : Launch} {G : tb_G} (hl : l.stackTraces = false) (n : Nat) (J : zJ) (x : Int) (y : Int) (v : Int) (hr_x : -2147483648 ≤ x ∧ x < 2147483648) (hr_y : -2147483648 ≤ y ∧ y < 2147483648) (hr_v : -2147483648 ≤ v ∧ v < 2147483648) (m : Int) (hI : MI J m) (hn0 : 184 ≤ n) (hns : n + 7 < tb_sc) : tz_Ok l G M_X12_put 22 7 21 [.ref 164, zi x, zi y, zi v] n J (zqi (fun z J' => MQr J' J)) zN := by
  refine tz_Ok.of hl (by decide +kernel) rfl (tb_c1 rfl) (Nat.le_of_ble_eq_true rfl) ?_
  show tz_At l G M_X12_put (tb_rm 22 7 21) none (tb_ZM G 7 21 (zQ n 7 (zqi (fun z J' => MQr J' J))) (zX n 7 zN)) 0 0 n J 0 [some (.ref 164), some (zi x), some (zi y), some (zi v)] []
  have hT := hI.told
  have hW := hI.row
  have hM := hI.1
  have hL := hI.2.1
  refine tz_aload_n (pc := 0) dX12_put_0 rfl rfl ?_
  refine tz_iconst (pc := 1) dX12_put_1 ?_
  refine tz_pI (pc := 2) (kz := 8) dX12_put_2 fl_X12_68 i_164_8 rfl rfl (by decide) ?_
  refine tz_aload_n (pc := 5) dX12_put_5 rfl rfl ?_
  refine tz_iload_n (pc := 6) dX12_put_6 rfl rfl ?_
  refine tz_cV (pc := 7) (m_isTerm hl n _ _ (by omega) (by rw [(show ((zup J 164 8 0) : zJ) 165 0 = (J 165 0) from rfl)]; omega)) vl_X12_376 dX12_put_7 o_164 rfl rfl (Nat.le_of_ble_eq_true rfl) ⟨(Nat.le_of_ble_eq_true rfl), (Nat.le_of_ble_eq_true rfl)⟩ rfl rfl (Nat.le_of_ble_eq_true rfl) (Nat.le_of_ble_eq_true rfl) (fun r9 J_7 hq9 => ?_)
  obtain ⟨z_7, rfl, hz_7, rfl, ht_7⟩ := hq9
  rw [(show ((zup J 164 8 0) : zJ) 165 0 = (J 165 0) from rfl)] at ht_7
  refine tz_if_eq (pc := 10) (tgt := 31) dX12_put_10 (by decide) (by omega) (fun h_10 => ?_) (fun h_10 => ?_)
  · refine tz_aload_n (pc := 31) dX12_put_31 rfl rfl ?_
    refine tz_iconst (pc := 32) dX12_put_32 ?_
    refine tz_iconst (pc := 33) dX12_put_33 ?_
    refine tz_cV (pc := 34) (m_refuses hl n _ _ _ (by decide) (by decide) (by decide)) vl_X12_391 dX12_put_34 o_164 rfl rfl (Nat.le_of_ble_eq_true rfl) ⟨(Nat.le_of_ble_eq_true rfl), (Nat.le_of_ble_eq_true rfl)⟩ rfl rfl (Nat.le_of_ble_eq_true rfl) (Nat.le_of_ble_eq_true rfl) (fun r9 J_34 hq9 => ?_)
    obtain ⟨z_34, rfl, hz_34, e_34, f_34⟩ := hq9
    have y_34 : MZ J_34 J := MZ.tr (MZ.up (k := 8) MZ.rf (by decide)) (MZ.c f_34 (by decide))
    exact tz_iret (pc := 37) (z := z_34) dX12_put_37 rfl (Nat.le_of_ble_eq_true rfl) (Nat.le_of_ble_eq_true rfl) ⟨Nat.le_refl _, Nat.le_add_right _ _⟩ ⟨_, rfl, (by omega), MQr.z hI y_34⟩
  · refine tz_aload_n (pc := 13) dX12_put_13 rfl rfl ?_
    refine tz_iload_n (pc := 14) dX12_put_14 rfl rfl ?_
    refine tz_cV (pc := 15) (m_isTerm hl n _ _ (by omega) (by rw [(show ((zup J 164 8 0) : zJ) 165 0 = (J 165 0) from rfl)]; omega)) vl_X12_376 dX12_put_15 o_164 rfl rfl (Nat.le_of_ble_eq_true rfl) ⟨(Nat.le_of_ble_eq_true rfl), (Nat.le_of_ble_eq_true rfl)⟩ rfl rfl (Nat.le_of_ble_eq_true rfl) (Nat.le_of_ble_eq_true rfl) (fun r9 J_15 hq9 => ?_)
    obtain ⟨z_15, rfl, hz_15, rfl, ht_15⟩ := hq9
    rw [(show ((zup J 164 8 0) : zJ) 165 0 = (J 165 0) from rfl)] at ht_15
    refine tz_if_eq (pc := 18) (tgt := 31) dX12_put_18 (by decide) (by omega) (fun h_18 => ?_) (fun h_18 => ?_)
    · refine tz_aload_n (pc := 31) dX12_put_31 rfl rfl ?_
      refine tz_iconst (pc := 32) dX12_put_32 ?_
      refine tz_iconst (pc := 33) dX12_put_33 ?_
      refine tz_cV (pc := 34) (m_refuses hl n _ _ _ (by decide) (by decide) (by decide)) vl_X12_391 dX12_put_34 o_164 rfl rfl (Nat.le_of_ble_eq_true rfl) ⟨(Nat.le_of_ble_eq_true rfl), (Nat.le_of_ble_eq_true rfl)⟩ rfl rfl (Nat.le_of_ble_eq_true rfl) (Nat.le_of_ble_eq_true rfl) (fun r9 J_34 hq9 => ?_)
      obtain ⟨z_34, rfl, hz_34, e_34, f_34⟩ := hq9
      have y_34 : MZ J_34 J := MZ.tr (MZ.up (k := 8) MZ.rf (by decide)) (MZ.c f_34 (by decide))
      exact tz_iret (pc := 37) (z := z_34) dX12_put_37 rfl (Nat.le_of_ble_eq_true rfl) (Nat.le_of_ble_eq_true rfl) ⟨Nat.le_refl _, Nat.le_add_right _ _⟩ ⟨_, rfl, (by omega), MQr.z hI y_34⟩
    · refine tz_aload_n (pc := 21) dX12_put_21 rfl rfl ?_
      refine tz_iload_n (pc := 22) dX12_put_22 rfl rfl ?_
      refine tz_iload_n (pc := 23) dX12_put_23 rfl rfl ?_
      refine tz_cV (pc := 24) (m_place0 hl n _ _ _ (by omega) (by omega) 0 0 0 (J 164 9) m (hM.z (MZ.up (k := 8) MZ.rf (by decide))) (by omega) ) vl_X12_139 dX12_put_24 o_164 rfl rfl (Nat.le_of_ble_eq_true rfl) ⟨(Nat.le_of_ble_eq_true rfl), (Nat.le_of_ble_eq_true rfl)⟩ rfl rfl (Nat.le_of_ble_eq_true rfl) (Nat.le_of_ble_eq_true rfl) (fun r9 J_24 hq9 => ?_)
      obtain ⟨z_24, rfl, hz_24, rfl, hh_24⟩ := hq9
      refine tz_iconst (pc := 27) dX12_put_27 ?_
      refine tz_icmp_ne (pc := 28) (tgt := 38) dX12_put_28 (by decide) (by omega) (by decide) (fun h_28 => ?_) (fun h_28 => ?_)
      · refine tz_aload_n (pc := 38) dX12_put_38 rfl rfl ?_
        refine tz_cV (pc := 39) (m_begins hl n _) vl_X12_400 dX12_put_39 o_164 rfl rfl (Nat.le_of_ble_eq_true rfl) ⟨(Nat.le_of_ble_eq_true rfl), (Nat.le_of_ble_eq_true rfl)⟩ rfl rfl (Nat.le_of_ble_eq_true rfl) (Nat.le_of_ble_eq_true rfl) (fun r9 J_39 hq9 => ?_)
        obtain ⟨rfl, hj_39⟩ := hq9
        have a_39 : AM J_39 J m m := by rw [← hj_39]; exact AM.begin (hI.z (MZ.up (k := 8) MZ.rf (by decide))) ⟨MZ.lo (MZ.up (k := 8) MZ.rf (by decide)), SC.z (MZ.up (k := 8) MZ.rf (by decide))⟩
        have br_39 : ∀ k, (k < 63 ∨ 126 ≤ k) → J_39 165 k = ((zup J 164 8 0) : zJ) 165 k := fun k hk => by rw [← hj_39]; exact zbg_r hk
        have bl_39 : ∀ k, ¬ k = 34 → ¬ k = 33 → ¬ k = 21 → J_39 164 k = ((zup J 164 8 0) : zJ) 164 k := fun k u v w => by rw [← hj_39]; exact zbg_f u v w
        have bo_39 : zOf (zbut [164, 165]) J_39 (zup J 164 8 0) := by rw [← hj_39]; exact zbg_of
        have b3_39 : J_39 164 21 = 0 ∧ J_39 164 33 = 0 ∧ J_39 164 34 = 0 := by rw [← hj_39]; exact ⟨rfl, rfl, rfl⟩
        have s9_39 : J_39 164 9 = J 164 9 := (bl_39 9 (by decide) (by decide) (by decide)).trans ((MZ.up (k := 8) MZ.rf (by decide)).2 9 (by decide) (by decide))
        refine tz_aload_n (pc := 42) dX12_put_42 rfl rfl ?_
        refine tz_aload_n (pc := 43) dX12_put_43 rfl rfl ?_
        refine tz_iload_n (pc := 44) dX12_put_44 rfl rfl ?_
        refine tz_iload_n (pc := 45) dX12_put_45 rfl rfl ?_
        refine tz_iload_n (pc := 46) dX12_put_46 rfl rfl ?_
        refine tz_cVX (pc := 47) (m_withPut hl n _ _ _ _ (by omega) (by omega) (by omega) 0 0 0 (J_39 164 9) m a_39.1.1 (by omega) (by omega) (by omega) hn0 hns) vl_X12_419 dX12_put_47 o_164 rfl rfl (Nat.le_of_ble_eq_true rfl) ⟨(Nat.le_of_ble_eq_true rfl), (Nat.le_of_ble_eq_true rfl)⟩ rfl rfl (show 0 + 7 ≤ 7 by omega) (show 0 + 21 ≤ 21 by omega) (fun r8 n_47 J_47 hn1_47 hn2_47 hq9 => ?_) (fun E9 n_47 J_47 hn1_47 hn2_47 hx9 => hx9.elim)
        obtain ⟨z_47, rfl, hz_47, m_47, g_47, h_47⟩ := hq9
        have a_47 := AM.grow0 a_39 g_47 (fun c hc => by simp only [List.mem_range'_1] at hc; omega) (fun k x y => by simp; omega) rfl
        refine tz_cV (pc := 50) (m_keeps hl n_47 _ _ (by omega) (a_47).2.2.2.1.1.1 (a_47).2.2.2.1.1.2) vl_X12_403 dX12_put_50 o_164 rfl rfl (Nat.le_of_ble_eq_true rfl) ⟨(Nat.le_of_ble_eq_true rfl), (Nat.le_of_ble_eq_true rfl)⟩ rfl rfl (show 0 + 7 ≤ 7 by omega) (show 0 + 21 ≤ 21 by omega) (fun r9 J_50 hq9 => ?_)
        obtain ⟨z_50, rfl, hz_50, k_50⟩ := hq9
        exact tz_iret (pc := 53) (z := z_50) dX12_put_53 rfl (by omega) (by omega) ⟨by omega, by omega⟩ ⟨_, rfl, (by omega), AM.keep a_47 k_50⟩
      · refine tz_aload_n (pc := 31) dX12_put_31 rfl rfl ?_
        refine tz_iconst (pc := 32) dX12_put_32 ?_
        refine tz_iconst (pc := 33) dX12_put_33 ?_
        refine tz_cV (pc := 34) (m_refuses hl n _ _ _ (by decide) (by decide) (by decide)) vl_X12_391 dX12_put_34 o_164 rfl rfl (Nat.le_of_ble_eq_true rfl) ⟨(Nat.le_of_ble_eq_true rfl), (Nat.le_of_ble_eq_true rfl)⟩ rfl rfl (Nat.le_of_ble_eq_true rfl) (Nat.le_of_ble_eq_true rfl) (fun r9 J_34 hq9 => ?_)
        obtain ⟨z_34, rfl, hz_34, e_34, f_34⟩ := hq9
        have y_34 : MZ J_34 J := MZ.tr (MZ.up (k := 8) MZ.rf (by decide)) (MZ.c f_34 (by decide))
        exact tz_iret (pc := 37) (z := z_34) dX12_put_37 rfl (Nat.le_of_ble_eq_true rfl) (Nat.le_of_ble_eq_true rfl) ⟨Nat.le_refl _, Nat.le_add_right _ _⟩ ⟨_, rfl, (by omega), MQr.z hI y_34⟩

