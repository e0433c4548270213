theorem arh_neg {ar : Int → Int} {h : Int} (hh : h < 0) : arh ar h = 0 := by unfold arh; rw [if_pos hh]
theorem arh_pos {ar : Int → Int} {h : Int} (hh : 0 ≤ h) : arh ar h = ar h := by unfold arh; rw [if_neg (by omega)]
set_option maxHeartbeats 4000000 in
set_option maxRecDepth 100000 in
theorem m_varTerm {l : Launch} {G : tb_G} (hl : l.stackTraces = false) (n : Nat) (J : zJ) (v : Int) (hr_v : -2147483648 ≤ v ∧ v < 2147483648) (b r d s m : Int) (hM : MS J b r d s m) (hv : 0 ≤ v ∧ v < 8) : tz_Ok l G M_X12_variableTerm 3 0 0 [.ref 164, zi v] n J (zqi (fun z J' => ∃ m', MG [] [] (fun _ => false) J' J b r d s m m' ∧ (J' 164 21 = 0 → 0 ≤ z ∧ z < m'))) zN := by
  refine tz_Ok.of hl (by decide +kernel) rfl (tb_c1 rfl) (Nat.le_of_ble_eq_true rfl) ?_
  show tz_At l G M_X12_variableTerm (tb_rm 3 0 0) none (tb_ZM G 0 0 (zQ n 0 (zqi (fun z J' => ∃ m', MG [] [] (fun _ => false) J' J b r d s m m' ∧ (J' 164 21 = 0 → 0 ≤ z ∧ z < m')))) (zX n 0 zN)) 0 0 n J 0 [some (.ref 164), some (zi v)] []
  obtain ⟨hM1, hM2, hM3, hM4, hM5, hM6⟩ := id hM
  have hT := hM.told
  refine tz_aload_n (pc := 0) dX12_variableTerm_0 rfl rfl ?_
  refine tz_iconst (pc := 1) dX12_variableTerm_1 ?_
  refine tz_iload_n (pc := 2) dX12_variableTerm_2 rfl rfl ?_
  refine tz_isub (pc := 3) (v := (-1) - v) dX12_variableTerm_3 rfl ?_
  refine tz_iconst (pc := 4) dX12_variableTerm_4 ?_
  refine tz_iconst (pc := 5) dX12_variableTerm_5 ?_
  refine tz_iconst (pc := 6) dX12_variableTerm_6 ?_
  refine tz_cV (pc := 7) (m_termOf hl n _ _ _ _ _ (by omega) (by decide) (by decide) (by decide) b r d s m hM (by omega) (fun _ => by rw [arh_neg (by omega)]; omega)) vl_X12_107 dX12_variableTerm_7 o_164 rfl rfl (Nat.le_of_ble_eq_true rfl) ⟨(Nat.le_of_ble_eq_true rfl), (Nat.le_of_ble_eq_true rfl)⟩ rfl rfl (Nat.le_of_ble_eq_true rfl) (Nat.le_of_ble_eq_true rfl) (fun r9 J_7 hq9 => ?_)
  obtain ⟨z_7, rfl, hz_7, m1, g1, h1⟩ := hq9
  exact tz_iret (pc := 10) (z := z_7) dX12_variableTerm_10 rfl (Nat.le_of_ble_eq_true rfl) (Nat.le_of_ble_eq_true rfl) ⟨Nat.le_refl _, Nat.le_add_right _ _⟩ ⟨_, rfl, (by omega), ⟨m1, g1, h1⟩⟩

set_option maxHeartbeats 4000000 in
set_option maxRecDepth 100000 in
theorem m_remade {l : Launch} {G : tb_G} (hl : l.stackTraces = false) (n : Nat) (J : zJ) (t : Int) (x : Int) (y : Int) (w : Int) (hr_t : -2147483648 ≤ t ∧ t < 2147483648) (hr_x : -2147483648 ≤ x ∧ x < 2147483648) (hr_y : -2147483648 ≤ y ∧ y < 2147483648) (hr_w : -2147483648 ≤ w ∧ w < 2147483648) (b r d s m : Int) (hM : MS J b r d s m) (ht : 0 ≤ t ∧ t < m) (hg : J 164 21 = 0 → (0 < mar J b d t → 0 ≤ x ∧ x < m) ∧ (1 < mar J b d t → 0 ≤ y ∧ y < m) ∧ (2 < mar J b d t → 0 ≤ w ∧ w < m)) : tz_Ok l G M_X12_remade 3 0 0 [.ref 164, zi t, zi x, zi y, zi w] n J (zqi (fun z J' => ∃ m', MG [] [] (fun _ => false) J' J b r d s m m' ∧ (J' 164 21 = 0 → 0 ≤ z ∧ z < m'))) zN := by
  refine tz_Ok.of hl (by decide +kernel) rfl (tb_c1 rfl) (Nat.le_of_ble_eq_true rfl) ?_
  show tz_At l G M_X12_remade (tb_rm 3 0 0) none (tb_ZM G 0 0 (zQ n 0 (zqi (fun z J' => ∃ m', MG [] [] (fun _ => false) J' J b r d s m m' ∧ (J' 164 21 = 0 → 0 ≤ z ∧ z < m')))) (zX n 0 zN)) 0 0 n J 0 [some (.ref 164), some (zi t), some (zi x), some (zi y), some (zi w)] []
  obtain ⟨hM1, hM2, hM3, hM4, hM5, hM6⟩ := id hM
  have hT := hM.told
  have ha := hM.ar ht
  refine tz_aload_n (pc := 0) dX12_remade_0 rfl rfl ?_
  refine tz_aload_n (pc := 1) dX12_remade_1 rfl rfl ?_
  refine tz_iload_n (pc := 2) dX12_remade_2 rfl rfl ?_
  refine tz_cV (pc := 3) (m_head hl n _ _ (by omega) b r d s m hM (by omega)) vl_X12_74 dX12_remade_3 o_164 rfl rfl (Nat.le_of_ble_eq_true rfl) ⟨(Nat.le_of_ble_eq_true rfl), (Nat.le_of_ble_eq_true rfl)⟩ rfl rfl (Nat.le_of_ble_eq_true rfl) (Nat.le_of_ble_eq_true rfl) (fun r9 J_3 hq9 => ?_)
  obtain ⟨z_3, rfl, hz_3, rfl, rfl⟩ := hq9
  refine tz_iload_n (pc := 6) dX12_remade_6 rfl rfl ?_
  refine tz_iload_n (pc := 7) dX12_remade_7 rfl rfl ?_
  refine tz_iload (pc := 8) dX12_remade_8 rfl ?_
  refine tz_cV (pc := 10) (m_termOf hl n _ _ _ _ _ (by omega) (by omega) (by omega) (by omega) b r d s m hM (by omega) hg) vl_X12_107 dX12_remade_10 o_164 rfl rfl (Nat.le_of_ble_eq_true rfl) ⟨(Nat.le_of_ble_eq_true rfl), (Nat.le_of_ble_eq_true rfl)⟩ rfl rfl (Nat.le_of_ble_eq_true rfl) (Nat.le_of_ble_eq_true rfl) (fun r9 J_10 hq9 => ?_)
  obtain ⟨z_10, rfl, hz_10, m1, g1, h1⟩ := hq9
  exact tz_iret (pc := 13) (z := z_10) dX12_remade_13 rfl (Nat.le_of_ble_eq_true rfl) (Nat.le_of_ble_eq_true rfl) ⟨Nat.le_refl _, Nat.le_add_right _ _⟩ ⟨_, rfl, (by omega), ⟨m1, g1, h1⟩⟩

set_option maxHeartbeats 4000000 in
set_option maxRecDepth 100000 in
theorem m_appMR {l : Launch} {G : tb_G} (hl : l.stackTraces = false) (n : Nat) : ∀ (r9 : Nat) (J : zJ) (t : Int) (hr_t : -2147483648 ≤ t ∧ t < 2147483648) (b r d s m : Int) (hM : MS J b r d s m) (ht : 0 ≤ t ∧ t < m) (hy : gOK (J 174) m), ((J 168 (b + t)).toNat) < r9 → tz_Ok l G M_X12_appliedBy (4 + 1 * r9) 0 0 [.ref 164, zi t, .ref 174] n J (zqi (fun z J' => ∃ m', MG [] [] (fun _ => false) J' J b r d s m m' ∧ (J' 164 21 = 0 → 0 ≤ z ∧ z < m'))) zN := by
  intro r9
  induction r9 with
  | zero => intro J t hr_t b r d s m hM ht hy hm9; exact absurd hm9 (Nat.not_lt_zero _)
  | succ r9 ih =>
    intro J t hr_t b r d s m hM ht hy hm9
    refine tz_Ok.of hl (by decide +kernel) rfl (tb_c1 rfl) (Nat.le_of_ble_eq_true rfl) ?_
    show tz_At l G M_X12_appliedBy (tb_rm (4 + 1 * (r9 + 1)) 0 0) none (tb_ZM G 0 0 (zQ n 0 (zqi (fun z J' => ∃ m', MG [] [] (fun _ => false) J' J b r d s m m' ∧ (J' 164 21 = 0 → 0 ≤ z ∧ z < m')))) (zX n 0 zN)) 0 0 n J 0 [some (.ref 164), some (zi t), some (.ref 174), none, none, none, none] []
    obtain ⟨hM1, hM2, hM3, hM4, hM5, hM6⟩ := id hM
    have hT := hM.told
    have ha := hM.ar ht
    have g0 : MG [] [] (fun _ => false) J J b r d s m m := MG.rf hM
    refine tz_aload_n (pc := 0) dX12_appliedBy_0 rfl rfl ?_
    refine tz_fI (pc := 1) (kz := 21) (v := (J 164 21)) dX12_appliedBy_1 fl_X12_92 i_164_21 rfl rfl (fun r_1 => ?_)
    refine tz_if_eq (pc := 4) (tgt := 9) dX12_appliedBy_4 (by decide) (by omega) (fun h_4 => ?_) (fun h_4 => ?_)
    · refine tz_aload_n (pc := 9) dX12_appliedBy_9 rfl rfl ?_
      refine tz_iload_n (pc := 10) dX12_appliedBy_10 rfl rfl ?_
      refine tz_cV (pc := 11) (m_isVar hl n _ _ (by omega) b r d s m hM (by omega)) vl_X12_78 dX12_appliedBy_11 o_164 rfl rfl (Nat.le_of_ble_eq_true rfl) ⟨(show 1 + 1 ≤ 4 + 1 * (r9 + 1) by omega), (show 8 + (2 + 11) + 40 * (1) ≤ 40 * (4 + 1 * (r9 + 1)) by omega)⟩ rfl rfl (Nat.le_of_ble_eq_true rfl) (Nat.le_of_ble_eq_true rfl) (fun r9 J_11 hq9 => ?_)
      obtain ⟨z_11, rfl, hz_11, rfl, rfl⟩ := hq9
      by_cases hw_14 : J 166 (b + t) < 0
      · rw [show (if J 166 (b + t) < 0 then 1 else 0 : Int) = 1 from if_pos hw_14]
        refine tz_if_eqF (pc := 14) (tgt := 40) (by decide) dX12_appliedBy_14 (by decide) (by decide) ?_
        refine tz_aload_n (pc := 17) dX12_appliedBy_17 rfl rfl ?_
        refine tz_aload_n (pc := 18) dX12_appliedBy_18 rfl rfl ?_
        refine tz_iload_n (pc := 19) dX12_appliedBy_19 rfl rfl ?_
        refine tz_cV (pc := 20) (m_varOf hl n _ _ (by omega) b r d s m hM (by omega)) vl_X12_123 dX12_appliedBy_20 o_164 rfl rfl (Nat.le_of_ble_eq_true rfl) ⟨(show 1 + 1 ≤ 4 + 1 * (r9 + 1) by omega), (show 8 + (2 + 11) + 40 * (1) ≤ 40 * (4 + 1 * (r9 + 1)) by omega)⟩ rfl rfl (Nat.le_of_ble_eq_true rfl) (Nat.le_of_ble_eq_true rfl) (fun r9 J_20 hq9 => ?_)
        obtain ⟨z_20, rfl, hz_20, rfl, rfl⟩ := hq9
        have hv9 := hy (-1 - J 166 (b + t)) (by omega) (by omega)
        refine tz_aL (pc := 23) (z := (-1 - J 166 (b + t))) (v := (J 174 (-1 - J 166 (b + t)))) dX12_appliedBy_23 a_174 rfl (by omega) rfl (fun r_23 => ?_)
        refine tz_iconst (pc := 24) dX12_appliedBy_24 ?_
        refine tz_icmp_ne (pc := 25) (tgt := 32) dX12_appliedBy_25 (by decide) (by omega) (by decide) (fun h_25 => ?_) (fun h_25 => ?_)
        · refine tz_aload_n (pc := 32) dX12_appliedBy_32 rfl rfl ?_
          refine tz_aload_n (pc := 33) dX12_appliedBy_33 rfl rfl ?_
          refine tz_iload_n (pc := 34) dX12_appliedBy_34 rfl rfl ?_
          refine tz_cV (pc := 35) (m_varOf hl n _ _ (by omega) b r d s m hM (by omega)) vl_X12_123 dX12_appliedBy_35 o_164 rfl rfl (Nat.le_of_ble_eq_true rfl) ⟨(show 1 + 1 ≤ 4 + 1 * (r9 + 1) by omega), (show 8 + (2 + 11) + 40 * (1) ≤ 40 * (4 + 1 * (r9 + 1)) by omega)⟩ rfl rfl (Nat.le_of_ble_eq_true rfl) (Nat.le_of_ble_eq_true rfl) (fun r9 J_35 hq9 => ?_)
          obtain ⟨z_35, rfl, hz_35, rfl, rfl⟩ := hq9
          refine tz_aL (pc := 38) (z := (-1 - J 166 (b + t))) (v := (J 174 (-1 - J 166 (b + t)))) dX12_appliedBy_38 a_174 rfl (by omega) rfl (fun r_38 => ?_)
          exact tz_iret (pc := 39) (z := (J 174 (-1 - J 166 (b + t)))) dX12_appliedBy_39 rfl (Nat.le_of_ble_eq_true rfl) (Nat.le_of_ble_eq_true rfl) ⟨Nat.le_refl _, Nat.le_add_right _ _⟩ ⟨_, rfl, (by omega), ⟨m, g0, fun q9 => by omega⟩⟩
        · refine tz_iload_n (pc := 28) dX12_appliedBy_28 rfl rfl ?_
          refine tz_goto (pc := 29) (tgt := 39) dX12_appliedBy_29 (by decide) ?_
          exact tz_iret (pc := 39) (z := t) dX12_appliedBy_39 rfl (Nat.le_of_ble_eq_true rfl) (Nat.le_of_ble_eq_true rfl) ⟨Nat.le_refl _, Nat.le_add_right _ _⟩ ⟨_, rfl, (by omega), ⟨m, g0, fun q9 => by omega⟩⟩
      · rw [show (if J 166 (b + t) < 0 then 1 else 0 : Int) = 0 from if_neg hw_14]
        refine tz_if_eqT (pc := 14) (tgt := 40) (by decide) dX12_appliedBy_14 (by decide) (by decide) ?_
        refine tz_aload_n (pc := 40) dX12_appliedBy_40 rfl rfl ?_
        refine tz_iload_n (pc := 41) dX12_appliedBy_41 rfl rfl ?_
        refine tz_cV (pc := 42) (m_arity hl n _ _ (by omega) b r d s m hM (by omega)) vl_X12_111 dX12_appliedBy_42 o_164 rfl rfl (Nat.le_of_ble_eq_true rfl) ⟨(show 2 + 1 ≤ 4 + 1 * (r9 + 1) by omega), (show 8 + (2 + 11) + 40 * (2) ≤ 40 * (4 + 1 * (r9 + 1)) by omega)⟩ rfl rfl (Nat.le_of_ble_eq_true rfl) (Nat.le_of_ble_eq_true rfl) (fun r9 J_42 hq9 => ?_)
        obtain ⟨z_42, rfl, hz_42, rfl, rfl⟩ := hq9
        refine tz_istore_n (pc := 45) (L2 := [_, _, _, _, _, _, _]) dX12_appliedBy_45 rfl (by decide) rfl ?_
        refine tz_iload_n (pc := 46) dX12_appliedBy_46 rfl rfl ?_
        refine tz_if_le (pc := 47) (tgt := 64) dX12_appliedBy_47 (by decide) (by omega) (fun h_47 => ?_) (fun h_47 => ?_)
        · refine tz_iconst (pc := 64) dX12_appliedBy_64 ?_
          refine tz_istore (pc := 65) (L2 := [_, _, _, _, _, _, _]) dX12_appliedBy_65 (by decide) rfl ?_
          refine tz_iload_n (pc := 67) dX12_appliedBy_67 rfl rfl ?_
          refine tz_iconst (pc := 68) dX12_appliedBy_68 ?_
          refine tz_icmp_le (pc := 69) (tgt := 86) dX12_appliedBy_69 (by decide) (by omega) (by decide) (fun h_69 => ?_) (fun h_69 => ?_)
          · refine tz_iconst (pc := 86) dX12_appliedBy_86 ?_
            refine tz_istore (pc := 87) (L2 := [_, _, _, _, _, _, _]) dX12_appliedBy_87 (by decide) rfl ?_
            refine tz_iload_n (pc := 89) dX12_appliedBy_89 rfl rfl ?_
            refine tz_iconst (pc := 90) dX12_appliedBy_90 ?_
            refine tz_icmp_le (pc := 91) (tgt := 108) dX12_appliedBy_91 (by decide) (by omega) (by decide) (fun h_91 => ?_) (fun h_91 => ?_)
            · refine tz_iconst (pc := 108) dX12_appliedBy_108 ?_
              refine tz_istore (pc := 109) (L2 := [_, _, _, _, _, _, _]) dX12_appliedBy_109 (by decide) rfl ?_
              refine tz_aload_n (pc := 111) dX12_appliedBy_111 rfl rfl ?_
              refine tz_iload_n (pc := 112) dX12_appliedBy_112 rfl rfl ?_
              refine tz_iload (pc := 113) dX12_appliedBy_113 rfl ?_
              refine tz_iload (pc := 115) dX12_appliedBy_115 rfl ?_
              refine tz_iload (pc := 117) dX12_appliedBy_117 rfl ?_
              have l0_119 := (g0).1.2
              have t0_119 := (g0).1.1.told
              refine tz_cV (pc := 119) (m_remade hl n _ _ _ _ _ (by omega) (by omega) (by omega) (by omega) b r d s m (g0).1.1 (by omega) (fun q9 => by have e9 := (g0).ar ht ((g0).2.2.1.2.2.2 170 rfl); rw [e9]; omega)) vl_X12_152 dX12_appliedBy_119 o_164 rfl rfl (Nat.le_of_ble_eq_true rfl) ⟨(show 3 + 1 ≤ 4 + 1 * (r9 + 1) by omega), (show 8 + (5 + 11) + 40 * (3) ≤ 40 * (4 + 1 * (r9 + 1)) by omega)⟩ rfl rfl (Nat.le_of_ble_eq_true rfl) (Nat.le_of_ble_eq_true rfl) (fun r9 J_119 hq9 => ?_)
              obtain ⟨z_119, rfl, hz_119, m_119, g_119, h_119⟩ := hq9
              have q_119 := MG.tr g0 g_119
              have f_119 := g_119.2.2.2
              have l_119 := g_119.1.2
              exact tz_iret (pc := 122) (z := z_119) dX12_appliedBy_122 rfl (Nat.le_of_ble_eq_true rfl) (Nat.le_of_ble_eq_true rfl) ⟨Nat.le_refl _, Nat.le_add_right _ _⟩ ⟨_, rfl, (by omega), ⟨m_119, q_119, h_119⟩⟩
            · refine tz_aload_n (pc := 94) dX12_appliedBy_94 rfl rfl ?_
              refine tz_aload_n (pc := 95) dX12_appliedBy_95 rfl rfl ?_
              refine tz_iload_n (pc := 96) dX12_appliedBy_96 rfl rfl ?_
              refine tz_iconst (pc := 97) dX12_appliedBy_97 ?_
              refine tz_cV (pc := 98) (m_arg hl n _ _ _ (by omega) (by decide) b r d s m hM (by omega) (by omega)) vl_X12_88 dX12_appliedBy_98 o_164 rfl rfl (Nat.le_of_ble_eq_true rfl) ⟨(show 0 + 1 ≤ 4 + 1 * (r9 + 1) by omega), (show 8 + (3 + 11) + 40 * (0) ≤ 40 * (4 + 1 * (r9 + 1)) by omega)⟩ rfl rfl (Nat.le_of_ble_eq_true rfl) (Nat.le_of_ble_eq_true rfl) (fun r9 J_98 hq9 => ?_)
              obtain ⟨z_98, rfl, hz_98, rfl, rfl⟩ := hq9
              refine tz_aload_n (pc := 101) dX12_appliedBy_101 rfl rfl ?_
              have l0_102 := (g0).1.2
              have t0_102 := (g0).1.1.told
              have a_102 := hM.arg (t := t) (i := 2) ht (by omega)
              refine tz_cV (pc := 102) (ih _ _ (by omega) b r d s m (g0).1.1 (by omega) (fun v x9 y9 => by have := hy v x9 y9; rw [(g0).2.2.1.2.2.2 174 rfl]; omega) (by rw [((g0).2.1 _ (by omega) (by omega)).1.2]; omega)) vl_X12_148 dX12_appliedBy_102 o_164 rfl rfl (Nat.le_of_ble_eq_true rfl) ⟨(show (4 + 1 * r9) + 1 ≤ 4 + 1 * (r9 + 1) by omega), (show 8 + (7 + 11) + 40 * ((4 + 1 * r9)) ≤ 40 * (4 + 1 * (r9 + 1)) by omega)⟩ rfl rfl (Nat.le_of_ble_eq_true rfl) (Nat.le_of_ble_eq_true rfl) (fun r9 J_102 hq9 => ?_)
              obtain ⟨z_102, rfl, hz_102, m_102, g_102, h_102⟩ := hq9
              have q_102 := MG.tr g0 g_102
              have f_102 := g_102.2.2.2
              have l_102 := g_102.1.2
              refine tz_goto (pc := 105) (tgt := 109) dX12_appliedBy_105 (by decide) ?_
              refine tz_istore (pc := 109) (L2 := [_, _, _, _, _, _, _]) dX12_appliedBy_109 (by decide) rfl ?_
              refine tz_aload_n (pc := 111) dX12_appliedBy_111 rfl rfl ?_
              refine tz_iload_n (pc := 112) dX12_appliedBy_112 rfl rfl ?_
              refine tz_iload (pc := 113) dX12_appliedBy_113 rfl ?_
              refine tz_iload (pc := 115) dX12_appliedBy_115 rfl ?_
              refine tz_iload (pc := 117) dX12_appliedBy_117 rfl ?_
              have l0_119 := (q_102).1.2
              have t0_119 := (q_102).1.1.told
              refine tz_cV (pc := 119) (m_remade hl n _ _ _ _ _ (by omega) (by omega) (by omega) (by omega) b r d s m_102 (q_102).1.1 (by omega) (fun q9 => by have e9 := (q_102).ar ht ((q_102).2.2.1.2.2.2 170 rfl); rw [e9]; omega)) vl_X12_152 dX12_appliedBy_119 o_164 rfl rfl (Nat.le_of_ble_eq_true rfl) ⟨(show 3 + 1 ≤ 4 + 1 * (r9 + 1) by omega), (show 8 + (5 + 11) + 40 * (3) ≤ 40 * (4 + 1 * (r9 + 1)) by omega)⟩ rfl rfl (Nat.le_of_ble_eq_true rfl) (Nat.le_of_ble_eq_true rfl) (fun r9 J_119 hq9 => ?_)
              obtain ⟨z_119, rfl, hz_119, m_119, g_119, h_119⟩ := hq9
              have q_119 := MG.tr q_102 g_119
              have f_119 := g_119.2.2.2
              have l_119 := g_119.1.2
              exact tz_iret (pc := 122) (z := z_119) dX12_appliedBy_122 rfl (Nat.le_of_ble_eq_true rfl) (Nat.le_of_ble_eq_true rfl) ⟨Nat.le_refl _, Nat.le_add_right _ _⟩ ⟨_, rfl, (by omega), ⟨m_119, q_119, h_119⟩⟩
          · refine tz_aload_n (pc := 72) dX12_appliedBy_72 rfl rfl ?_
            refine tz_aload_n (pc := 73) dX12_appliedBy_73 rfl rfl ?_
            refine tz_iload_n (pc := 74) dX12_appliedBy_74 rfl rfl ?_
            refine tz_iconst (pc := 75) dX12_appliedBy_75 ?_
            refine tz_cV (pc := 76) (m_arg hl n _ _ _ (by omega) (by decide) b r d s m hM (by omega) (by omega)) vl_X12_88 dX12_appliedBy_76 o_164 rfl rfl (Nat.le_of_ble_eq_true rfl) ⟨(show 0 + 1 ≤ 4 + 1 * (r9 + 1) by omega), (show 8 + (3 + 11) + 40 * (0) ≤ 40 * (4 + 1 * (r9 + 1)) by omega)⟩ rfl rfl (Nat.le_of_ble_eq_true rfl) (Nat.le_of_ble_eq_true rfl) (fun r9 J_76 hq9 => ?_)
            obtain ⟨z_76, rfl, hz_76, rfl, rfl⟩ := hq9
            refine tz_aload_n (pc := 79) dX12_appliedBy_79 rfl rfl ?_
            have l0_80 := (g0).1.2
            have t0_80 := (g0).1.1.told
            have a_80 := hM.arg (t := t) (i := 1) ht (by omega)
            refine tz_cV (pc := 80) (ih _ _ (by omega) b r d s m (g0).1.1 (by omega) (fun v x9 y9 => by have := hy v x9 y9; rw [(g0).2.2.1.2.2.2 174 rfl]; omega) (by rw [((g0).2.1 _ (by omega) (by omega)).1.2]; omega)) vl_X12_148 dX12_appliedBy_80 o_164 rfl rfl (Nat.le_of_ble_eq_true rfl) ⟨(show (4 + 1 * r9) + 1 ≤ 4 + 1 * (r9 + 1) by omega), (show 8 + (7 + 11) + 40 * ((4 + 1 * r9)) ≤ 40 * (4 + 1 * (r9 + 1)) by omega)⟩ rfl rfl (Nat.le_of_ble_eq_true rfl) (Nat.le_of_ble_eq_true rfl) (fun r9 J_80 hq9 => ?_)
            obtain ⟨z_80, rfl, hz_80, m_80, g_80, h_80⟩ := hq9
            have q_80 := MG.tr g0 g_80
            have f_80 := g_80.2.2.2
            have l_80 := g_80.1.2
            refine tz_goto (pc := 83) (tgt := 87) dX12_appliedBy_83 (by decide) ?_
            refine tz_istore (pc := 87) (L2 := [_, _, _, _, _, _, _]) dX12_appliedBy_87 (by decide) rfl ?_
            refine tz_iload_n (pc := 89) dX12_appliedBy_89 rfl rfl ?_
            refine tz_iconst (pc := 90) dX12_appliedBy_90 ?_
            refine tz_icmp_le (pc := 91) (tgt := 108) dX12_appliedBy_91 (by decide) (by omega) (by decide) (fun h_91 => ?_) (fun h_91 => ?_)
            · refine tz_iconst (pc := 108) dX12_appliedBy_108 ?_
              refine tz_istore (pc := 109) (L2 := [_, _, _, _, _, _, _]) dX12_appliedBy_109 (by decide) rfl ?_
              refine tz_aload_n (pc := 111) dX12_appliedBy_111 rfl rfl ?_
              refine tz_iload_n (pc := 112) dX12_appliedBy_112 rfl rfl ?_
              refine tz_iload (pc := 113) dX12_appliedBy_113 rfl ?_
              refine tz_iload (pc := 115) dX12_appliedBy_115 rfl ?_
              refine tz_iload (pc := 117) dX12_appliedBy_117 rfl ?_
              have l0_119 := (q_80).1.2
              have t0_119 := (q_80).1.1.told
              refine tz_cV (pc := 119) (m_remade hl n _ _ _ _ _ (by omega) (by omega) (by omega) (by omega) b r d s m_80 (q_80).1.1 (by omega) (fun q9 => by have e9 := (q_80).ar ht ((q_80).2.2.1.2.2.2 170 rfl); rw [e9]; omega)) vl_X12_152 dX12_appliedBy_119 o_164 rfl rfl (Nat.le_of_ble_eq_true rfl) ⟨(show 3 + 1 ≤ 4 + 1 * (r9 + 1) by omega), (show 8 + (5 + 11) + 40 * (3) ≤ 40 * (4 + 1 * (r9 + 1)) by omega)⟩ rfl rfl (Nat.le_of_ble_eq_true rfl) (Nat.le_of_ble_eq_true rfl) (fun r9 J_119 hq9 => ?_)
              obtain ⟨z_119, rfl, hz_119, m_119, g_119, h_119⟩ := hq9
              have q_119 := MG.tr q_80 g_119
              have f_119 := g_119.2.2.2
              have l_119 := g_119.1.2
              exact tz_iret (pc := 122) (z := z_119) dX12_appliedBy_122 rfl (Nat.le_of_ble_eq_true rfl) (Nat.le_of_ble_eq_true rfl) ⟨Nat.le_refl _, Nat.le_add_right _ _⟩ ⟨_, rfl, (by omega), ⟨m_119, q_119, h_119⟩⟩
            · refine tz_aload_n (pc := 94) dX12_appliedBy_94 rfl rfl ?_
              refine tz_aload_n (pc := 95) dX12_appliedBy_95 rfl rfl ?_
              refine tz_iload_n (pc := 96) dX12_appliedBy_96 rfl rfl ?_
              refine tz_iconst (pc := 97) dX12_appliedBy_97 ?_
              have l_98 := (q_80).1.2
              have tt_98 := (q_80).1.1.told
              refine tz_cV (pc := 98) (m_arg hl n _ _ _ (by omega) (by decide) b r d s m_80 (q_80).1.1 (by omega) (by omega)) vl_X12_88 dX12_appliedBy_98 o_164 rfl rfl (Nat.le_of_ble_eq_true rfl) ⟨(show 0 + 1 ≤ 4 + 1 * (r9 + 1) by omega), (show 8 + (3 + 11) + 40 * (0) ≤ 40 * (4 + 1 * (r9 + 1)) by omega)⟩ rfl rfl (Nat.le_of_ble_eq_true rfl) (Nat.le_of_ble_eq_true rfl) (fun r9 J_98 hq9 => ?_)
              obtain ⟨z_98, rfl, hz_98, rfl, hv_98⟩ := hq9
              have he_98 : J_80 167 (3 * (b + t) + 2) = J 167 (3 * (b + t) + 2) := ((q_80).2.1 t ht.1 ht.2).2 2 (by omega) (by omega)
              rw [he_98] at hv_98
              obtain rfl : J 167 (3 * (b + t) + 2) = z_98 := hv_98
              refine tz_aload_n (pc := 101) dX12_appliedBy_101 rfl rfl ?_
              have l0_102 := (q_80).1.2
              have t0_102 := (q_80).1.1.told
              have a_102 := hM.arg (t := t) (i := 2) ht (by omega)
              refine tz_cV (pc := 102) (ih _ _ (by omega) b r d s m_80 (q_80).1.1 (by omega) (fun v x9 y9 => by have := hy v x9 y9; rw [(q_80).2.2.1.2.2.2 174 rfl]; omega) (by rw [((q_80).2.1 _ (by omega) (by omega)).1.2]; omega)) vl_X12_148 dX12_appliedBy_102 o_164 rfl rfl (Nat.le_of_ble_eq_true rfl) ⟨(show (4 + 1 * r9) + 1 ≤ 4 + 1 * (r9 + 1) by omega), (show 8 + (7 + 11) + 40 * ((4 + 1 * r9)) ≤ 40 * (4 + 1 * (r9 + 1)) by omega)⟩ rfl rfl (Nat.le_of_ble_eq_true rfl) (Nat.le_of_ble_eq_true rfl) (fun r9 J_102 hq9 => ?_)
              obtain ⟨z_102, rfl, hz_102, m_102, g_102, h_102⟩ := hq9
              have q_102 := MG.tr q_80 g_102
              have f_102 := g_102.2.2.2
              have l_102 := g_102.1.2
              refine tz_goto (pc := 105) (tgt := 109) dX12_appliedBy_105 (by decide) ?_
              refine tz_istore (pc := 109) (L2 := [_, _, _, _, _, _, _]) dX12_appliedBy_109 (by decide) rfl ?_
              refine tz_aload_n (pc := 111) dX12_appliedBy_111 rfl rfl ?_
              refine tz_iload_n (pc := 112) dX12_appliedBy_112 rfl rfl ?_
              refine tz_iload (pc := 113) dX12_appliedBy_113 rfl ?_
              refine tz_iload (pc := 115) dX12_appliedBy_115 rfl ?_
              refine tz_iload (pc := 117) dX12_appliedBy_117 rfl ?_
              have l0_119 := (q_102).1.2
              have t0_119 := (q_102).1.1.told
              refine tz_cV (pc := 119) (m_remade hl n _ _ _ _ _ (by omega) (by omega) (by omega) (by omega) b r d s m_102 (q_102).1.1 (by omega) (fun q9 => by have e9 := (q_102).ar ht ((q_102).2.2.1.2.2.2 170 rfl); rw [e9]; omega)) vl_X12_152 dX12_appliedBy_119 o_164 rfl rfl (Nat.le_of_ble_eq_true rfl) ⟨(show 3 + 1 ≤ 4 + 1 * (r9 + 1) by omega), (show 8 + (5 + 11) + 40 * (3) ≤ 40 * (4 + 1 * (r9 + 1)) by omega)⟩ rfl rfl (Nat.le_of_ble_eq_true rfl) (Nat.le_of_ble_eq_true rfl) (fun r9 J_119 hq9 => ?_)
              obtain ⟨z_119, rfl, hz_119, m_119, g_119, h_119⟩ := hq9
              have q_119 := MG.tr q_102 g_119
              have f_119 := g_119.2.2.2
              have l_119 := g_119.1.2
              exact tz_iret (pc := 122) (z := z_119) dX12_appliedBy_122 rfl (Nat.le_of_ble_eq_true rfl) (Nat.le_of_ble_eq_true rfl) ⟨Nat.le_refl _, Nat.le_add_right _ _⟩ ⟨_, rfl, (by omega), ⟨m_119, q_119, h_119⟩⟩
        · refine tz_aload_n (pc := 50) dX12_appliedBy_50 rfl rfl ?_
          refine tz_aload_n (pc := 51) dX12_appliedBy_51 rfl rfl ?_
          refine tz_iload_n (pc := 52) dX12_appliedBy_52 rfl rfl ?_
          refine tz_iconst (pc := 53) dX12_appliedBy_53 ?_
          refine tz_cV (pc := 54) (m_arg hl n _ _ _ (by omega) (by decide) b r d s m hM (by omega) (by omega)) vl_X12_88 dX12_appliedBy_54 o_164 rfl rfl (Nat.le_of_ble_eq_true rfl) ⟨(show 0 + 1 ≤ 4 + 1 * (r9 + 1) by omega), (show 8 + (3 + 11) + 40 * (0) ≤ 40 * (4 + 1 * (r9 + 1)) by omega)⟩ rfl rfl (Nat.le_of_ble_eq_true rfl) (Nat.le_of_ble_eq_true rfl) (fun r9 J_54 hq9 => ?_)
          obtain ⟨z_54, rfl, hz_54, rfl, rfl⟩ := hq9
          refine tz_aload_n (pc := 57) dX12_appliedBy_57 rfl rfl ?_
          have l0_58 := (g0).1.2
          have t0_58 := (g0).1.1.told
          have a_58 := hM.arg (t := t) (i := 0) ht (by omega)
          refine tz_cV (pc := 58) (ih _ _ (by omega) b r d s m (g0).1.1 (by omega) (fun v x9 y9 => by have := hy v x9 y9; rw [(g0).2.2.1.2.2.2 174 rfl]; omega) (by rw [((g0).2.1 _ (by omega) (by omega)).1.2]; omega)) vl_X12_148 dX12_appliedBy_58 o_164 rfl rfl (Nat.le_of_ble_eq_true rfl) ⟨(show (4 + 1 * r9) + 1 ≤ 4 + 1 * (r9 + 1) by omega), (show 8 + (7 + 11) + 40 * ((4 + 1 * r9)) ≤ 40 * (4 + 1 * (r9 + 1)) by omega)⟩ rfl rfl (Nat.le_of_ble_eq_true rfl) (Nat.le_of_ble_eq_true rfl) (fun r9 J_58 hq9 => ?_)
          obtain ⟨z_58, rfl, hz_58, m_58, g_58, h_58⟩ := hq9
          have q_58 := MG.tr g0 g_58
          have f_58 := g_58.2.2.2
          have l_58 := g_58.1.2
          refine tz_goto (pc := 61) (tgt := 65) dX12_appliedBy_61 (by decide) ?_
          refine tz_istore (pc := 65) (L2 := [_, _, _, _, _, _, _]) dX12_appliedBy_65 (by decide) rfl ?_
          refine tz_iload_n (pc := 67) dX12_appliedBy_67 rfl rfl ?_
          refine tz_iconst (pc := 68) dX12_appliedBy_68 ?_
          refine tz_icmp_le (pc := 69) (tgt := 86) dX12_appliedBy_69 (by decide) (by omega) (by decide) (fun h_69 => ?_) (fun h_69 => ?_)
          · refine tz_iconst (pc := 86) dX12_appliedBy_86 ?_
            refine tz_istore (pc := 87) (L2 := [_, _, _, _, _, _, _]) dX12_appliedBy_87 (by decide) rfl ?_
            refine tz_iload_n (pc := 89) dX12_appliedBy_89 rfl rfl ?_
            refine tz_iconst (pc := 90) dX12_appliedBy_90 ?_
            refine tz_icmp_le (pc := 91) (tgt := 108) dX12_appliedBy_91 (by decide) (by omega) (by decide) (fun h_91 => ?_) (fun h_91 => ?_)
            · refine tz_iconst (pc := 108) dX12_appliedBy_108 ?_
              refine tz_istore (pc := 109) (L2 := [_, _, _, _, _, _, _]) dX12_appliedBy_109 (by decide) rfl ?_
              refine tz_aload_n (pc := 111) dX12_appliedBy_111 rfl rfl ?_
              refine tz_iload_n (pc := 112) dX12_appliedBy_112 rfl rfl ?_
              refine tz_iload (pc := 113) dX12_appliedBy_113 rfl ?_
              refine tz_iload (pc := 115) dX12_appliedBy_115 rfl ?_
              refine tz_iload (pc := 117) dX12_appliedBy_117 rfl ?_
              have l0_119 := (q_58).1.2
              have t0_119 := (q_58).1.1.told
              refine tz_cV (pc := 119) (m_remade hl n _ _ _ _ _ (by omega) (by omega) (by omega) (by omega) b r d s m_58 (q_58).1.1 (by omega) (fun q9 => by have e9 := (q_58).ar ht ((q_58).2.2.1.2.2.2 170 rfl); rw [e9]; omega)) vl_X12_152 dX12_appliedBy_119 o_164 rfl rfl (Nat.le_of_ble_eq_true rfl) ⟨(show 3 + 1 ≤ 4 + 1 * (r9 + 1) by omega), (show 8 + (5 + 11) + 40 * (3) ≤ 40 * (4 + 1 * (r9 + 1)) by omega)⟩ rfl rfl (Nat.le_of_ble_eq_true rfl) (Nat.le_of_ble_eq_true rfl) (fun r9 J_119 hq9 => ?_)
              obtain ⟨z_119, rfl, hz_119, m_119, g_119, h_119⟩ := hq9
              have q_119 := MG.tr q_58 g_119
              have f_119 := g_119.2.2.2
              have l_119 := g_119.1.2
              exact tz_iret (pc := 122) (z := z_119) dX12_appliedBy_122 rfl (Nat.le_of_ble_eq_true rfl) (Nat.le_of_ble_eq_true rfl) ⟨Nat.le_refl _, Nat.le_add_right _ _⟩ ⟨_, rfl, (by omega), ⟨m_119, q_119, h_119⟩⟩
            · refine tz_aload_n (pc := 94) dX12_appliedBy_94 rfl rfl ?_
              refine tz_aload_n (pc := 95) dX12_appliedBy_95 rfl rfl ?_
              refine tz_iload_n (pc := 96) dX12_appliedBy_96 rfl rfl ?_
              refine tz_iconst (pc := 97) dX12_appliedBy_97 ?_
              have l_98 := (q_58).1.2
              have tt_98 := (q_58).1.1.told
              refine tz_cV (pc := 98) (m_arg hl n _ _ _ (by omega) (by decide) b r d s m_58 (q_58).1.1 (by omega) (by omega)) vl_X12_88 dX12_appliedBy_98 o_164 rfl rfl (Nat.le_of_ble_eq_true rfl) ⟨(show 0 + 1 ≤ 4 + 1 * (r9 + 1) by omega), (show 8 + (3 + 11) + 40 * (0) ≤ 40 * (4 + 1 * (r9 + 1)) by omega)⟩ rfl rfl (Nat.le_of_ble_eq_true rfl) (Nat.le_of_ble_eq_true rfl) (fun r9 J_98 hq9 => ?_)
              obtain ⟨z_98, rfl, hz_98, rfl, hv_98⟩ := hq9
              have he_98 : J_58 167 (3 * (b + t) + 2) = J 167 (3 * (b + t) + 2) := ((q_58).2.1 t ht.1 ht.2).2 2 (by omega) (by omega)
              rw [he_98] at hv_98
              obtain rfl : J 167 (3 * (b + t) + 2) = z_98 := hv_98
              refine tz_aload_n (pc := 101) dX12_appliedBy_101 rfl rfl ?_
              have l0_102 := (q_58).1.2
              have t0_102 := (q_58).1.1.told
              have a_102 := hM.arg (t := t) (i := 2) ht (by omega)
              refine tz_cV (pc := 102) (ih _ _ (by omega) b r d s m_58 (q_58).1.1 (by omega) (fun v x9 y9 => by have := hy v x9 y9; rw [(q_58).2.2.1.2.2.2 174 rfl]; omega) (by rw [((q_58).2.1 _ (by omega) (by omega)).1.2]; omega)) vl_X12_148 dX12_appliedBy_102 o_164 rfl rfl (Nat.le_of_ble_eq_true rfl) ⟨(show (4 + 1 * r9) + 1 ≤ 4 + 1 * (r9 + 1) by omega), (show 8 + (7 + 11) + 40 * ((4 + 1 * r9)) ≤ 40 * (4 + 1 * (r9 + 1)) by omega)⟩ rfl rfl (Nat.le_of_ble_eq_true rfl) (Nat.le_of_ble_eq_true rfl) (fun r9 J_102 hq9 => ?_)
              obtain ⟨z_102, rfl, hz_102, m_102, g_102, h_102⟩ := hq9
              have q_102 := MG.tr q_58 g_102
              have f_102 := g_102.2.2.2
              have l_102 := g_102.1.2
              refine tz_goto (pc := 105) (tgt := 109) dX12_appliedBy_105 (by decide) ?_
              refine tz_istore (pc := 109) (L2 := [_, _, _, _, _, _, _]) dX12_appliedBy_109 (by decide) rfl ?_
              refine tz_aload_n (pc := 111) dX12_appliedBy_111 rfl rfl ?_
              refine tz_iload_n (pc := 112) dX12_appliedBy_112 rfl rfl ?_
              refine tz_iload (pc := 113) dX12_appliedBy_113 rfl ?_
              refine tz_iload (pc := 115) dX12_appliedBy_115 rfl ?_
              refine tz_iload (pc := 117) dX12_appliedBy_117 rfl ?_
              have l0_119 := (q_102).1.2
              have t0_119 := (q_102).1.1.told
              refine tz_cV (pc := 119) (m_remade hl n _ _ _ _ _ (by omega) (by omega) (by omega) (by omega) b r d s m_102 (q_102).1.1 (by omega) (fun q9 => by have e9 := (q_102).ar ht ((q_102).2.2.1.2.2.2 170 rfl); rw [e9]; omega)) vl_X12_152 dX12_appliedBy_119 o_164 rfl rfl (Nat.le_of_ble_eq_true rfl) ⟨(show 3 + 1 ≤ 4 + 1 * (r9 + 1) by omega), (show 8 + (5 + 11) + 40 * (3) ≤ 40 * (4 + 1 * (r9 + 1)) by omega)⟩ rfl rfl (Nat.le_of_ble_eq_true rfl) (Nat.le_of_ble_eq_true rfl) (fun r9 J_119 hq9 => ?_)
              obtain ⟨z_119, rfl, hz_119, m_119, g_119, h_119⟩ := hq9
              have q_119 := MG.tr q_102 g_119
              have f_119 := g_119.2.2.2
              have l_119 := g_119.1.2
              exact tz_iret (pc := 122) (z := z_119) dX12_appliedBy_122 rfl (Nat.le_of_ble_eq_true rfl) (Nat.le_of_ble_eq_true rfl) ⟨Nat.le_refl _, Nat.le_add_right _ _⟩ ⟨_, rfl, (by omega), ⟨m_119, q_119, h_119⟩⟩
          · refine tz_aload_n (pc := 72) dX12_appliedBy_72 rfl rfl ?_
            refine tz_aload_n (pc := 73) dX12_appliedBy_73 rfl rfl ?_
            refine tz_iload_n (pc := 74) dX12_appliedBy_74 rfl rfl ?_
            refine tz_iconst (pc := 75) dX12_appliedBy_75 ?_
            have l_76 := (q_58).1.2
            have tt_76 := (q_58).1.1.told
            refine tz_cV (pc := 76) (m_arg hl n _ _ _ (by omega) (by decide) b r d s m_58 (q_58).1.1 (by omega) (by omega)) vl_X12_88 dX12_appliedBy_76 o_164 rfl rfl (Nat.le_of_ble_eq_true rfl) ⟨(show 0 + 1 ≤ 4 + 1 * (r9 + 1) by omega), (show 8 + (3 + 11) + 40 * (0) ≤ 40 * (4 + 1 * (r9 + 1)) by omega)⟩ rfl rfl (Nat.le_of_ble_eq_true rfl) (Nat.le_of_ble_eq_true rfl) (fun r9 J_76 hq9 => ?_)
            obtain ⟨z_76, rfl, hz_76, rfl, hv_76⟩ := hq9
            have he_76 : J_58 167 (3 * (b + t) + 1) = J 167 (3 * (b + t) + 1) := ((q_58).2.1 t ht.1 ht.2).2 1 (by omega) (by omega)
            rw [he_76] at hv_76
            obtain rfl : J 167 (3 * (b + t) + 1) = z_76 := hv_76
            refine tz_aload_n (pc := 79) dX12_appliedBy_79 rfl rfl ?_
            have l0_80 := (q_58).1.2
            have t0_80 := (q_58).1.1.told
            have a_80 := hM.arg (t := t) (i := 1) ht (by omega)
            refine tz_cV (pc := 80) (ih _ _ (by omega) b r d s m_58 (q_58).1.1 (by omega) (fun v x9 y9 => by have := hy v x9 y9; rw [(q_58).2.2.1.2.2.2 174 rfl]; omega) (by rw [((q_58).2.1 _ (by omega) (by omega)).1.2]; omega)) vl_X12_148 dX12_appliedBy_80 o_164 rfl rfl (Nat.le_of_ble_eq_true rfl) ⟨(show (4 + 1 * r9) + 1 ≤ 4 + 1 * (r9 + 1) by omega), (show 8 + (7 + 11) + 40 * ((4 + 1 * r9)) ≤ 40 * (4 + 1 * (r9 + 1)) by omega)⟩ rfl rfl (Nat.le_of_ble_eq_true rfl) (Nat.le_of_ble_eq_true rfl) (fun r9 J_80 hq9 => ?_)
            obtain ⟨z_80, rfl, hz_80, m_80, g_80, h_80⟩ := hq9
            have q_80 := MG.tr q_58 g_80
            have f_80 := g_80.2.2.2
            have l_80 := g_80.1.2
            refine tz_goto (pc := 83) (tgt := 87) dX12_appliedBy_83 (by decide) ?_
            refine tz_istore (pc := 87) (L2 := [_, _, _, _, _, _, _]) dX12_appliedBy_87 (by decide) rfl ?_
            refine tz_iload_n (pc := 89) dX12_appliedBy_89 rfl rfl ?_
            refine tz_iconst (pc := 90) dX12_appliedBy_90 ?_
            refine tz_icmp_le (pc := 91) (tgt := 108) dX12_appliedBy_91 (by decide) (by omega) (by decide) (fun h_91 => ?_) (fun h_91 => ?_)
            · refine tz_iconst (pc := 108) dX12_appliedBy_108 ?_
              refine tz_istore (pc := 109) (L2 := [_, _, _, _, _, _, _]) dX12_appliedBy_109 (by decide) rfl ?_
              refine tz_aload_n (pc := 111) dX12_appliedBy_111 rfl rfl ?_
              refine tz_iload_n (pc := 112) dX12_appliedBy_112 rfl rfl ?_
              refine tz_iload (pc := 113) dX12_appliedBy_113 rfl ?_
              refine tz_iload (pc := 115) dX12_appliedBy_115 rfl ?_
              refine tz_iload (pc := 117) dX12_appliedBy_117 rfl ?_
              have l0_119 := (q_80).1.2
              have t0_119 := (q_80).1.1.told
              refine tz_cV (pc := 119) (m_remade hl n _ _ _ _ _ (by omega) (by omega) (by omega) (by omega) b r d s m_80 (q_80).1.1 (by omega) (fun q9 => by have e9 := (q_80).ar ht ((q_80).2.2.1.2.2.2 170 rfl); rw [e9]; omega)) vl_X12_152 dX12_appliedBy_119 o_164 rfl rfl (Nat.le_of_ble_eq_true rfl) ⟨(show 3 + 1 ≤ 4 + 1 * (r9 + 1) by omega), (show 8 + (5 + 11) + 40 * (3) ≤ 40 * (4 + 1 * (r9 + 1)) by omega)⟩ rfl rfl (Nat.le_of_ble_eq_true rfl) (Nat.le_of_ble_eq_true rfl) (fun r9 J_119 hq9 => ?_)
              obtain ⟨z_119, rfl, hz_119, m_119, g_119, h_119⟩ := hq9
              have q_119 := MG.tr q_80 g_119
              have f_119 := g_119.2.2.2
              have l_119 := g_119.1.2
              exact tz_iret (pc := 122) (z := z_119) dX12_appliedBy_122 rfl (Nat.le_of_ble_eq_true rfl) (Nat.le_of_ble_eq_true rfl) ⟨Nat.le_refl _, Nat.le_add_right _ _⟩ ⟨_, rfl, (by omega), ⟨m_119, q_119, h_119⟩⟩
            · refine tz_aload_n (pc := 94) dX12_appliedBy_94 rfl rfl ?_
              refine tz_aload_n (pc := 95) dX12_appliedBy_95 rfl rfl ?_
              refine tz_iload_n (pc := 96) dX12_appliedBy_96 rfl rfl ?_
              refine tz_iconst (pc := 97) dX12_appliedBy_97 ?_
              have l_98 := (q_80).1.2
              have tt_98 := (q_80).1.1.told
              refine tz_cV (pc := 98) (m_arg hl n _ _ _ (by omega) (by decide) b r d s m_80 (q_80).1.1 (by omega) (by omega)) vl_X12_88 dX12_appliedBy_98 o_164 rfl rfl (Nat.le_of_ble_eq_true rfl) ⟨(show 0 + 1 ≤ 4 + 1 * (r9 + 1) by omega), (show 8 + (3 + 11) + 40 * (0) ≤ 40 * (4 + 1 * (r9 + 1)) by omega)⟩ rfl rfl (Nat.le_of_ble_eq_true rfl) (Nat.le_of_ble_eq_true rfl) (fun r9 J_98 hq9 => ?_)
              obtain ⟨z_98, rfl, hz_98, rfl, hv_98⟩ := hq9
              have he_98 : J_80 167 (3 * (b + t) + 2) = J 167 (3 * (b + t) + 2) := ((q_80).2.1 t ht.1 ht.2).2 2 (by omega) (by omega)
              rw [he_98] at hv_98
              obtain rfl : J 167 (3 * (b + t) + 2) = z_98 := hv_98
              refine tz_aload_n (pc := 101) dX12_appliedBy_101 rfl rfl ?_
              have l0_102 := (q_80).1.2
              have t0_102 := (q_80).1.1.told
              have a_102 := hM.arg (t := t) (i := 2) ht (by omega)
              refine tz_cV (pc := 102) (ih _ _ (by omega) b r d s m_80 (q_80).1.1 (by omega) (fun v x9 y9 => by have := hy v x9 y9; rw [(q_80).2.2.1.2.2.2 174 rfl]; omega) (by rw [((q_80).2.1 _ (by omega) (by omega)).1.2]; omega)) vl_X12_148 dX12_appliedBy_102 o_164 rfl rfl (Nat.le_of_ble_eq_true rfl) ⟨(show (4 + 1 * r9) + 1 ≤ 4 + 1 * (r9 + 1) by omega), (show 8 + (7 + 11) + 40 * ((4 + 1 * r9)) ≤ 40 * (4 + 1 * (r9 + 1)) by omega)⟩ rfl rfl (Nat.le_of_ble_eq_true rfl) (Nat.le_of_ble_eq_true rfl) (fun r9 J_102 hq9 => ?_)
              obtain ⟨z_102, rfl, hz_102, m_102, g_102, h_102⟩ := hq9
              have q_102 := MG.tr q_80 g_102
              have f_102 := g_102.2.2.2
              have l_102 := g_102.1.2
              refine tz_goto (pc := 105) (tgt := 109) dX12_appliedBy_105 (by decide) ?_
              refine tz_istore (pc := 109) (L2 := [_, _, _, _, _, _, _]) dX12_appliedBy_109 (by decide) rfl ?_
              refine tz_aload_n (pc := 111) dX12_appliedBy_111 rfl rfl ?_
              refine tz_iload_n (pc := 112) dX12_appliedBy_112 rfl rfl ?_
              refine tz_iload (pc := 113) dX12_appliedBy_113 rfl ?_
              refine tz_iload (pc := 115) dX12_appliedBy_115 rfl ?_
              refine tz_iload (pc := 117) dX12_appliedBy_117 rfl ?_
              have l0_119 := (q_102).1.2
              have t0_119 := (q_102).1.1.told
              refine tz_cV (pc := 119) (m_remade hl n _ _ _ _ _ (by omega) (by omega) (by omega) (by omega) b r d s m_102 (q_102).1.1 (by omega) (fun q9 => by have e9 := (q_102).ar ht ((q_102).2.2.1.2.2.2 170 rfl); rw [e9]; omega)) vl_X12_152 dX12_appliedBy_119 o_164 rfl rfl (Nat.le_of_ble_eq_true rfl) ⟨(show 3 + 1 ≤ 4 + 1 * (r9 + 1) by omega), (show 8 + (5 + 11) + 40 * (3) ≤ 40 * (4 + 1 * (r9 + 1)) by omega)⟩ rfl rfl (Nat.le_of_ble_eq_true rfl) (Nat.le_of_ble_eq_true rfl) (fun r9 J_119 hq9 => ?_)
              obtain ⟨z_119, rfl, hz_119, m_119, g_119, h_119⟩ := hq9
              have q_119 := MG.tr q_102 g_119
              have f_119 := g_119.2.2.2
              have l_119 := g_119.1.2
              exact tz_iret (pc := 122) (z := z_119) dX12_appliedBy_122 rfl (Nat.le_of_ble_eq_true rfl) (Nat.le_of_ble_eq_true rfl) ⟨Nat.le_refl _, Nat.le_add_right _ _⟩ ⟨_, rfl, (by omega), ⟨m_119, q_119, h_119⟩⟩
    · refine tz_iconst (pc := 7) dX12_appliedBy_7 ?_
      exact tz_iret (pc := 8) (z := 0) dX12_appliedBy_8 rfl (Nat.le_of_ble_eq_true rfl) (Nat.le_of_ble_eq_true rfl) ⟨Nat.le_refl _, Nat.le_add_right _ _⟩ ⟨_, rfl, (by decide), ⟨m, g0, fun q9 => by omega⟩⟩

theorem m_appM {l : Launch} {G : tb_G} (hl : l.stackTraces = false) (n : Nat) (J : zJ) (t : Int) (hr_t : -2147483648 ≤ t ∧ t < 2147483648) (b r d s m : Int) (hM : MS J b r d s m) (ht : 0 ≤ t ∧ t < m) (hy : gOK (J 174) m) : tz_Ok l G M_X12_appliedBy 11 0 0 [.ref 164, zi t, .ref 174] n J (zqi (fun z J' => ∃ m', MG [] [] (fun _ => false) J' J b r d s m m' ∧ (J' 164 21 = 0 → 0 ≤ z ∧ z < m'))) zN := m_appMR hl n 7 J t hr_t b r d s m hM ht hy (by have := (hM.ar ht).2.2.1; omega)
