set_option maxHeartbeats 4000000 in
set_option maxRecDepth 100000 in
theorem m_drawOf {l : Launch} {G : tb_G} (hl : l.stackTraces = false) (n : Nat) (J : zJ) (k : Int) (hr_k : -2147483648 ≤ k ∧ k < 2147483648)  (h0 : 0 < k) : tz_Ok l G M_X12_drawOf 0 0 0 [.ref 164, zi k] n J (zqi (fun z J' => zup J 164 46 (zw (J 164 46 * 1103515245 + 12345)) = J' ∧ (0 ≤ z ∧ z < k))) zN := by
  refine tz_Ok.of hl (by decide +kernel) rfl (tb_c1 rfl) (Nat.le_of_ble_eq_true rfl) ?_
  show tz_At l G M_X12_drawOf (tb_rm 0 0 0) none (tb_ZM G 0 0 (zQ n 0 (zqi (fun z J' => zup J 164 46 (zw (J 164 46 * 1103515245 + 12345)) = J' ∧ (0 ≤ z ∧ z < k)))) (zX n 0 zN)) 0 0 n J 0 [some (.ref 164), some (zi k)] []
  refine tz_aload_n (pc := 0) dX12_drawOf_0 rfl rfl ?_
  refine tz_aload_n (pc := 1) dX12_drawOf_1 rfl rfl ?_
  refine tz_fI (pc := 2) (kz := 46) (v := (J 164 46)) dX12_drawOf_2 fl_X12_423 i_164_46 rfl rfl (fun r_2 => ?_)
  refine tz_ldcw (pc := 5) (z := 1103515245) dX12_drawOf_5 ct_X12_426 (by decide) ?_
  refine tz_imul (pc := 8) (v := (J 164 46) * 1103515245) dX12_drawOf_8 rfl ?_
  refine tz_sipush (pc := 9) dX12_drawOf_9 (by decide) ?_
  refine tz_iadd (pc := 12) (v := ((J 164 46) * 1103515245) + 12345) dX12_drawOf_12 rfl ?_
  refine tz_tw ?_
  have rw_13 := zw_rg (((J 164 46) * 1103515245) + 12345)
  refine tz_pI (pc := 13) (kz := 46) dX12_drawOf_13 fl_X12_423 i_164_46 rfl rfl (zw_rg _) ?_
  refine tz_aload_n (pc := 16) dX12_drawOf_16 rfl rfl ?_
  refine tz_fI (pc := 17) (kz := 46) (v := (zw (((J 164 46) * 1103515245) + 12345))) dX12_drawOf_17 fl_X12_423 i_164_46 rfl rfl (fun r_17 => ?_)
  refine tz_bipush (pc := 20) dX12_drawOf_20 (by decide) ?_
  refine tz_ishr (pc := 22) (v := zshr (zw (((J 164 46) * 1103515245) + 12345)) 16) dX12_drawOf_22 rfl ?_
  refine tz_sipush (pc := 23) dX12_drawOf_23 (by decide) ?_
  refine tz_iand (pc := 26) (v := zand (zshr (zw (((J 164 46) * 1103515245) + 12345)) 16) 32767) dX12_drawOf_26 rfl ?_
  refine tz_iload_n (pc := 27) dX12_drawOf_27 rfl rfl ?_
  have ha9 := z_and (zshr (zw (J 164 46 * 1103515245 + 12345)) 16) (m := 32767) 15 (by decide) (by decide)
  refine tz_irem (pc := 28) (a := (zand (zshr (zw (((J 164 46) * 1103515245) + 12345)) 16) 32767)) (b := k) (v := ((zand (zshr (zw (((J 164 46) * 1103515245) + 12345)) 16) 32767) % k)) dX12_drawOf_28 (by omega) (by omega) rfl ?_
  exact tz_iret (pc := 29) (z := ((zand (zshr (zw (((J 164 46) * 1103515245) + 12345)) 16) 32767) % k)) dX12_drawOf_29 rfl (Nat.le_of_ble_eq_true rfl) (Nat.le_of_ble_eq_true rfl) ⟨Nat.le_refl _, Nat.le_add_right _ _⟩ ⟨_, rfl, (by have := Int.emod_nonneg (zand (zshr (zw (J 164 46 * 1103515245 + 12345)) 16) 32767) (show k ≠ 0 by omega); have := Int.emod_lt_of_pos (zand (zshr (zw (J 164 46 * 1103515245 + 12345)) 16) 32767) h0; omega), ⟨rfl, Int.emod_nonneg _ (by omega), Int.emod_lt_of_pos _ h0⟩⟩

set_option maxHeartbeats 4000000 in
set_option maxRecDepth 100000 in
theorem m_drawnR {l : Launch} {G : tb_G} (hl : l.stackTraces = false) (n : Nat) : ∀ (r9 : Nat) (J : zJ) (x : Int) (hr_x : -2147483648 ≤ x ∧ x < 2147483648) (s m : Int) (hM : MS J 0 0 0 s m) (h9 : J 164 9 = s) (hx : 1 ≤ x), (x.toNat) < r9 → tz_Ok l G M_X12_drawn (6 + 1 * r9) 0 0 [.ref 164, zi x] n J (zqi (fun z J' => ∃ m', MG [] [46] (fun _ => false) J' J 0 0 0 s m m' ∧ (J' 164 21 = 0 → 0 ≤ z ∧ z < m'))) zN := by
  intro r9
  induction r9 with
  | zero => intro J x hr_x s m hM h9 hx hm9; exact absurd hm9 (Nat.not_lt_zero _)
  | succ r9 ih =>
    intro J x hr_x s m hM h9 hx hm9
    refine tz_Ok.of hl (by decide +kernel) rfl (tb_c1 rfl) (Nat.le_of_ble_eq_true rfl) ?_
    show tz_At l G M_X12_drawn (tb_rm (6 + 1 * (r9 + 1)) 0 0) none (tb_ZM G 0 0 (zQ n 0 (zqi (fun z J' => ∃ m', MG [] [46] (fun _ => false) J' J 0 0 0 s m m' ∧ (J' 164 21 = 0 → 0 ≤ z ∧ z < m')))) (zX n 0 zN)) 0 0 n J 0 [some (.ref 164), some (zi x), none, none, none, none, none] []
    have hT := hM.told
    have g0 : MG [] [46] (fun _ => false) J J 0 0 0 s m m := MG.rf hM
    refine tz_aload_n (pc := 0) dX12_drawn_0 rfl rfl ?_
    refine tz_bipush (pc := 1) dX12_drawn_1 (by decide) ?_
    refine tz_cV (pc := 3) (m_drawOf hl n _ _ (by omega) (by omega)) vl_X12_427 dX12_drawn_3 o_164 rfl rfl (Nat.le_of_ble_eq_true rfl) ⟨(show 0 + 1 ≤ 6 + 1 * (r9 + 1) by omega), (show 8 + (2 + 11) + 40 * (0) ≤ 40 * (6 + 1 * (r9 + 1)) by omega)⟩ rfl rfl (Nat.le_of_ble_eq_true rfl) (Nat.le_of_ble_eq_true rfl) (fun r9 J_3 hq9 => ?_)
    obtain ⟨z_3, rfl, hz_3, hj_3, hz_3⟩ := hq9
    have e_3 : zOf (zbut [164]) J_3 J := by rw [← hj_3]; exact zOf.up rfl zOf.rf
    have k_3 : ∀ k, ¬ k = 46 → J_3 164 k = J 164 k := fun k hk => by rw [← hj_3]; exact zup_ne hk
    have q_3 : MG [] [46] (fun _ => false) J_3 J 0 0 0 s m m := (g0).off (fun k hk => k_3 k (by simp at hk; omega)) (fun k _ => congrFun (e_3 165 rfl) k) (e_3.mono (zbut_sub (fun c hc => by simp at hc ⊢; omega))) ⟨rfl, rfl, rfl, rfl⟩ rfl ⟨rfl, rfl, rfl, rfl⟩
    refine tz_istore_n (pc := 6) (L2 := [_, _, _, _, _, _, _]) dX12_drawn_6 rfl (by decide) rfl ?_
    refine tz_iload_n (pc := 7) dX12_drawn_7 rfl rfl ?_
    refine tz_if_eq (pc := 8) (tgt := 23) dX12_drawn_8 (by decide) (by omega) (fun h_8 => ?_) (fun h_8 => ?_)
    · refine tz_aload_n (pc := 23) dX12_drawn_23 rfl rfl ?_
      refine tz_aload_n (pc := 24) dX12_drawn_24 rfl rfl ?_
      refine tz_iconst (pc := 25) dX12_drawn_25 ?_
      refine tz_cV (pc := 26) (m_drawOf hl n _ _ (by omega) (by omega)) vl_X12_427 dX12_drawn_26 o_164 rfl rfl (Nat.le_of_ble_eq_true rfl) ⟨(show 0 + 1 ≤ 6 + 1 * (r9 + 1) by omega), (show 8 + (2 + 11) + 40 * (0) ≤ 40 * (6 + 1 * (r9 + 1)) by omega)⟩ rfl rfl (Nat.le_of_ble_eq_true rfl) (Nat.le_of_ble_eq_true rfl) (fun r9 J_26 hq9 => ?_)
      obtain ⟨z_26, rfl, hz_26, hj_26, hz_26⟩ := hq9
      have e_26 : zOf (zbut [164]) J_26 J_3 := by rw [← hj_26]; exact zOf.up rfl zOf.rf
      have k_26 : ∀ k, ¬ k = 46 → J_26 164 k = J_3 164 k := fun k hk => by rw [← hj_26]; exact zup_ne hk
      have q_26 : MG [] [46] (fun _ => false) J_26 J 0 0 0 s m m := (q_3).off (fun k hk => k_26 k (by simp at hk; omega)) (fun k _ => congrFun (e_26 165 rfl) k) (e_26.mono (zbut_sub (fun c hc => by simp at hc ⊢; omega))) ⟨rfl, rfl, rfl, rfl⟩ rfl ⟨rfl, rfl, rfl, rfl⟩
      have l0_29 := (q_26).1.2
      have t0_29 := (q_26).1.1.told
      refine tz_cV (pc := 29) (m_varTerm hl n _ _ (by omega) 0 0 0 s m (q_26).1.1 (by omega)) vl_X12_180 dX12_drawn_29 o_164 rfl rfl (Nat.le_of_ble_eq_true rfl) ⟨(show 3 + 1 ≤ 6 + 1 * (r9 + 1) by omega), (show 8 + (2 + 11) + 40 * (3) ≤ 40 * (6 + 1 * (r9 + 1)) by omega)⟩ rfl rfl (Nat.le_of_ble_eq_true rfl) (Nat.le_of_ble_eq_true rfl) (fun r9 J_29 hq9 => ?_)
      obtain ⟨z_29, rfl, hz_29, m_29, g_29, h_29⟩ := hq9
      have q_29 := MG.tr q_26 (MG.mono g_29 (fun _ h => by simp at h) (fun _ h => by simp at h) (fun _ h => h))
      have f_29 := g_29.2.2.2
      have l_29 := g_29.1.2
      exact tz_iret (pc := 32) (z := z_29) dX12_drawn_32 rfl (Nat.le_of_ble_eq_true rfl) (Nat.le_of_ble_eq_true rfl) ⟨Nat.le_refl _, Nat.le_add_right _ _⟩ ⟨_, rfl, (by omega), ⟨m_29, q_29, h_29⟩⟩
    · refine tz_iload_n (pc := 11) dX12_drawn_11 rfl rfl ?_
      refine tz_iconst (pc := 12) dX12_drawn_12 ?_
      refine tz_icmp_eq (pc := 13) (tgt := 23) dX12_drawn_13 (by decide) (by omega) (by decide) (fun h_13 => ?_) (fun h_13 => ?_)
      · refine tz_aload_n (pc := 23) dX12_drawn_23 rfl rfl ?_
        refine tz_aload_n (pc := 24) dX12_drawn_24 rfl rfl ?_
        refine tz_iconst (pc := 25) dX12_drawn_25 ?_
        refine tz_cV (pc := 26) (m_drawOf hl n _ _ (by omega) (by omega)) vl_X12_427 dX12_drawn_26 o_164 rfl rfl (Nat.le_of_ble_eq_true rfl) ⟨(show 0 + 1 ≤ 6 + 1 * (r9 + 1) by omega), (show 8 + (2 + 11) + 40 * (0) ≤ 40 * (6 + 1 * (r9 + 1)) by omega)⟩ rfl rfl (Nat.le_of_ble_eq_true rfl) (Nat.le_of_ble_eq_true rfl) (fun r9 J_26 hq9 => ?_)
        obtain ⟨z_26, rfl, hz_26, hj_26, hz_26⟩ := hq9
        have e_26 : zOf (zbut [164]) J_26 J_3 := by rw [← hj_26]; exact zOf.up rfl zOf.rf
        have k_26 : ∀ k, ¬ k = 46 → J_26 164 k = J_3 164 k := fun k hk => by rw [← hj_26]; exact zup_ne hk
        have q_26 : MG [] [46] (fun _ => false) J_26 J 0 0 0 s m m := (q_3).off (fun k hk => k_26 k (by simp at hk; omega)) (fun k _ => congrFun (e_26 165 rfl) k) (e_26.mono (zbut_sub (fun c hc => by simp at hc ⊢; omega))) ⟨rfl, rfl, rfl, rfl⟩ rfl ⟨rfl, rfl, rfl, rfl⟩
        have l0_29 := (q_26).1.2
        have t0_29 := (q_26).1.1.told
        refine tz_cV (pc := 29) (m_varTerm hl n _ _ (by omega) 0 0 0 s m (q_26).1.1 (by omega)) vl_X12_180 dX12_drawn_29 o_164 rfl rfl (Nat.le_of_ble_eq_true rfl) ⟨(show 3 + 1 ≤ 6 + 1 * (r9 + 1) by omega), (show 8 + (2 + 11) + 40 * (3) ≤ 40 * (6 + 1 * (r9 + 1)) by omega)⟩ rfl rfl (Nat.le_of_ble_eq_true rfl) (Nat.le_of_ble_eq_true rfl) (fun r9 J_29 hq9 => ?_)
        obtain ⟨z_29, rfl, hz_29, m_29, g_29, h_29⟩ := hq9
        have q_29 := MG.tr q_26 (MG.mono g_29 (fun _ h => by simp at h) (fun _ h => by simp at h) (fun _ h => h))
        have f_29 := g_29.2.2.2
        have l_29 := g_29.1.2
        exact tz_iret (pc := 32) (z := z_29) dX12_drawn_32 rfl (Nat.le_of_ble_eq_true rfl) (Nat.le_of_ble_eq_true rfl) ⟨Nat.le_refl _, Nat.le_add_right _ _⟩ ⟨_, rfl, (by omega), ⟨m_29, q_29, h_29⟩⟩
      · refine tz_aload_n (pc := 16) dX12_drawn_16 rfl rfl ?_
        refine tz_fI (pc := 17) (kz := 9) (v := s) dX12_drawn_17 fl_X12_347 i_164_9 rfl (Eq.trans (k_3 9 (by decide)) h9) (fun r_17 => ?_)
        refine tz_if_ne (pc := 20) (tgt := 33) dX12_drawn_20 (by decide) (by omega) (fun h_20 => ?_) (fun h_20 => ?_)
        · refine tz_aload_n (pc := 33) dX12_drawn_33 rfl rfl ?_
          refine tz_aload_n (pc := 34) dX12_drawn_34 rfl rfl ?_
          refine tz_fI (pc := 35) (kz := 9) (v := s) dX12_drawn_35 fl_X12_347 i_164_9 rfl (Eq.trans (k_3 9 (by decide)) h9) (fun r_35 => ?_)
          refine tz_cV (pc := 38) (m_drawOf hl n _ _ (by omega) (by omega)) vl_X12_427 dX12_drawn_38 o_164 rfl rfl (Nat.le_of_ble_eq_true rfl) ⟨(show 0 + 1 ≤ 6 + 1 * (r9 + 1) by omega), (show 8 + (2 + 11) + 40 * (0) ≤ 40 * (6 + 1 * (r9 + 1)) by omega)⟩ rfl rfl (Nat.le_of_ble_eq_true rfl) (Nat.le_of_ble_eq_true rfl) (fun r9 J_38 hq9 => ?_)
          obtain ⟨z_38, rfl, hz_38, hj_38, hz_38⟩ := hq9
          have e_38 : zOf (zbut [164]) J_38 J_3 := by rw [← hj_38]; exact zOf.up rfl zOf.rf
          have k_38 : ∀ k, ¬ k = 46 → J_38 164 k = J_3 164 k := fun k hk => by rw [← hj_38]; exact zup_ne hk
          have q_38 : MG [] [46] (fun _ => false) J_38 J 0 0 0 s m m := (q_3).off (fun k hk => k_38 k (by simp at hk; omega)) (fun k _ => congrFun (e_38 165 rfl) k) (e_38.mono (zbut_sub (fun c hc => by simp at hc ⊢; omega))) ⟨rfl, rfl, rfl, rfl⟩ rfl ⟨rfl, rfl, rfl, rfl⟩
          refine tz_istore_n (pc := 41) (L2 := [_, _, _, _, _, _, _]) dX12_drawn_41 rfl (by decide) rfl ?_
          refine tz_aload_n (pc := 42) dX12_drawn_42 rfl rfl ?_
          refine tz_fR (pc := 43) dX12_drawn_43 fl_X12_25 r_164_5 ?_
          refine tz_iload_n (pc := 46) dX12_drawn_46 rfl rfl ?_
          have hA := hM.2.2.2.2.2.1.2 z_38 (by omega) (by omega)
          simp only [Int.zero_add] at hA
          refine tz_aL (pc := 47) (z := z_38) (v := (J 170 z_38)) dX12_drawn_47 a_170 rfl (by omega) (Eq.trans (congrFun (e_38 170 rfl) z_38) (Eq.trans (congrFun (e_3 170 rfl) z_38) rfl)) (fun r_47 => ?_)
          refine tz_if_le (pc := 48) (tgt := 61) dX12_drawn_48 (by decide) (by omega) (fun h_48 => ?_) (fun h_48 => ?_)
          · refine tz_iconst (pc := 61) dX12_drawn_61 ?_
            refine tz_istore (pc := 62) (L2 := [_, _, _, _, _, _, _]) dX12_drawn_62 (by decide) rfl ?_
            refine tz_aload_n (pc := 64) dX12_drawn_64 rfl rfl ?_
            refine tz_fR (pc := 65) dX12_drawn_65 fl_X12_25 r_164_5 ?_
            refine tz_iload_n (pc := 68) dX12_drawn_68 rfl rfl ?_
            refine tz_aL (pc := 69) (z := z_38) (v := (J 170 z_38)) dX12_drawn_69 a_170 rfl (by omega) (Eq.trans (congrFun (e_38 170 rfl) z_38) (Eq.trans (congrFun (e_3 170 rfl) z_38) rfl)) (fun r_69 => ?_)
            refine tz_iconst (pc := 70) dX12_drawn_70 ?_
            refine tz_icmp_le (pc := 71) (tgt := 84) dX12_drawn_71 (by decide) (by omega) (by decide) (fun h_71 => ?_) (fun h_71 => ?_)
            · refine tz_iconst (pc := 84) dX12_drawn_84 ?_
              refine tz_istore (pc := 85) (L2 := [_, _, _, _, _, _, _]) dX12_drawn_85 (by decide) rfl ?_
              refine tz_aload_n (pc := 87) dX12_drawn_87 rfl rfl ?_
              refine tz_fR (pc := 88) dX12_drawn_88 fl_X12_25 r_164_5 ?_
              refine tz_iload_n (pc := 91) dX12_drawn_91 rfl rfl ?_
              refine tz_aL (pc := 92) (z := z_38) (v := (J 170 z_38)) dX12_drawn_92 a_170 rfl (by omega) (Eq.trans (congrFun (e_38 170 rfl) z_38) (Eq.trans (congrFun (e_3 170 rfl) z_38) rfl)) (fun r_92 => ?_)
              refine tz_iconst (pc := 93) dX12_drawn_93 ?_
              refine tz_icmp_le (pc := 94) (tgt := 107) dX12_drawn_94 (by decide) (by omega) (by decide) (fun h_94 => ?_) (fun h_94 => ?_)
              · refine tz_iconst (pc := 107) dX12_drawn_107 ?_
                refine tz_istore (pc := 108) (L2 := [_, _, _, _, _, _, _]) dX12_drawn_108 (by decide) rfl ?_
                refine tz_aload_n (pc := 110) dX12_drawn_110 rfl rfl ?_
                refine tz_iload_n (pc := 111) dX12_drawn_111 rfl rfl ?_
                refine tz_iload (pc := 112) dX12_drawn_112 rfl ?_
                refine tz_iload (pc := 114) dX12_drawn_114 rfl ?_
                refine tz_iload (pc := 116) dX12_drawn_116 rfl ?_
                have l0_118 := (q_38).1.2
                have t0_118 := (q_38).1.1.told
                refine tz_cV (pc := 118) (m_termOf hl n _ _ _ _ _ (by omega) (by omega) (by omega) (by omega) 0 0 0 s m (q_38).1.1 (by omega) (fun q9 => by simp only [arh_pos (show 0 ≤ z_38 by omega), Int.zero_add, (q_38).2.2.1.2.2.2 170 rfl]; omega)) vl_X12_107 dX12_drawn_118 o_164 rfl rfl (Nat.le_of_ble_eq_true rfl) ⟨(show 2 + 1 ≤ 6 + 1 * (r9 + 1) by omega), (show 8 + (8 + 11) + 40 * (2) ≤ 40 * (6 + 1 * (r9 + 1)) by omega)⟩ rfl rfl (Nat.le_of_ble_eq_true rfl) (Nat.le_of_ble_eq_true rfl) (fun r9 J_118 hq9 => ?_)
                obtain ⟨z_118, rfl, hz_118, m_118, g_118, h_118⟩ := hq9
                have q_118 := MG.tr q_38 (MG.mono g_118 (fun _ h => by simp at h) (fun _ h => by simp at h) (fun _ h => h))
                have f_118 := g_118.2.2.2
                have l_118 := g_118.1.2
                exact tz_iret (pc := 121) (z := z_118) dX12_drawn_121 rfl (Nat.le_of_ble_eq_true rfl) (Nat.le_of_ble_eq_true rfl) ⟨Nat.le_refl _, Nat.le_add_right _ _⟩ ⟨_, rfl, (by omega), ⟨m_118, q_118, h_118⟩⟩
              · refine tz_aload_n (pc := 97) dX12_drawn_97 rfl rfl ?_
                refine tz_iload_n (pc := 98) dX12_drawn_98 rfl rfl ?_
                refine tz_iconst (pc := 99) dX12_drawn_99 ?_
                refine tz_isub (pc := 100) (v := x - 1) dX12_drawn_100 rfl ?_
                have l0_101 := (q_38).1.2
                have t0_101 := (q_38).1.1.told
                refine tz_cV (pc := 101) (ih _ _ (by omega) s m (q_38).1.1 (by rw [(q_38).2.2.1.2.2.1 9 (by decide)]; exact h9) (by omega) (by omega)) vl_X12_430 dX12_drawn_101 o_164 rfl rfl (Nat.le_of_ble_eq_true rfl) ⟨(show (6 + 1 * r9) + 1 ≤ 6 + 1 * (r9 + 1) by omega), (show 8 + (7 + 11) + 40 * ((6 + 1 * r9)) ≤ 40 * (6 + 1 * (r9 + 1)) by omega)⟩ rfl rfl (Nat.le_of_ble_eq_true rfl) (Nat.le_of_ble_eq_true rfl) (fun r9 J_101 hq9 => ?_)
                obtain ⟨z_101, rfl, hz_101, m_101, g_101, h_101⟩ := hq9
                have q_101 := MG.tr q_38 g_101
                have f_101 := g_101.2.2.2
                have l_101 := g_101.1.2
                refine tz_goto (pc := 104) (tgt := 108) dX12_drawn_104 (by decide) ?_
                refine tz_istore (pc := 108) (L2 := [_, _, _, _, _, _, _]) dX12_drawn_108 (by decide) rfl ?_
                refine tz_aload_n (pc := 110) dX12_drawn_110 rfl rfl ?_
                refine tz_iload_n (pc := 111) dX12_drawn_111 rfl rfl ?_
                refine tz_iload (pc := 112) dX12_drawn_112 rfl ?_
                refine tz_iload (pc := 114) dX12_drawn_114 rfl ?_
                refine tz_iload (pc := 116) dX12_drawn_116 rfl ?_
                have l0_118 := (q_101).1.2
                have t0_118 := (q_101).1.1.told
                refine tz_cV (pc := 118) (m_termOf hl n _ _ _ _ _ (by omega) (by omega) (by omega) (by omega) 0 0 0 s m_101 (q_101).1.1 (by omega) (fun q9 => by simp only [arh_pos (show 0 ≤ z_38 by omega), Int.zero_add, (q_101).2.2.1.2.2.2 170 rfl]; omega)) vl_X12_107 dX12_drawn_118 o_164 rfl rfl (Nat.le_of_ble_eq_true rfl) ⟨(show 2 + 1 ≤ 6 + 1 * (r9 + 1) by omega), (show 8 + (8 + 11) + 40 * (2) ≤ 40 * (6 + 1 * (r9 + 1)) by omega)⟩ rfl rfl (Nat.le_of_ble_eq_true rfl) (Nat.le_of_ble_eq_true rfl) (fun r9 J_118 hq9 => ?_)
                obtain ⟨z_118, rfl, hz_118, m_118, g_118, h_118⟩ := hq9
                have q_118 := MG.tr q_101 (MG.mono g_118 (fun _ h => by simp at h) (fun _ h => by simp at h) (fun _ h => h))
                have f_118 := g_118.2.2.2
                have l_118 := g_118.1.2
                exact tz_iret (pc := 121) (z := z_118) dX12_drawn_121 rfl (Nat.le_of_ble_eq_true rfl) (Nat.le_of_ble_eq_true rfl) ⟨Nat.le_refl _, Nat.le_add_right _ _⟩ ⟨_, rfl, (by omega), ⟨m_118, q_118, h_118⟩⟩
            · refine tz_aload_n (pc := 74) dX12_drawn_74 rfl rfl ?_
              refine tz_iload_n (pc := 75) dX12_drawn_75 rfl rfl ?_
              refine tz_iconst (pc := 76) dX12_drawn_76 ?_
              refine tz_isub (pc := 77) (v := x - 1) dX12_drawn_77 rfl ?_
              have l0_78 := (q_38).1.2
              have t0_78 := (q_38).1.1.told
              refine tz_cV (pc := 78) (ih _ _ (by omega) s m (q_38).1.1 (by rw [(q_38).2.2.1.2.2.1 9 (by decide)]; exact h9) (by omega) (by omega)) vl_X12_430 dX12_drawn_78 o_164 rfl rfl (Nat.le_of_ble_eq_true rfl) ⟨(show (6 + 1 * r9) + 1 ≤ 6 + 1 * (r9 + 1) by omega), (show 8 + (7 + 11) + 40 * ((6 + 1 * r9)) ≤ 40 * (6 + 1 * (r9 + 1)) by omega)⟩ rfl rfl (Nat.le_of_ble_eq_true rfl) (Nat.le_of_ble_eq_true rfl) (fun r9 J_78 hq9 => ?_)
              obtain ⟨z_78, rfl, hz_78, m_78, g_78, h_78⟩ := hq9
              have q_78 := MG.tr q_38 g_78
              have f_78 := g_78.2.2.2
              have l_78 := g_78.1.2
              refine tz_goto (pc := 81) (tgt := 85) dX12_drawn_81 (by decide) ?_
              refine tz_istore (pc := 85) (L2 := [_, _, _, _, _, _, _]) dX12_drawn_85 (by decide) rfl ?_
              refine tz_aload_n (pc := 87) dX12_drawn_87 rfl rfl ?_
              refine tz_fR (pc := 88) dX12_drawn_88 fl_X12_25 r_164_5 ?_
              refine tz_iload_n (pc := 91) dX12_drawn_91 rfl rfl ?_
              refine tz_aL (pc := 92) (z := z_38) (v := (J 170 z_38)) dX12_drawn_92 a_170 rfl (by omega) (Eq.trans (congrFun (g_78.2.2.1.2.2.2 170 rfl) z_38) (Eq.trans (congrFun (e_38 170 rfl) z_38) (Eq.trans (congrFun (e_3 170 rfl) z_38) rfl))) (fun r_92 => ?_)
              refine tz_iconst (pc := 93) dX12_drawn_93 ?_
              refine tz_icmp_le (pc := 94) (tgt := 107) dX12_drawn_94 (by decide) (by omega) (by decide) (fun h_94 => ?_) (fun h_94 => ?_)
              · refine tz_iconst (pc := 107) dX12_drawn_107 ?_
                refine tz_istore (pc := 108) (L2 := [_, _, _, _, _, _, _]) dX12_drawn_108 (by decide) rfl ?_
                refine tz_aload_n (pc := 110) dX12_drawn_110 rfl rfl ?_
                refine tz_iload_n (pc := 111) dX12_drawn_111 rfl rfl ?_
                refine tz_iload (pc := 112) dX12_drawn_112 rfl ?_
                refine tz_iload (pc := 114) dX12_drawn_114 rfl ?_
                refine tz_iload (pc := 116) dX12_drawn_116 rfl ?_
                have l0_118 := (q_78).1.2
                have t0_118 := (q_78).1.1.told
                refine tz_cV (pc := 118) (m_termOf hl n _ _ _ _ _ (by omega) (by omega) (by omega) (by omega) 0 0 0 s m_78 (q_78).1.1 (by omega) (fun q9 => by simp only [arh_pos (show 0 ≤ z_38 by omega), Int.zero_add, (q_78).2.2.1.2.2.2 170 rfl]; omega)) vl_X12_107 dX12_drawn_118 o_164 rfl rfl (Nat.le_of_ble_eq_true rfl) ⟨(show 2 + 1 ≤ 6 + 1 * (r9 + 1) by omega), (show 8 + (8 + 11) + 40 * (2) ≤ 40 * (6 + 1 * (r9 + 1)) by omega)⟩ rfl rfl (Nat.le_of_ble_eq_true rfl) (Nat.le_of_ble_eq_true rfl) (fun r9 J_118 hq9 => ?_)
                obtain ⟨z_118, rfl, hz_118, m_118, g_118, h_118⟩ := hq9
                have q_118 := MG.tr q_78 (MG.mono g_118 (fun _ h => by simp at h) (fun _ h => by simp at h) (fun _ h => h))
                have f_118 := g_118.2.2.2
                have l_118 := g_118.1.2
                exact tz_iret (pc := 121) (z := z_118) dX12_drawn_121 rfl (Nat.le_of_ble_eq_true rfl) (Nat.le_of_ble_eq_true rfl) ⟨Nat.le_refl _, Nat.le_add_right _ _⟩ ⟨_, rfl, (by omega), ⟨m_118, q_118, h_118⟩⟩
              · refine tz_aload_n (pc := 97) dX12_drawn_97 rfl rfl ?_
                refine tz_iload_n (pc := 98) dX12_drawn_98 rfl rfl ?_
                refine tz_iconst (pc := 99) dX12_drawn_99 ?_
                refine tz_isub (pc := 100) (v := x - 1) dX12_drawn_100 rfl ?_
                have l0_101 := (q_78).1.2
                have t0_101 := (q_78).1.1.told
                refine tz_cV (pc := 101) (ih _ _ (by omega) s m_78 (q_78).1.1 (by rw [(q_78).2.2.1.2.2.1 9 (by decide)]; exact h9) (by omega) (by omega)) vl_X12_430 dX12_drawn_101 o_164 rfl rfl (Nat.le_of_ble_eq_true rfl) ⟨(show (6 + 1 * r9) + 1 ≤ 6 + 1 * (r9 + 1) by omega), (show 8 + (7 + 11) + 40 * ((6 + 1 * r9)) ≤ 40 * (6 + 1 * (r9 + 1)) by omega)⟩ rfl rfl (Nat.le_of_ble_eq_true rfl) (Nat.le_of_ble_eq_true rfl) (fun r9 J_101 hq9 => ?_)
                obtain ⟨z_101, rfl, hz_101, m_101, g_101, h_101⟩ := hq9
                have q_101 := MG.tr q_78 g_101
                have f_101 := g_101.2.2.2
                have l_101 := g_101.1.2
                refine tz_goto (pc := 104) (tgt := 108) dX12_drawn_104 (by decide) ?_
                refine tz_istore (pc := 108) (L2 := [_, _, _, _, _, _, _]) dX12_drawn_108 (by decide) rfl ?_
                refine tz_aload_n (pc := 110) dX12_drawn_110 rfl rfl ?_
                refine tz_iload_n (pc := 111) dX12_drawn_111 rfl rfl ?_
                refine tz_iload (pc := 112) dX12_drawn_112 rfl ?_
                refine tz_iload (pc := 114) dX12_drawn_114 rfl ?_
                refine tz_iload (pc := 116) dX12_drawn_116 rfl ?_
                have l0_118 := (q_101).1.2
                have t0_118 := (q_101).1.1.told
                refine tz_cV (pc := 118) (m_termOf hl n _ _ _ _ _ (by omega) (by omega) (by omega) (by omega) 0 0 0 s m_101 (q_101).1.1 (by omega) (fun q9 => by simp only [arh_pos (show 0 ≤ z_38 by omega), Int.zero_add, (q_101).2.2.1.2.2.2 170 rfl]; omega)) vl_X12_107 dX12_drawn_118 o_164 rfl rfl (Nat.le_of_ble_eq_true rfl) ⟨(show 2 + 1 ≤ 6 + 1 * (r9 + 1) by omega), (show 8 + (8 + 11) + 40 * (2) ≤ 40 * (6 + 1 * (r9 + 1)) by omega)⟩ rfl rfl (Nat.le_of_ble_eq_true rfl) (Nat.le_of_ble_eq_true rfl) (fun r9 J_118 hq9 => ?_)
                obtain ⟨z_118, rfl, hz_118, m_118, g_118, h_118⟩ := hq9
                have q_118 := MG.tr q_101 (MG.mono g_118 (fun _ h => by simp at h) (fun _ h => by simp at h) (fun _ h => h))
                have f_118 := g_118.2.2.2
                have l_118 := g_118.1.2
                exact tz_iret (pc := 121) (z := z_118) dX12_drawn_121 rfl (Nat.le_of_ble_eq_true rfl) (Nat.le_of_ble_eq_true rfl) ⟨Nat.le_refl _, Nat.le_add_right _ _⟩ ⟨_, rfl, (by omega), ⟨m_118, q_118, h_118⟩⟩
          · refine tz_aload_n (pc := 51) dX12_drawn_51 rfl rfl ?_
            refine tz_iload_n (pc := 52) dX12_drawn_52 rfl rfl ?_
            refine tz_iconst (pc := 53) dX12_drawn_53 ?_
            refine tz_isub (pc := 54) (v := x - 1) dX12_drawn_54 rfl ?_
            have l0_55 := (q_38).1.2
            have t0_55 := (q_38).1.1.told
            refine tz_cV (pc := 55) (ih _ _ (by omega) s m (q_38).1.1 (by rw [(q_38).2.2.1.2.2.1 9 (by decide)]; exact h9) (by omega) (by omega)) vl_X12_430 dX12_drawn_55 o_164 rfl rfl (Nat.le_of_ble_eq_true rfl) ⟨(show (6 + 1 * r9) + 1 ≤ 6 + 1 * (r9 + 1) by omega), (show 8 + (7 + 11) + 40 * ((6 + 1 * r9)) ≤ 40 * (6 + 1 * (r9 + 1)) by omega)⟩ rfl rfl (Nat.le_of_ble_eq_true rfl) (Nat.le_of_ble_eq_true rfl) (fun r9 J_55 hq9 => ?_)
            obtain ⟨z_55, rfl, hz_55, m_55, g_55, h_55⟩ := hq9
            have q_55 := MG.tr q_38 g_55
            have f_55 := g_55.2.2.2
            have l_55 := g_55.1.2
            refine tz_goto (pc := 58) (tgt := 62) dX12_drawn_58 (by decide) ?_
            refine tz_istore (pc := 62) (L2 := [_, _, _, _, _, _, _]) dX12_drawn_62 (by decide) rfl ?_
            refine tz_aload_n (pc := 64) dX12_drawn_64 rfl rfl ?_
            refine tz_fR (pc := 65) dX12_drawn_65 fl_X12_25 r_164_5 ?_
            refine tz_iload_n (pc := 68) dX12_drawn_68 rfl rfl ?_
            refine tz_aL (pc := 69) (z := z_38) (v := (J 170 z_38)) dX12_drawn_69 a_170 rfl (by omega) (Eq.trans (congrFun (g_55.2.2.1.2.2.2 170 rfl) z_38) (Eq.trans (congrFun (e_38 170 rfl) z_38) (Eq.trans (congrFun (e_3 170 rfl) z_38) rfl))) (fun r_69 => ?_)
            refine tz_iconst (pc := 70) dX12_drawn_70 ?_
            refine tz_icmp_le (pc := 71) (tgt := 84) dX12_drawn_71 (by decide) (by omega) (by decide) (fun h_71 => ?_) (fun h_71 => ?_)
            · refine tz_iconst (pc := 84) dX12_drawn_84 ?_
              refine tz_istore (pc := 85) (L2 := [_, _, _, _, _, _, _]) dX12_drawn_85 (by decide) rfl ?_
              refine tz_aload_n (pc := 87) dX12_drawn_87 rfl rfl ?_
              refine tz_fR (pc := 88) dX12_drawn_88 fl_X12_25 r_164_5 ?_
              refine tz_iload_n (pc := 91) dX12_drawn_91 rfl rfl ?_
              refine tz_aL (pc := 92) (z := z_38) (v := (J 170 z_38)) dX12_drawn_92 a_170 rfl (by omega) (Eq.trans (congrFun (g_55.2.2.1.2.2.2 170 rfl) z_38) (Eq.trans (congrFun (e_38 170 rfl) z_38) (Eq.trans (congrFun (e_3 170 rfl) z_38) rfl))) (fun r_92 => ?_)
              refine tz_iconst (pc := 93) dX12_drawn_93 ?_
              refine tz_icmp_le (pc := 94) (tgt := 107) dX12_drawn_94 (by decide) (by omega) (by decide) (fun h_94 => ?_) (fun h_94 => ?_)
              · refine tz_iconst (pc := 107) dX12_drawn_107 ?_
                refine tz_istore (pc := 108) (L2 := [_, _, _, _, _, _, _]) dX12_drawn_108 (by decide) rfl ?_
                refine tz_aload_n (pc := 110) dX12_drawn_110 rfl rfl ?_
                refine tz_iload_n (pc := 111) dX12_drawn_111 rfl rfl ?_
                refine tz_iload (pc := 112) dX12_drawn_112 rfl ?_
                refine tz_iload (pc := 114) dX12_drawn_114 rfl ?_
                refine tz_iload (pc := 116) dX12_drawn_116 rfl ?_
                have l0_118 := (q_55).1.2
                have t0_118 := (q_55).1.1.told
                refine tz_cV (pc := 118) (m_termOf hl n _ _ _ _ _ (by omega) (by omega) (by omega) (by omega) 0 0 0 s m_55 (q_55).1.1 (by omega) (fun q9 => by simp only [arh_pos (show 0 ≤ z_38 by omega), Int.zero_add, (q_55).2.2.1.2.2.2 170 rfl]; omega)) vl_X12_107 dX12_drawn_118 o_164 rfl rfl (Nat.le_of_ble_eq_true rfl) ⟨(show 2 + 1 ≤ 6 + 1 * (r9 + 1) by omega), (show 8 + (8 + 11) + 40 * (2) ≤ 40 * (6 + 1 * (r9 + 1)) by omega)⟩ rfl rfl (Nat.le_of_ble_eq_true rfl) (Nat.le_of_ble_eq_true rfl) (fun r9 J_118 hq9 => ?_)
                obtain ⟨z_118, rfl, hz_118, m_118, g_118, h_118⟩ := hq9
                have q_118 := MG.tr q_55 (MG.mono g_118 (fun _ h => by simp at h) (fun _ h => by simp at h) (fun _ h => h))
                have f_118 := g_118.2.2.2
                have l_118 := g_118.1.2
                exact tz_iret (pc := 121) (z := z_118) dX12_drawn_121 rfl (Nat.le_of_ble_eq_true rfl) (Nat.le_of_ble_eq_true rfl) ⟨Nat.le_refl _, Nat.le_add_right _ _⟩ ⟨_, rfl, (by omega), ⟨m_118, q_118, h_118⟩⟩
              · refine tz_aload_n (pc := 97) dX12_drawn_97 rfl rfl ?_
                refine tz_iload_n (pc := 98) dX12_drawn_98 rfl rfl ?_
                refine tz_iconst (pc := 99) dX12_drawn_99 ?_
                refine tz_isub (pc := 100) (v := x - 1) dX12_drawn_100 rfl ?_
                have l0_101 := (q_55).1.2
                have t0_101 := (q_55).1.1.told
                refine tz_cV (pc := 101) (ih _ _ (by omega) s m_55 (q_55).1.1 (by rw [(q_55).2.2.1.2.2.1 9 (by decide)]; exact h9) (by omega) (by omega)) vl_X12_430 dX12_drawn_101 o_164 rfl rfl (Nat.le_of_ble_eq_true rfl) ⟨(show (6 + 1 * r9) + 1 ≤ 6 + 1 * (r9 + 1) by omega), (show 8 + (7 + 11) + 40 * ((6 + 1 * r9)) ≤ 40 * (6 + 1 * (r9 + 1)) by omega)⟩ rfl rfl (Nat.le_of_ble_eq_true rfl) (Nat.le_of_ble_eq_true rfl) (fun r9 J_101 hq9 => ?_)
                obtain ⟨z_101, rfl, hz_101, m_101, g_101, h_101⟩ := hq9
                have q_101 := MG.tr q_55 g_101
                have f_101 := g_101.2.2.2
                have l_101 := g_101.1.2
                refine tz_goto (pc := 104) (tgt := 108) dX12_drawn_104 (by decide) ?_
                refine tz_istore (pc := 108) (L2 := [_, _, _, _, _, _, _]) dX12_drawn_108 (by decide) rfl ?_
                refine tz_aload_n (pc := 110) dX12_drawn_110 rfl rfl ?_
                refine tz_iload_n (pc := 111) dX12_drawn_111 rfl rfl ?_
                refine tz_iload (pc := 112) dX12_drawn_112 rfl ?_
                refine tz_iload (pc := 114) dX12_drawn_114 rfl ?_
                refine tz_iload (pc := 116) dX12_drawn_116 rfl ?_
                have l0_118 := (q_101).1.2
                have t0_118 := (q_101).1.1.told
                refine tz_cV (pc := 118) (m_termOf hl n _ _ _ _ _ (by omega) (by omega) (by omega) (by omega) 0 0 0 s m_101 (q_101).1.1 (by omega) (fun q9 => by simp only [arh_pos (show 0 ≤ z_38 by omega), Int.zero_add, (q_101).2.2.1.2.2.2 170 rfl]; omega)) vl_X12_107 dX12_drawn_118 o_164 rfl rfl (Nat.le_of_ble_eq_true rfl) ⟨(show 2 + 1 ≤ 6 + 1 * (r9 + 1) by omega), (show 8 + (8 + 11) + 40 * (2) ≤ 40 * (6 + 1 * (r9 + 1)) by omega)⟩ rfl rfl (Nat.le_of_ble_eq_true rfl) (Nat.le_of_ble_eq_true rfl) (fun r9 J_118 hq9 => ?_)
                obtain ⟨z_118, rfl, hz_118, m_118, g_118, h_118⟩ := hq9
                have q_118 := MG.tr q_101 (MG.mono g_118 (fun _ h => by simp at h) (fun _ h => by simp at h) (fun _ h => h))
                have f_118 := g_118.2.2.2
                have l_118 := g_118.1.2
                exact tz_iret (pc := 121) (z := z_118) dX12_drawn_121 rfl (Nat.le_of_ble_eq_true rfl) (Nat.le_of_ble_eq_true rfl) ⟨Nat.le_refl _, Nat.le_add_right _ _⟩ ⟨_, rfl, (by omega), ⟨m_118, q_118, h_118⟩⟩
            · refine tz_aload_n (pc := 74) dX12_drawn_74 rfl rfl ?_
              refine tz_iload_n (pc := 75) dX12_drawn_75 rfl rfl ?_
              refine tz_iconst (pc := 76) dX12_drawn_76 ?_
              refine tz_isub (pc := 77) (v := x - 1) dX12_drawn_77 rfl ?_
              have l0_78 := (q_55).1.2
              have t0_78 := (q_55).1.1.told
              refine tz_cV (pc := 78) (ih _ _ (by omega) s m_55 (q_55).1.1 (by rw [(q_55).2.2.1.2.2.1 9 (by decide)]; exact h9) (by omega) (by omega)) vl_X12_430 dX12_drawn_78 o_164 rfl rfl (Nat.le_of_ble_eq_true rfl) ⟨(show (6 + 1 * r9) + 1 ≤ 6 + 1 * (r9 + 1) by omega), (show 8 + (7 + 11) + 40 * ((6 + 1 * r9)) ≤ 40 * (6 + 1 * (r9 + 1)) by omega)⟩ rfl rfl (Nat.le_of_ble_eq_true rfl) (Nat.le_of_ble_eq_true rfl) (fun r9 J_78 hq9 => ?_)
              obtain ⟨z_78, rfl, hz_78, m_78, g_78, h_78⟩ := hq9
              have q_78 := MG.tr q_55 g_78
              have f_78 := g_78.2.2.2
              have l_78 := g_78.1.2
              refine tz_goto (pc := 81) (tgt := 85) dX12_drawn_81 (by decide) ?_
              refine tz_istore (pc := 85) (L2 := [_, _, _, _, _, _, _]) dX12_drawn_85 (by decide) rfl ?_
              refine tz_aload_n (pc := 87) dX12_drawn_87 rfl rfl ?_
              refine tz_fR (pc := 88) dX12_drawn_88 fl_X12_25 r_164_5 ?_
              refine tz_iload_n (pc := 91) dX12_drawn_91 rfl rfl ?_
              refine tz_aL (pc := 92) (z := z_38) (v := (J 170 z_38)) dX12_drawn_92 a_170 rfl (by omega) (Eq.trans (congrFun (g_78.2.2.1.2.2.2 170 rfl) z_38) (Eq.trans (congrFun (g_55.2.2.1.2.2.2 170 rfl) z_38) (Eq.trans (congrFun (e_38 170 rfl) z_38) (Eq.trans (congrFun (e_3 170 rfl) z_38) rfl)))) (fun r_92 => ?_)
              refine tz_iconst (pc := 93) dX12_drawn_93 ?_
              refine tz_icmp_le (pc := 94) (tgt := 107) dX12_drawn_94 (by decide) (by omega) (by decide) (fun h_94 => ?_) (fun h_94 => ?_)
              · refine tz_iconst (pc := 107) dX12_drawn_107 ?_
                refine tz_istore (pc := 108) (L2 := [_, _, _, _, _, _, _]) dX12_drawn_108 (by decide) rfl ?_
                refine tz_aload_n (pc := 110) dX12_drawn_110 rfl rfl ?_
                refine tz_iload_n (pc := 111) dX12_drawn_111 rfl rfl ?_
                refine tz_iload (pc := 112) dX12_drawn_112 rfl ?_
                refine tz_iload (pc := 114) dX12_drawn_114 rfl ?_
                refine tz_iload (pc := 116) dX12_drawn_116 rfl ?_
                have l0_118 := (q_78).1.2
                have t0_118 := (q_78).1.1.told
                refine tz_cV (pc := 118) (m_termOf hl n _ _ _ _ _ (by omega) (by omega) (by omega) (by omega) 0 0 0 s m_78 (q_78).1.1 (by omega) (fun q9 => by simp only [arh_pos (show 0 ≤ z_38 by omega), Int.zero_add, (q_78).2.2.1.2.2.2 170 rfl]; omega)) vl_X12_107 dX12_drawn_118 o_164 rfl rfl (Nat.le_of_ble_eq_true rfl) ⟨(show 2 + 1 ≤ 6 + 1 * (r9 + 1) by omega), (show 8 + (8 + 11) + 40 * (2) ≤ 40 * (6 + 1 * (r9 + 1)) by omega)⟩ rfl rfl (Nat.le_of_ble_eq_true rfl) (Nat.le_of_ble_eq_true rfl) (fun r9 J_118 hq9 => ?_)
                obtain ⟨z_118, rfl, hz_118, m_118, g_118, h_118⟩ := hq9
                have q_118 := MG.tr q_78 (MG.mono g_118 (fun _ h => by simp at h) (fun _ h => by simp at h) (fun _ h => h))
                have f_118 := g_118.2.2.2
                have l_118 := g_118.1.2
                exact tz_iret (pc := 121) (z := z_118) dX12_drawn_121 rfl (Nat.le_of_ble_eq_true rfl) (Nat.le_of_ble_eq_true rfl) ⟨Nat.le_refl _, Nat.le_add_right _ _⟩ ⟨_, rfl, (by omega), ⟨m_118, q_118, h_118⟩⟩
              · refine tz_aload_n (pc := 97) dX12_drawn_97 rfl rfl ?_
                refine tz_iload_n (pc := 98) dX12_drawn_98 rfl rfl ?_
                refine tz_iconst (pc := 99) dX12_drawn_99 ?_
                refine tz_isub (pc := 100) (v := x - 1) dX12_drawn_100 rfl ?_
                have l0_101 := (q_78).1.2
                have t0_101 := (q_78).1.1.told
                refine tz_cV (pc := 101) (ih _ _ (by omega) s m_78 (q_78).1.1 (by rw [(q_78).2.2.1.2.2.1 9 (by decide)]; exact h9) (by omega) (by omega)) vl_X12_430 dX12_drawn_101 o_164 rfl rfl (Nat.le_of_ble_eq_true rfl) ⟨(show (6 + 1 * r9) + 1 ≤ 6 + 1 * (r9 + 1) by omega), (show 8 + (7 + 11) + 40 * ((6 + 1 * r9)) ≤ 40 * (6 + 1 * (r9 + 1)) by omega)⟩ rfl rfl (Nat.le_of_ble_eq_true rfl) (Nat.le_of_ble_eq_true rfl) (fun r9 J_101 hq9 => ?_)
                obtain ⟨z_101, rfl, hz_101, m_101, g_101, h_101⟩ := hq9
                have q_101 := MG.tr q_78 g_101
                have f_101 := g_101.2.2.2
                have l_101 := g_101.1.2
                refine tz_goto (pc := 104) (tgt := 108) dX12_drawn_104 (by decide) ?_
                refine tz_istore (pc := 108) (L2 := [_, _, _, _, _, _, _]) dX12_drawn_108 (by decide) rfl ?_
                refine tz_aload_n (pc := 110) dX12_drawn_110 rfl rfl ?_
                refine tz_iload_n (pc := 111) dX12_drawn_111 rfl rfl ?_
                refine tz_iload (pc := 112) dX12_drawn_112 rfl ?_
                refine tz_iload (pc := 114) dX12_drawn_114 rfl ?_
                refine tz_iload (pc := 116) dX12_drawn_116 rfl ?_
                have l0_118 := (q_101).1.2
                have t0_118 := (q_101).1.1.told
                refine tz_cV (pc := 118) (m_termOf hl n _ _ _ _ _ (by omega) (by omega) (by omega) (by omega) 0 0 0 s m_101 (q_101).1.1 (by omega) (fun q9 => by simp only [arh_pos (show 0 ≤ z_38 by omega), Int.zero_add, (q_101).2.2.1.2.2.2 170 rfl]; omega)) vl_X12_107 dX12_drawn_118 o_164 rfl rfl (Nat.le_of_ble_eq_true rfl) ⟨(show 2 + 1 ≤ 6 + 1 * (r9 + 1) by omega), (show 8 + (8 + 11) + 40 * (2) ≤ 40 * (6 + 1 * (r9 + 1)) by omega)⟩ rfl rfl (Nat.le_of_ble_eq_true rfl) (Nat.le_of_ble_eq_true rfl) (fun r9 J_118 hq9 => ?_)
                obtain ⟨z_118, rfl, hz_118, m_118, g_118, h_118⟩ := hq9
                have q_118 := MG.tr q_101 (MG.mono g_118 (fun _ h => by simp at h) (fun _ h => by simp at h) (fun _ h => h))
                have f_118 := g_118.2.2.2
                have l_118 := g_118.1.2
                exact tz_iret (pc := 121) (z := z_118) dX12_drawn_121 rfl (Nat.le_of_ble_eq_true rfl) (Nat.le_of_ble_eq_true rfl) ⟨Nat.le_refl _, Nat.le_add_right _ _⟩ ⟨_, rfl, (by omega), ⟨m_118, q_118, h_118⟩⟩
        · refine tz_aload_n (pc := 23) dX12_drawn_23 rfl rfl ?_
          refine tz_aload_n (pc := 24) dX12_drawn_24 rfl rfl ?_
          refine tz_iconst (pc := 25) dX12_drawn_25 ?_
          refine tz_cV (pc := 26) (m_drawOf hl n _ _ (by omega) (by omega)) vl_X12_427 dX12_drawn_26 o_164 rfl rfl (Nat.le_of_ble_eq_true rfl) ⟨(show 0 + 1 ≤ 6 + 1 * (r9 + 1) by omega), (show 8 + (2 + 11) + 40 * (0) ≤ 40 * (6 + 1 * (r9 + 1)) by omega)⟩ rfl rfl (Nat.le_of_ble_eq_true rfl) (Nat.le_of_ble_eq_true rfl) (fun r9 J_26 hq9 => ?_)
          obtain ⟨z_26, rfl, hz_26, hj_26, hz_26⟩ := hq9
          have e_26 : zOf (zbut [164]) J_26 J_3 := by rw [← hj_26]; exact zOf.up rfl zOf.rf
          have k_26 : ∀ k, ¬ k = 46 → J_26 164 k = J_3 164 k := fun k hk => by rw [← hj_26]; exact zup_ne hk
          have q_26 : MG [] [46] (fun _ => false) J_26 J 0 0 0 s m m := (q_3).off (fun k hk => k_26 k (by simp at hk; omega)) (fun k _ => congrFun (e_26 165 rfl) k) (e_26.mono (zbut_sub (fun c hc => by simp at hc ⊢; omega))) ⟨rfl, rfl, rfl, rfl⟩ rfl ⟨rfl, rfl, rfl, rfl⟩
          have l0_29 := (q_26).1.2
          have t0_29 := (q_26).1.1.told
          refine tz_cV (pc := 29) (m_varTerm hl n _ _ (by omega) 0 0 0 s m (q_26).1.1 (by omega)) vl_X12_180 dX12_drawn_29 o_164 rfl rfl (Nat.le_of_ble_eq_true rfl) ⟨(show 3 + 1 ≤ 6 + 1 * (r9 + 1) by omega), (show 8 + (2 + 11) + 40 * (3) ≤ 40 * (6 + 1 * (r9 + 1)) by omega)⟩ rfl rfl (Nat.le_of_ble_eq_true rfl) (Nat.le_of_ble_eq_true rfl) (fun r9 J_29 hq9 => ?_)
          obtain ⟨z_29, rfl, hz_29, m_29, g_29, h_29⟩ := hq9
          have q_29 := MG.tr q_26 (MG.mono g_29 (fun _ h => by simp at h) (fun _ h => by simp at h) (fun _ h => h))
          have f_29 := g_29.2.2.2
          have l_29 := g_29.1.2
          exact tz_iret (pc := 32) (z := z_29) dX12_drawn_32 rfl (Nat.le_of_ble_eq_true rfl) (Nat.le_of_ble_eq_true rfl) ⟨Nat.le_refl _, Nat.le_add_right _ _⟩ ⟨_, rfl, (by omega), ⟨m_29, q_29, h_29⟩⟩

theorem m_drawn {l : Launch} {G : tb_G} (hl : l.stackTraces = false) (n : Nat) (J : zJ) (x : Int) (hr_x : -2147483648 ≤ x ∧ x < 2147483648) (s m : Int) (hM : MS J 0 0 0 s m) (h9 : J 164 9 = s) (hx : 1 ≤ x ∧ x ≤ 4) : tz_Ok l G M_X12_drawn 11 0 0 [.ref 164, zi x] n J (zqi (fun z J' => ∃ m', MG [] [46] (fun _ => false) J' J 0 0 0 s m m' ∧ (J' 164 21 = 0 → 0 ≤ z ∧ z < m'))) zN := m_drawnR hl n 5 J x hr_x s m hM h9 hx.1 (by omega)
