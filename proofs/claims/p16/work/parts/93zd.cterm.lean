/-! ===== the class follows the reading: readTerm ===== -/
theorem XC.nz {J g : zJ} (h : XC J g) (hN : ¬ g 0 4 = 99) (h0 : J 163 8 = 0) : g 0 4 = 0 ∧ g 0 3 = J 163 5 := by
  rcases h.k h0 with p | ⟨q, e3, _⟩
  · exact absurd p hN
  · exact ⟨q, e3⟩
theorem pT_1 {k : Nat} {g : zJ} {d : Int} (h : g 0 4 = 0) (h3 : ¬ g 0 3 = 63 ∧ ¬ g 0 3 = 2) : pT (k + 1) g d = (pFx g 1, 0) := by
  unfold pFx
  rw [pT_s, if_pos h, if_neg h3.1, if_neg h3.2, if_pos h]
theorem pT_2 {k : Nat} {g : zJ} {d : Int} (h : g 0 4 = 0) (h3 : g 0 3 = 63 ∨ g 0 3 = 2) (hd : ¬ d ≤ 6) : pT (k + 1) g d = (pFx g 2, 0) := by
  unfold pFx
  rw [pT_s, if_pos h, if_pos h]
  rcases h3 with q | q
  · rw [if_pos q, if_neg hd]
  · rw [if_neg (by omega), if_pos q, if_neg (fun p => hd p.1)]
theorem pT_v {k : Nat} {g : zJ} {d : Int} (h : g 0 4 = 0) (h3 : g 0 3 = 63) (hd : d ≤ 6) : pT (k + 1) g d = pV g := by rw [pT_s, if_pos h, if_pos h3, if_pos hd]
set_option maxHeartbeats 4000000 in
set_option maxRecDepth 100000 in
theorem w_readTerm1 {l : Launch} {G : tb_G} (hl : l.stackTraces = false) (n : Nat) (J : zJ) (dp : Int) (hr_dp : -2147483648 ≤ dp ∧ dp < 2147483648) (k9 d9 : Nat) (hd9 : 9 ≤ d9) (H : dp ≤ 6 → ∀ (J : zJ) (m : Int) (g : zJ) (C : CT J m) (hm : J 6 12 = m) (hD : RD2 J) (hX : XC J g) (hS : SI g), tz_Ok l G M_X5_readTerm d9 0 0 [.ref 163, zi (dp + 1)] n J (zqi (fun z J' => ∃ m', RT J' J m m' ∧ (J' 163 8 = 0 → 0 ≤ z ∧ z < m') ∧ XC J' (pT k9 g (dp + 1)).1 ∧ VQ z (pT k9 g (dp + 1)))) zN) (m : Int) (g : zJ) (C : CT J m) (hm : J 6 12 = m) (hD : RD2 J) (hX : XC J g) (hS : SI g) (hN : ¬ g 0 4 = 99) : tz_Ok l G M_X5_readTerm (d9 + 3) 0 0 [.ref 163, zi dp] n J (zqi (fun z J' => ∃ m', RT J' J m m' ∧ (J' 163 8 = 0 → 0 ≤ z ∧ z < m') ∧ XC J' (pT (k9 + 1) g dp).1 ∧ VQ z (pT (k9 + 1) g dp))) zN := by
  refine tz_Ok.of hl (by decide +kernel) rfl (tb_c1 rfl) (Nat.le_of_ble_eq_true rfl) ?_
  show tz_At l G M_X5_readTerm (tb_rm (d9 + 3) 0 0) none (tb_ZM G 0 0 (zQ n 0 (zqi (fun z J' => ∃ m', RT J' J m m' ∧ (J' 163 8 = 0 → 0 ≤ z ∧ z < m') ∧ XC J' (pT (k9 + 1) g dp).1 ∧ VQ z (pT (k9 + 1) g dp)))) (zX n 0 zN)) 0 0 n J 0 [some (.ref 163), some (zi dp)] []
  have g0 : RT J J m m := RT.rf C hm hD
  obtain ⟨⟨⟨hD1, hD2⟩, hD3, hD4⟩, hD5⟩ := id hD
  refine tz_aload_n (pc := 0) dX5_readTerm_0 rfl rfl ?_
  refine tz_fI (pc := 1) (kz := 8) (v := (J 163 8)) dX5_readTerm_1 fl_X5_24 i_163_8 rfl rfl (fun r_1 => ?_)
  refine tz_if_eq (pc := 4) (tgt := 9) dX5_readTerm_4 (by decide) (by omega) (fun h_4 => ?_) (fun h_4 => ?_)
  · refine tz_aload_n (pc := 9) dX5_readTerm_9 rfl rfl ?_
    refine tz_fI (pc := 10) (kz := 5) (v := (J 163 5)) dX5_readTerm_10 fl_X5_15 i_163_5 rfl rfl (fun r_10 => ?_)
    refine tz_bipush (pc := 13) dX5_readTerm_13 (by decide) ?_
    refine tz_icmp_eq (pc := 15) (tgt := 32) dX5_readTerm_15 (by decide) (by omega) (by decide) (fun h_15 => ?_) (fun h_15 => ?_)
    · refine tz_iload_n (pc := 32) dX5_readTerm_32 rfl rfl ?_
      refine tz_bipush (pc := 33) dX5_readTerm_33 (by decide) ?_
      refine tz_icmp_le (pc := 35) (tgt := 44) dX5_readTerm_35 (by decide) (by omega) (by decide) (fun h_35 => ?_) (fun h_35 => ?_)
      · refine tz_aload_n (pc := 44) dX5_readTerm_44 rfl rfl ?_
        refine tz_fI (pc := 45) (kz := 5) (v := (J 163 5)) dX5_readTerm_45 fl_X5_15 i_163_5 rfl rfl (fun r_45 => ?_)
        refine tz_bipush (pc := 48) dX5_readTerm_48 (by decide) ?_
        refine tz_icmp_ne (pc := 50) (tgt := 60) dX5_readTerm_50 (by decide) (by omega) (by decide) (fun h_50 => ?_) (fun h_50 => ?_)
        · refine tz_aload_n (pc := 60) dX5_readTerm_60 rfl rfl ?_
          refine tz_iload_n (pc := 61) dX5_readTerm_61 rfl rfl ?_
          refine tz_cV (pc := 62) (w_readComp hl n _ _ (by omega) (pT k9) (SI.t k9) (fun g d q => pT_f q) d9 hd9 (H (by omega)) m g C hm hD hX hS (hX.nz hN (by omega)).1 (by omega) (by omega)) vl_X5_174 dX5_readTerm_62 o_163 rfl rfl (Nat.le_of_ble_eq_true rfl) ⟨(show (d9 + 2) + 1 ≤ d9 + 3 by omega), (show 8 + (7 + 11) + 40 * ((d9 + 2)) ≤ 40 * (d9 + 3) by omega)⟩ rfl rfl (Nat.le_of_ble_eq_true rfl) (Nat.le_of_ble_eq_true rfl) (fun r9 J_62 hq9 => ?_)
          obtain ⟨z_62, rfl, hz_62, m_62, q_62, u_62, x_62, y_62⟩ := hq9
          exact tz_iret (pc := 65) (z := z_62) dX5_readTerm_65 rfl (Nat.le_of_ble_eq_true rfl) (Nat.le_of_ble_eq_true rfl) ⟨Nat.le_refl _, Nat.le_add_right _ _⟩ ⟨_, rfl, (by omega), (by rw [pT_k (hX.nz hN (by omega)).1 (by rw [(hX.nz hN (by omega)).2]; omega) (by omega)]; exact ⟨m_62, q_62, u_62, x_62, y_62⟩)⟩
        · refine tz_aload_n (pc := 53) dX5_readTerm_53 rfl rfl ?_
          refine tz_cV (pc := 54) (w_readVar hl n _ m g C hm hD hX hS (hX.nz hN (by omega)).1) vl_X5_171 dX5_readTerm_54 o_163 rfl rfl (Nat.le_of_ble_eq_true rfl) ⟨(show 4 + 1 ≤ d9 + 3 by omega), (show 8 + (2 + 11) + 40 * (4) ≤ 40 * (d9 + 3) by omega)⟩ rfl rfl (Nat.le_of_ble_eq_true rfl) (Nat.le_of_ble_eq_true rfl) (fun r9 J_54 hq9 => ?_)
          obtain ⟨z_54, rfl, hz_54, m_54, q_54, u_54, x_54, y_54⟩ := hq9
          refine tz_goto (pc := 57) (tgt := 65) dX5_readTerm_57 (by decide) ?_
          exact tz_iret (pc := 65) (z := z_54) dX5_readTerm_65 rfl (Nat.le_of_ble_eq_true rfl) (Nat.le_of_ble_eq_true rfl) ⟨Nat.le_refl _, Nat.le_add_right _ _⟩ ⟨_, rfl, (by omega), (by rw [pT_v (hX.nz hN (by omega)).1 (by rw [(hX.nz hN (by omega)).2]; omega) (by omega)]; exact ⟨m_54, q_54, u_54, x_54, y_54⟩)⟩
      · refine tz_aload_n (pc := 38) dX5_readTerm_38 rfl rfl ?_
        refine tz_iconst (pc := 39) dX5_readTerm_39 ?_
        refine tz_cV (pc := 40) (w_fail hl n _ _ (by decide) g (by decide) hX) vl_X5_97 dX5_readTerm_40 o_163 rfl rfl (Nat.le_of_ble_eq_true rfl) ⟨(show 0 + 1 ≤ d9 + 3 by omega), (show 8 + (2 + 11) + 40 * (0) ≤ 40 * (d9 + 3) by omega)⟩ rfl rfl (Nat.le_of_ble_eq_true rfl) (Nat.le_of_ble_eq_true rfl) (fun r9 J_40 hq9 => ?_)
        obtain ⟨z_40, rfl, hz_40, g_40, d_40, e_40, v_40, x_40⟩ := hq9
        have q_40 := RT.rn g0 g_40 (d_40 (g0).2.1)
        exact tz_iret (pc := 43) (z := z_40) dX5_readTerm_43 rfl (Nat.le_of_ble_eq_true rfl) (Nat.le_of_ble_eq_true rfl) ⟨Nat.le_refl _, Nat.le_add_right _ _⟩ ⟨_, rfl, (by omega), ⟨m, q_40, fun k => absurd k v_40, by rw [pT_2 (hX.nz hN (by omega)).1 (by rw [(hX.nz hN (by omega)).2]; omega) (by omega)]; exact x_40, fun k => by rw [pT_2 (hX.nz hN (by omega)).1 (by rw [(hX.nz hN (by omega)).2]; omega) (by omega)] at k; exact absurd k (pFx_n (by decide))⟩⟩
    · refine tz_aload_n (pc := 18) dX5_readTerm_18 rfl rfl ?_
      refine tz_fI (pc := 19) (kz := 5) (v := (J 163 5)) dX5_readTerm_19 fl_X5_15 i_163_5 rfl rfl (fun r_19 => ?_)
      refine tz_iconst (pc := 22) dX5_readTerm_22 ?_
      refine tz_icmp_eq (pc := 23) (tgt := 32) dX5_readTerm_23 (by decide) (by omega) (by decide) (fun h_23 => ?_) (fun h_23 => ?_)
      · refine tz_iload_n (pc := 32) dX5_readTerm_32 rfl rfl ?_
        refine tz_bipush (pc := 33) dX5_readTerm_33 (by decide) ?_
        refine tz_icmp_le (pc := 35) (tgt := 44) dX5_readTerm_35 (by decide) (by omega) (by decide) (fun h_35 => ?_) (fun h_35 => ?_)
        · refine tz_aload_n (pc := 44) dX5_readTerm_44 rfl rfl ?_
          refine tz_fI (pc := 45) (kz := 5) (v := (J 163 5)) dX5_readTerm_45 fl_X5_15 i_163_5 rfl rfl (fun r_45 => ?_)
          refine tz_bipush (pc := 48) dX5_readTerm_48 (by decide) ?_
          refine tz_icmp_ne (pc := 50) (tgt := 60) dX5_readTerm_50 (by decide) (by omega) (by decide) (fun h_50 => ?_) (fun h_50 => ?_)
          · refine tz_aload_n (pc := 60) dX5_readTerm_60 rfl rfl ?_
            refine tz_iload_n (pc := 61) dX5_readTerm_61 rfl rfl ?_
            refine tz_cV (pc := 62) (w_readComp hl n _ _ (by omega) (pT k9) (SI.t k9) (fun g d q => pT_f q) d9 hd9 (H (by omega)) m g C hm hD hX hS (hX.nz hN (by omega)).1 (by omega) (by omega)) vl_X5_174 dX5_readTerm_62 o_163 rfl rfl (Nat.le_of_ble_eq_true rfl) ⟨(show (d9 + 2) + 1 ≤ d9 + 3 by omega), (show 8 + (7 + 11) + 40 * ((d9 + 2)) ≤ 40 * (d9 + 3) by omega)⟩ rfl rfl (Nat.le_of_ble_eq_true rfl) (Nat.le_of_ble_eq_true rfl) (fun r9 J_62 hq9 => ?_)
            obtain ⟨z_62, rfl, hz_62, m_62, q_62, u_62, x_62, y_62⟩ := hq9
            exact tz_iret (pc := 65) (z := z_62) dX5_readTerm_65 rfl (Nat.le_of_ble_eq_true rfl) (Nat.le_of_ble_eq_true rfl) ⟨Nat.le_refl _, Nat.le_add_right _ _⟩ ⟨_, rfl, (by omega), (by rw [pT_k (hX.nz hN (by omega)).1 (by rw [(hX.nz hN (by omega)).2]; omega) (by omega)]; exact ⟨m_62, q_62, u_62, x_62, y_62⟩)⟩
          · refine tz_aload_n (pc := 53) dX5_readTerm_53 rfl rfl ?_
            refine tz_cV (pc := 54) (w_readVar hl n _ m g C hm hD hX hS (hX.nz hN (by omega)).1) vl_X5_171 dX5_readTerm_54 o_163 rfl rfl (Nat.le_of_ble_eq_true rfl) ⟨(show 4 + 1 ≤ d9 + 3 by omega), (show 8 + (2 + 11) + 40 * (4) ≤ 40 * (d9 + 3) by omega)⟩ rfl rfl (Nat.le_of_ble_eq_true rfl) (Nat.le_of_ble_eq_true rfl) (fun r9 J_54 hq9 => ?_)
            obtain ⟨z_54, rfl, hz_54, m_54, q_54, u_54, x_54, y_54⟩ := hq9
            refine tz_goto (pc := 57) (tgt := 65) dX5_readTerm_57 (by decide) ?_
            exact tz_iret (pc := 65) (z := z_54) dX5_readTerm_65 rfl (Nat.le_of_ble_eq_true rfl) (Nat.le_of_ble_eq_true rfl) ⟨Nat.le_refl _, Nat.le_add_right _ _⟩ ⟨_, rfl, (by omega), (by rw [pT_v (hX.nz hN (by omega)).1 (by rw [(hX.nz hN (by omega)).2]; omega) (by omega)]; exact ⟨m_54, q_54, u_54, x_54, y_54⟩)⟩
        · refine tz_aload_n (pc := 38) dX5_readTerm_38 rfl rfl ?_
          refine tz_iconst (pc := 39) dX5_readTerm_39 ?_
          refine tz_cV (pc := 40) (w_fail hl n _ _ (by decide) g (by decide) hX) vl_X5_97 dX5_readTerm_40 o_163 rfl rfl (Nat.le_of_ble_eq_true rfl) ⟨(show 0 + 1 ≤ d9 + 3 by omega), (show 8 + (2 + 11) + 40 * (0) ≤ 40 * (d9 + 3) by omega)⟩ rfl rfl (Nat.le_of_ble_eq_true rfl) (Nat.le_of_ble_eq_true rfl) (fun r9 J_40 hq9 => ?_)
          obtain ⟨z_40, rfl, hz_40, g_40, d_40, e_40, v_40, x_40⟩ := hq9
          have q_40 := RT.rn g0 g_40 (d_40 (g0).2.1)
          exact tz_iret (pc := 43) (z := z_40) dX5_readTerm_43 rfl (Nat.le_of_ble_eq_true rfl) (Nat.le_of_ble_eq_true rfl) ⟨Nat.le_refl _, Nat.le_add_right _ _⟩ ⟨_, rfl, (by omega), ⟨m, q_40, fun k => absurd k v_40, by rw [pT_2 (hX.nz hN (by omega)).1 (by rw [(hX.nz hN (by omega)).2]; omega) (by omega)]; exact x_40, fun k => by rw [pT_2 (hX.nz hN (by omega)).1 (by rw [(hX.nz hN (by omega)).2]; omega) (by omega)] at k; exact absurd k (pFx_n (by decide))⟩⟩
      · refine tz_aload_n (pc := 26) dX5_readTerm_26 rfl rfl ?_
        refine tz_iconst (pc := 27) dX5_readTerm_27 ?_
        refine tz_cV (pc := 28) (w_fail hl n _ _ (by decide) g (by decide) hX) vl_X5_97 dX5_readTerm_28 o_163 rfl rfl (Nat.le_of_ble_eq_true rfl) ⟨(show 0 + 1 ≤ d9 + 3 by omega), (show 8 + (2 + 11) + 40 * (0) ≤ 40 * (d9 + 3) by omega)⟩ rfl rfl (Nat.le_of_ble_eq_true rfl) (Nat.le_of_ble_eq_true rfl) (fun r9 J_28 hq9 => ?_)
        obtain ⟨z_28, rfl, hz_28, g_28, d_28, e_28, v_28, x_28⟩ := hq9
        have q_28 := RT.rn g0 g_28 (d_28 (g0).2.1)
        exact tz_iret (pc := 31) (z := z_28) dX5_readTerm_31 rfl (Nat.le_of_ble_eq_true rfl) (Nat.le_of_ble_eq_true rfl) ⟨Nat.le_refl _, Nat.le_add_right _ _⟩ ⟨_, rfl, (by omega), ⟨m, q_28, fun k => absurd k v_28, by rw [pT_1 (hX.nz hN (by omega)).1 (by rw [(hX.nz hN (by omega)).2]; omega)]; exact x_28, fun k => by rw [pT_1 (hX.nz hN (by omega)).1 (by rw [(hX.nz hN (by omega)).2]; omega)] at k; exact absurd k (pFx_n (by decide))⟩⟩
  · refine tz_iconst (pc := 7) dX5_readTerm_7 ?_
    exact tz_iret (pc := 8) (z := (-1)) dX5_readTerm_8 rfl (Nat.le_of_ble_eq_true rfl) (Nat.le_of_ble_eq_true rfl) ⟨Nat.le_refl _, Nat.le_add_right _ _⟩ ⟨_, rfl, (by decide), ⟨m, g0, fun q => by omega, by rw [pT_f (hX.no (by omega))]; exact hX, fun q => by rw [pT_f (hX.no (by omega))] at q; exact absurd q (hX.no (by omega))⟩⟩

theorem w_readTermR {l : Launch} {G : tb_G} (hl : l.stackTraces = false) (n : Nat) : ∀ (r9 : Nat) (J : zJ) (dp : Int) (hr_dp : -2147483648 ≤ dp ∧ dp < 2147483648) (m : Int) (g : zJ) (C : CT J m) (hm : J 6 12 = m) (hD : RD2 J) (hX : XC J g) (hS : SI g), ((7 - dp).toNat) < r9 → tz_Ok l G M_X5_readTerm (10 + 3 * r9) 0 0 [.ref 163, zi dp] n J (zqi (fun z J' => ∃ m', RT J' J m m' ∧ (J' 163 8 = 0 → 0 ≤ z ∧ z < m') ∧ XC J' (pT r9 g dp).1 ∧ VQ z (pT r9 g dp))) zN
  | 0, J, dp, _, m, g, _, _, _, _, _, h => absurd h (Nat.not_lt_zero _)
  | r9 + 1, J, dp, hr, m, g, C, hm, hD, hX, hS, h => by
    by_cases q : g 0 4 = 99
    · exact (c_readTermR hl n (r9 + 1) J dp hr m C hm hD h).mono (fun r J' _ ⟨z, a, b, m', c, d⟩ => ⟨z, a, b, m', c, d, by rw [pT_f (by omega)]; exact Or.inl q, fun k => by rw [pT_f (by omega)] at k; exact absurd k (by show ¬ g 0 4 = 0; omega)⟩) (fun _ _ _ h => h)
    · exact w_readTerm1 hl n J dp hr r9 (10 + 3 * r9) (by omega) (fun u J m g a b c d e => w_readTermR hl n r9 J (dp + 1) (by omega) m g a b c d e (by omega)) m g C hm hD hX hS q
theorem w_readTerm {l : Launch} {G : tb_G} (hl : l.stackTraces = false) (n : Nat) (J : zJ) (m : Int) (g : zJ) (C : CT J m) (hm : J 6 12 = m) (hD : RD2 J) (hX : XC J g) (hS : SI g) : tz_Ok l G M_X5_readTerm 34 0 0 [.ref 163, zi 1] n J (zqi (fun z J' => ∃ m', RT J' J m m' ∧ (J' 163 8 = 0 → 0 ≤ z ∧ z < m') ∧ XC J' (pT 8 g 1).1 ∧ VQ z (pT 8 g 1))) zN := w_readTermR hl n 8 J 1 (by decide) m g C hm hD hX hS (by decide)
