/-! ===== normalOf of the reference, exact ===== -/
set_option maxHeartbeats 4000000 in
set_option maxRecDepth 100000 in
theorem x_normS {l : Launch} {G : tb_G} (hl : l.stackTraces = false) (n : Nat) (J : zJ) (t : Int) (hr_t : -2147483648 ≤ t ∧ t < 2147483648) (s m : Int) (r9 : Nat) (hN : NZ J 0 0 0 s m) (hs9 : J 164 9 = s) (ht : 0 ≤ t ∧ t < m) (ihN : ∀ (J : zJ) (t : Int) (hr_t : -2147483648 ≤ t ∧ t < 2147483648) (s m : Int) (hN : NZ J 0 0 0 s m) (hs9 : J 164 9 = s) (ht : 0 ≤ t ∧ t < m), (7 * (100 - J 164 34) + J 168 (0 + t)).toNat < r9 → tz_Ok l G M_X12_normalOf (12 + 1 * r9) 0 0 [.ref 164, zi t] n J (zqi (fun z J' => ∃ m', NP J' J 0 0 0 s m m' ∧ (J' 164 21 = 0 → J' 164 34 ≤ 100 → 0 ≤ z ∧ z < m') ∧ IFN J (NOC (nWT (J 168 (0 + t)).toNat) (tb0 J) (J 164 34) t J' z) ∧ IFS J (J' 164 21 = J 164 21 ∧ J' 164 34 = J 164 34))) zN) (ihL : ∀ (J : zJ) (t : Int) (hr_t : -2147483648 ≤ t ∧ t < 2147483648) (s m : Int) (hN : NZ J 0 0 0 s m) (hs9 : J 164 9 = s) (ht : 0 ≤ t ∧ t < m) (h0 : J 164 21 = 0) (h1 : J 164 34 ≤ 100), (7 * (100 - J 164 34)).toNat < r9 → tz_Ok l G M_X12_lessened (12 + 1 * r9) 0 0 [.ref 164, zi t] n J (zqi (fun z J' => ∃ m', NP J' J 0 0 0 s m m' ∧ (J' 164 21 = 0 → J' 164 34 ≤ 100 → 0 ≤ z ∧ z < m') ∧ LES (tb0 J) (J 164 34) t J' z)) zN) (hm9 : (7 * (100 - J 164 34) + J 168 (0 + t)).toNat < r9 + 1) : tz_Ok l G M_X12_normalOf (12 + 1 * (r9 + 1)) 0 0 [.ref 164, zi t] n J (zqi (fun z J' => ∃ m', NP J' J 0 0 0 s m m' ∧ (J' 164 21 = 0 → J' 164 34 ≤ 100 → 0 ≤ z ∧ z < m') ∧ IFN J (NOC (nWT (J 168 (0 + t)).toNat) (tb0 J) (J 164 34) t J' z) ∧ IFS J (J' 164 21 = J 164 21 ∧ J' 164 34 = J 164 34))) zN := by
  refine tz_Ok.of hl (by decide +kernel) rfl (tb_c1 rfl) (Nat.le_of_ble_eq_true rfl) ?_
  show tz_At l G M_X12_normalOf (tb_rm (12 + 1 * (r9 + 1)) 0 0) none (tb_ZM G 0 0 (zQ n 0 (zqi (fun z J' => ∃ m', NP J' J 0 0 0 s m m' ∧ (J' 164 21 = 0 → J' 164 34 ≤ 100 → 0 ≤ z ∧ z < m') ∧ IFN J (NOC (nWT (J 168 (0 + t)).toNat) (tb0 J) (J 164 34) t J' z) ∧ IFS J (J' 164 21 = J 164 21 ∧ J' 164 34 = J 164 34)))) (zX n 0 zN)) 0 0 n J 0 [some (.ref 164), some (zi t), none, none, none, none, none, none] []
  obtain ⟨hM, hR, hm, hs1, hs2⟩ := id hN
  have hR1 := hR.1
  have hm1 := hm.1
  have hm2 := hm.2.1
  have ha := hM.ar ht
  have hT := hM.told
  have g0 : MG [174] [34] rM J J 0 0 0 s m m := MG.rf hM
  refine tz_aload_n (pc := 0) dX12_normalOf_0 rfl rfl ?_
  refine tz_cV (pc := 1) (m_stopped hl n _) vl_X12_211 dX12_normalOf_1 o_164 rfl rfl (Nat.le_of_ble_eq_true rfl) ⟨(show 0 + 1 ≤ 12 + 1 * (r9 + 1) by omega), (show 8 + (1 + 11) + 40 * (0) ≤ 40 * (12 + 1 * (r9 + 1)) by omega)⟩ rfl rfl (Nat.le_of_ble_eq_true rfl) (Nat.le_of_ble_eq_true rfl) (fun r9 J_1 hq9 => ?_)
  obtain ⟨y_1, rfl, hz_1, rfl, hs_1⟩ := hq9
  refine tz_if_ne (pc := 4) (tgt := 15) dX12_normalOf_4 (by decide) (by omega) (fun h_4 => ?_) (fun h_4 => ?_)
  · refine tz_iload_n (pc := 15) dX12_normalOf_15 rfl rfl ?_
    exact tz_iret (pc := 16) (z := t) dX12_normalOf_16 rfl (Nat.le_of_ble_eq_true rfl) (Nat.le_of_ble_eq_true rfl) ⟨Nat.le_refl _, Nat.le_add_right _ _⟩ ⟨_, rfl, (by omega), (by first | exact ⟨m, NP.rf hN, fun _ _ => ht, fun q9 => absurd q9 (ng_n hs_1 (by omega)), fun _ => ⟨rfl, rfl⟩⟩ | exact ⟨m, NP.rf hN, fun _ _ => ht, fun q9 => (noc_v q9 (by rw [(hM.oa ht).1]; omega) ht.1).m (nWT_0 _), fun q9 => absurd (ng_y hs_1 (by omega)) q9⟩)⟩
  · refine tz_aload_n (pc := 7) dX12_normalOf_7 rfl rfl ?_
    refine tz_iload_n (pc := 8) dX12_normalOf_8 rfl rfl ?_
    refine tz_cV (pc := 9) (m_isVar hl n _ _ (by omega) 0 0 0 s m hM (by omega)) vl_X12_78 dX12_normalOf_9 o_164 rfl rfl (Nat.le_of_ble_eq_true rfl) ⟨(show 1 + 1 ≤ 12 + 1 * (r9 + 1) by omega), (show 8 + (2 + 11) + 40 * (1) ≤ 40 * (12 + 1 * (r9 + 1)) by omega)⟩ rfl rfl (Nat.le_of_ble_eq_true rfl) (Nat.le_of_ble_eq_true rfl) (fun r9 J_9 hq9 => ?_)
    obtain ⟨z_9, rfl, hz_9, rfl, rfl⟩ := hq9
    by_cases hw_12 : J 166 (0 + t) < 0
    · rw [show (if J 166 (0 + t) < 0 then 1 else 0 : Int) = 1 from if_pos hw_12]
      refine tz_if_eqF (pc := 12) (tgt := 17) (by decide) dX12_normalOf_12 (by decide) (by decide) ?_
      refine tz_iload_n (pc := 15) dX12_normalOf_15 rfl rfl ?_
      exact tz_iret (pc := 16) (z := t) dX12_normalOf_16 rfl (Nat.le_of_ble_eq_true rfl) (Nat.le_of_ble_eq_true rfl) ⟨Nat.le_refl _, Nat.le_add_right _ _⟩ ⟨_, rfl, (by omega), (by first | exact ⟨m, NP.rf hN, fun _ _ => ht, fun q9 => absurd q9 (ng_n hs_1 (by omega)), fun _ => ⟨rfl, rfl⟩⟩ | exact ⟨m, NP.rf hN, fun _ _ => ht, fun q9 => (noc_v q9 (by rw [(hM.oa ht).1]; omega) ht.1).m (nWT_0 _), fun q9 => absurd (ng_y hs_1 (by omega)) q9⟩)⟩
    · rw [show (if J 166 (0 + t) < 0 then 1 else 0 : Int) = 0 from if_neg hw_12]
      refine tz_if_eqT (pc := 12) (tgt := 17) (by decide) dX12_normalOf_12 (by decide) (by decide) ?_
      refine tz_aload_n (pc := 17) dX12_normalOf_17 rfl rfl ?_
      refine tz_iload_n (pc := 18) dX12_normalOf_18 rfl rfl ?_
      refine tz_cV (pc := 19) (x_memoAt hl n _ _ (by omega) m hm) vl_X12_215 dX12_normalOf_19 o_164 rfl rfl (Nat.le_of_ble_eq_true rfl) ⟨(show 0 + 1 ≤ 12 + 1 * (r9 + 1) by omega), (show 8 + (3 + 11) + 40 * (0) ≤ 40 * (12 + 1 * (r9 + 1)) by omega)⟩ rfl rfl (Nat.le_of_ble_eq_true rfl) (Nat.le_of_ble_eq_true rfl) (fun r9 J_19 hq9 => ?_)
      obtain ⟨z_19, rfl, hz_19, rfl, hz19⟩ := hq9
      refine tz_istore_n (pc := 22) (L2 := [_, _, _, _, _, _, _, _]) dX12_normalOf_22 rfl (by decide) rfl ?_
      refine tz_iload_n (pc := 23) dX12_normalOf_23 rfl rfl ?_
      refine tz_iconst (pc := 24) dX12_normalOf_24 ?_
      refine tz_icmp_eq (pc := 25) (tgt := 66) dX12_normalOf_25 (by decide) (by omega) (by decide) (fun h_25 => ?_) (fun h_25 => ?_)
      · have gJ : NGO J := ng_y hs_1 (by omega)
        have hv9 : ¬ tb0 J 166 (0 + t) < 0 := by rw [(hM.oa ht).1]; omega
        have e40 : tb0 J 165 40 = J 165 40 := by rw [tb0_5, if_pos (by decide)]
        have e9 : mAt (tb0 J) t = tb0 J 165 40 := mAt_n (by rw [e40]; exact hm2.1) (fun q a c => by rw [e40] at c; rw [tb0_5, if_pos (by omega)]; exact (hz19.resolve_right (fun y => by have := y.1; omega)).2 q a c)
        obtain ⟨d9, hd9⟩ : ∃ d9 : Nat, J 168 (0 + t) = (d9 : Int) + 1 := ⟨(J 168 (0 + t)).toNat - 1, by omega⟩
        have dn9 : (J 168 (0 + t)).toNat = d9 + 1 := by omega
        have so0 := nso_0 (J := J) (t := t) gJ
        refine tz_aload_n (pc := 66) dX12_normalOf_66 rfl rfl ?_
        refine tz_iload_n (pc := 67) dX12_normalOf_67 rfl rfl ?_
        refine tz_cV (pc := 68) (m_arity hl n _ _ (by omega) 0 0 0 s m hM (by omega)) vl_X12_111 dX12_normalOf_68 o_164 rfl rfl (Nat.le_of_ble_eq_true rfl) ⟨(show 2 + 1 ≤ 12 + 1 * (r9 + 1) by omega), (show 8 + (2 + 11) + 40 * (2) ≤ 40 * (12 + 1 * (r9 + 1)) by omega)⟩ rfl rfl (Nat.le_of_ble_eq_true rfl) (Nat.le_of_ble_eq_true rfl) (fun r9 J_68 hq9 => ?_)
        obtain ⟨z_68, rfl, hz_68, rfl, rfl⟩ := hq9
        refine tz_istore_n (pc := 71) (L2 := [_, _, _, _, _, _, _, _]) dX12_normalOf_71 rfl (by decide) rfl ?_
        refine tz_iload_n (pc := 72) dX12_normalOf_72 rfl rfl ?_
        refine tz_if_le (pc := 73) (tgt := 89) dX12_normalOf_73 (by decide) (by omega) (fun h_73 => ?_) (fun h_73 => ?_)
        · refine tz_iconst (pc := 89) dX12_normalOf_89 ?_
          refine tz_istore (pc := 90) (L2 := [_, _, _, _, _, _, _, _]) dX12_normalOf_90 (by decide) rfl ?_
          refine tz_iload_n (pc := 92) dX12_normalOf_92 rfl rfl ?_
          refine tz_iconst (pc := 93) dX12_normalOf_93 ?_
          refine tz_icmp_leT (pc := 94) (tgt := 110) (by omega) dX12_normalOf_94 (by decide) (by omega) (by decide) ?_
          refine tz_iconst (pc := 110) dX12_normalOf_110 ?_
          refine tz_istore (pc := 111) (L2 := [_, _, _, _, _, _, _, _]) dX12_normalOf_111 (by decide) rfl ?_
          refine tz_iload_n (pc := 113) dX12_normalOf_113 rfl rfl ?_
          refine tz_iconst (pc := 114) dX12_normalOf_114 ?_
          refine tz_icmp_leT (pc := 115) (tgt := 131) (by omega) dX12_normalOf_115 (by decide) (by omega) (by decide) ?_
          refine tz_iconst (pc := 131) dX12_normalOf_131 ?_
          refine tz_istore (pc := 132) (L2 := [_, _, _, _, _, _, _, _]) dX12_normalOf_132 (by decide) rfl ?_
          refine tz_aload_n (pc := 134) dX12_normalOf_134 rfl rfl ?_
          refine tz_cV (pc := 135) (m_stopped hl n _) vl_X12_211 dX12_normalOf_135 o_164 rfl rfl (Nat.le_of_ble_eq_true rfl) ⟨(show 0 + 1 ≤ 12 + 1 * (r9 + 1) by omega), (show 8 + (1 + 11) + 40 * (0) ≤ 40 * (12 + 1 * (r9 + 1)) by omega)⟩ rfl rfl (Nat.le_of_ble_eq_true rfl) (Nat.le_of_ble_eq_true rfl) (fun r9 J_135 hq9 => ?_)
          obtain ⟨y_135, rfl, hz_135, rfl, hs_135⟩ := hq9
          refine tz_if_eq (pc := 138) (tgt := 145) dX12_normalOf_138 (by decide) (by omega) (fun h_138 => ?_) (fun h_138 => ?_)
          · have g135 := ng_y hs_135 (by omega)
            refine tz_aload_n (pc := 145) dX12_normalOf_145 rfl rfl ?_
            refine tz_iload_n (pc := 146) dX12_normalOf_146 rfl rfl ?_
            refine tz_iload (pc := 147) dX12_normalOf_147 rfl ?_
            refine tz_iload (pc := 149) dX12_normalOf_149 rfl ?_
            refine tz_iload (pc := 151) dX12_normalOf_151 rfl ?_
            refine tz_cV (pc := 153) (o_remade hl n _ _ _ _ _ (by omega) (by omega) (by omega) (by omega) s m (g0).1.1 (((g0).2.2.1.2.2.1 9 rfl).trans hs9) (by omega) (fun q9 => by have e9 := (g0).ar ht ((g0).2.2.1.2.2.2 170 rfl); rw [e9]; omega)) vl_X12_152 dX12_normalOf_153 o_164 rfl rfl (Nat.le_of_ble_eq_true rfl) ⟨(show 3 + 1 ≤ 12 + 1 * (r9 + 1) by omega), (show 8 + (5 + 11) + 40 * (3) ≤ 40 * (12 + 1 * (r9 + 1)) by omega)⟩ rfl rfl (Nat.le_of_ble_eq_true rfl) (Nat.le_of_ble_eq_true rfl) (fun r9 J_153 hq9 => ?_)
            obtain ⟨z_153, rfl, hz_153, m_153, n_153, h_153, x_153⟩ := hq9
            have p_153 : NP J_153 J 0 0 0 s m m_153 := (NP.rf hN).tr (NP.mg (NP.rf hN).1 n_153)
            have q_153 := p_153.2.1
            have u_153 := NP.fu (NP.mg (NP.rf hN).1 n_153)
            have v_153 := NP.fu p_153
            have k_153 : J_153 164 34 = J 164 34 := n_153.2.2.1.2.2.1 34 rfl
            have mk9 := x_153
            rw [← ((g0).1.1.oa (t := t) ⟨ht.1, by omega⟩).1] at mk9
            have hs8 := mar_at (g0) ((g0).2.2.1.2.2.2 170 rfl) ht
            refine tz_istore (pc := 156) (L2 := [_, _, _, _, _, _, _, _]) dX12_normalOf_156 (by decide) rfl ?_
            refine tz_aload_n (pc := 158) dX12_normalOf_158 rfl rfl ?_
            refine tz_cV (pc := 159) (m_stopped hl n _) vl_X12_211 dX12_normalOf_159 o_164 rfl rfl (Nat.le_of_ble_eq_true rfl) ⟨(show 0 + 1 ≤ 12 + 1 * (r9 + 1) by omega), (show 8 + (1 + 11) + 40 * (0) ≤ 40 * (12 + 1 * (r9 + 1)) by omega)⟩ rfl rfl (Nat.le_of_ble_eq_true rfl) (Nat.le_of_ble_eq_true rfl) (fun r9 J_159 hq9 => ?_)
            obtain ⟨y_159, rfl, hz_159, rfl, hs_159⟩ := hq9
            refine tz_if_eq (pc := 162) (tgt := 169) dX12_normalOf_162 (by decide) (by omega) (fun h_162 => ?_) (fun h_162 => ?_)
            · have g159 := ng_y hs_159 (by omega)
              refine tz_aload_n (pc := 169) dX12_normalOf_169 rfl rfl ?_
              refine tz_iload (pc := 170) dX12_normalOf_170 rfl ?_
              refine tz_cV (pc := 172) (ihL _ _ (by omega) s m_153 (p_153).1 (((p_153).2.1.2.2.1.2.2.1 9 rfl).trans hs9) (by omega) (by omega) (by omega) (by omega)) vl_X12_224 dX12_normalOf_172 o_164 rfl rfl (Nat.le_of_ble_eq_true rfl) ⟨(show (12 + 1 * r9) + 1 ≤ 12 + 1 * (r9 + 1) by omega), (show 8 + (4 + 11) + 40 * ((12 + 1 * r9)) ≤ 40 * (12 + 1 * (r9 + 1)) by omega)⟩ rfl rfl (Nat.le_of_ble_eq_true rfl) (Nat.le_of_ble_eq_true rfl) (fun r9 J_172 hq9 => ?_)
              obtain ⟨z_172, rfl, hz_172, m_172, n_172, h_172, x_172⟩ := hq9
              have p_172 : NP J_172 J 0 0 0 s m m_172 := (p_153).tr (n_172)
              have q_172 := p_172.2.1
              have u_172 := NP.fu (n_172)
              have v_172 := NP.fu p_172
              rw [k_153] at x_172
              refine tz_istore (pc := 175) (L2 := [_, _, _, _, _, _, _, _]) dX12_normalOf_175 (by decide) rfl ?_
              refine tz_aload_n (pc := 177) dX12_normalOf_177 rfl rfl ?_
              refine tz_cV (pc := 178) (m_stopped hl n _) vl_X12_211 dX12_normalOf_178 o_164 rfl rfl (Nat.le_of_ble_eq_true rfl) ⟨(show 0 + 1 ≤ 12 + 1 * (r9 + 1) by omega), (show 8 + (1 + 11) + 40 * (0) ≤ 40 * (12 + 1 * (r9 + 1)) by omega)⟩ rfl rfl (Nat.le_of_ble_eq_true rfl) (Nat.le_of_ble_eq_true rfl) (fun r9 J_178 hq9 => ?_)
              obtain ⟨y_178, rfl, hz_178, rfl, hs_178⟩ := hq9
              refine tz_if_ne (pc := 181) (tgt := 191) dX12_normalOf_181 (by decide) (by omega) (fun h_181 => ?_) (fun h_181 => ?_)
              · have n178 := ng_n hs_178 (by omega)
                refine tz_iload (pc := 191) dX12_normalOf_191 rfl ?_
                exact tz_iret (pc := 193) (z := z_172) dX12_normalOf_193 rfl (Nat.le_of_ble_eq_true rfl) (Nat.le_of_ble_eq_true rfl) ⟨Nat.le_refl _, Nat.le_add_right _ _⟩ ⟨_, rfl, (by omega), ⟨m_172, p_172, h_172, fun _ => (by rw [dn9]; exact NOC.m (noc_l hv9 e9 so0 g135 (by rw [hs8]; omega) mk9 g159.1 (h_153 g159.1).1 x_172 (fun q8 => absurd q8 n178) rfl rfl) (by show _ ≤ 3 * nWT d9 + 8; have := nWT_0 d9; omega)), fun q9 => absurd gJ q9⟩⟩
              · have g178 := ng_y hs_178 (by omega)
                refine tz_aload_n (pc := 184) dX12_normalOf_184 rfl rfl ?_
                refine tz_iload_n (pc := 185) dX12_normalOf_185 rfl rfl ?_
                refine tz_iload (pc := 186) dX12_normalOf_186 rfl ?_
                refine tz_cV (pc := 188) (x_memoGets hl n _ _ _ (by omega) (by omega) m_172 (p_172).1.2.2.1) vl_X12_218 dX12_normalOf_188 o_164 rfl rfl (Nat.le_of_ble_eq_true rfl) ⟨(show 1 + 1 ≤ 12 + 1 * (r9 + 1) by omega), (show 8 + (3 + 11) + 40 * (1) ≤ 40 * (12 + 1 * (r9 + 1)) by omega)⟩ rfl rfl (Nat.le_of_ble_eq_true rfl) (Nat.le_of_ble_eq_true rfl) (fun r9 J_188 hq9 => ?_)
                obtain ⟨rfl, f5, e5⟩ := hq9
                have m5 : MM (J_188 165) m_172 := by rw [e5]; exact (p_172).1.2.2.1.mg (by omega) (by omega)
                have M5 := mmf_mg f5 e5 (p_172).1.2.2.1
                have p_188 := (p_172).tr (NP.mmf (p_172).1 M5 m5)
                have k_188 : J_188 164 = J_172 164 := f5 164 rfl
                refine tz_iload (pc := 191) dX12_normalOf_191 rfl ?_
                exact tz_iret (pc := 193) (z := z_172) dX12_normalOf_193 rfl (Nat.le_of_ble_eq_true rfl) (Nat.le_of_ble_eq_true rfl) ⟨Nat.le_refl _, Nat.le_add_right _ _⟩ ⟨_, rfl, (by omega), ⟨m_172, p_188, fun _ _ => h_172 g178.1 g178.2, fun _ => (by rw [dn9]; exact NOC.m (noc_l hv9 e9 so0 g135 (by rw [hs8]; omega) mk9 g159.1 (h_153 g159.1).1 x_172 (fun _ => tb0_mg f5 e5 (mmb (p_172).1.2.2.1)) (by rw [k_188]) (by rw [k_188])) (by show _ ≤ 3 * nWT d9 + 8; have := nWT_0 d9; omega)), fun q9 => absurd gJ q9⟩⟩
            · have n159 := ng_n hs_159 (by omega)
              refine tz_iconst (pc := 165) dX12_normalOf_165 ?_
              refine tz_goto (pc := 166) (tgt := 175) dX12_normalOf_166 (by decide) ?_
              refine tz_istore (pc := 175) (L2 := [_, _, _, _, _, _, _, _]) dX12_normalOf_175 (by decide) rfl ?_
              refine tz_aload_n (pc := 177) dX12_normalOf_177 rfl rfl ?_
              refine tz_cV (pc := 178) (m_stopped hl n _) vl_X12_211 dX12_normalOf_178 o_164 rfl rfl (Nat.le_of_ble_eq_true rfl) ⟨(show 0 + 1 ≤ 12 + 1 * (r9 + 1) by omega), (show 8 + (1 + 11) + 40 * (0) ≤ 40 * (12 + 1 * (r9 + 1)) by omega)⟩ rfl rfl (Nat.le_of_ble_eq_true rfl) (Nat.le_of_ble_eq_true rfl) (fun r9 J_178 hq9 => ?_)
              obtain ⟨y_178, rfl, hz_178, rfl, hs_178⟩ := hq9
              refine tz_if_neT (pc := 181) (tgt := 191) (by omega) dX12_normalOf_181 (by decide) (by omega) ?_
              refine tz_iload (pc := 191) dX12_normalOf_191 rfl ?_
              exact tz_iret (pc := 193) (z := 0) dX12_normalOf_193 rfl (Nat.le_of_ble_eq_true rfl) (Nat.le_of_ble_eq_true rfl) ⟨Nat.le_refl _, Nat.le_add_right _ _⟩ ⟨_, rfl, (by decide), ⟨m_153, p_153, fun q9 q8 => absurd ⟨q9, q8⟩ n159, fun _ => (by rw [dn9]; exact NOC.m (noc_f (J1 := J) hv9 e9 so0 g135 (by rw [hs8]; omega) (by rw [← mk9]; exact fun q9 => n159 ⟨q9, by rw [k_153]; exact g135.2⟩) (fun q9 => n159 ⟨q9, by rw [k_153]; exact g135.2⟩) k_153) (by show _ ≤ 3 * nWT d9 + 8; have := nWT_0 d9; omega)), fun q9 => absurd gJ q9⟩⟩
          · have n135 := ng_n hs_135 (by omega)
            refine tz_iconst (pc := 141) dX12_normalOf_141 ?_
            refine tz_goto (pc := 142) (tgt := 156) dX12_normalOf_142 (by decide) ?_
            refine tz_istore (pc := 156) (L2 := [_, _, _, _, _, _, _, _]) dX12_normalOf_156 (by decide) rfl ?_
            refine tz_aload_n (pc := 158) dX12_normalOf_158 rfl rfl ?_
            refine tz_cV (pc := 159) (m_stopped hl n _) vl_X12_211 dX12_normalOf_159 o_164 rfl rfl (Nat.le_of_ble_eq_true rfl) ⟨(show 0 + 1 ≤ 12 + 1 * (r9 + 1) by omega), (show 8 + (1 + 11) + 40 * (0) ≤ 40 * (12 + 1 * (r9 + 1)) by omega)⟩ rfl rfl (Nat.le_of_ble_eq_true rfl) (Nat.le_of_ble_eq_true rfl) (fun r9 J_159 hq9 => ?_)
            obtain ⟨y_159, rfl, hz_159, rfl, hs_159⟩ := hq9
            refine tz_if_eqF (pc := 162) (tgt := 169) (by omega) dX12_normalOf_162 (by decide) (by omega) ?_
            refine tz_iconst (pc := 165) dX12_normalOf_165 ?_
            refine tz_goto (pc := 166) (tgt := 175) dX12_normalOf_166 (by decide) ?_
            refine tz_istore (pc := 175) (L2 := [_, _, _, _, _, _, _, _]) dX12_normalOf_175 (by decide) rfl ?_
            refine tz_aload_n (pc := 177) dX12_normalOf_177 rfl rfl ?_
            refine tz_cV (pc := 178) (m_stopped hl n _) vl_X12_211 dX12_normalOf_178 o_164 rfl rfl (Nat.le_of_ble_eq_true rfl) ⟨(show 0 + 1 ≤ 12 + 1 * (r9 + 1) by omega), (show 8 + (1 + 11) + 40 * (0) ≤ 40 * (12 + 1 * (r9 + 1)) by omega)⟩ rfl rfl (Nat.le_of_ble_eq_true rfl) (Nat.le_of_ble_eq_true rfl) (fun r9 J_178 hq9 => ?_)
            obtain ⟨y_178, rfl, hz_178, rfl, hs_178⟩ := hq9
            refine tz_if_neT (pc := 181) (tgt := 191) (by omega) dX12_normalOf_181 (by decide) (by omega) ?_
            refine tz_iload (pc := 191) dX12_normalOf_191 rfl ?_
            exact tz_iret (pc := 193) (z := 0) dX12_normalOf_193 rfl (Nat.le_of_ble_eq_true rfl) (Nat.le_of_ble_eq_true rfl) ⟨Nat.le_refl _, Nat.le_add_right _ _⟩ ⟨_, rfl, (by decide), ⟨m, NP.rf hN, fun q9 q8 => absurd ⟨q9, q8⟩ n135, fun _ => (by rw [dn9]; exact NOC.m (noc_s hv9 e9 so0 n135 rfl rfl) (by show _ ≤ 3 * nWT d9 + 8; have := nWT_0 d9; omega)), fun q9 => absurd gJ q9⟩⟩
        · refine tz_aload_n (pc := 76) dX12_normalOf_76 rfl rfl ?_
          refine tz_aload_n (pc := 77) dX12_normalOf_77 rfl rfl ?_
          refine tz_iload_n (pc := 78) dX12_normalOf_78 rfl rfl ?_
          refine tz_iconst (pc := 79) dX12_normalOf_79 ?_
          refine tz_cV (pc := 80) (m_arg hl n _ _ _ (by omega) (by decide) 0 0 0 s m hM (by omega) (by omega)) vl_X12_88 dX12_normalOf_80 o_164 rfl rfl (Nat.le_of_ble_eq_true rfl) ⟨(show 0 + 1 ≤ 12 + 1 * (r9 + 1) by omega), (show 8 + (3 + 11) + 40 * (0) ≤ 40 * (12 + 1 * (r9 + 1)) by omega)⟩ rfl rfl (Nat.le_of_ble_eq_true rfl) (Nat.le_of_ble_eq_true rfl) (fun r9 J_80 hq9 => ?_)
          obtain ⟨z_80, rfl, hz_80, rfl, rfl⟩ := hq9
          have a_83 := hM.arg (t := t) (i := 0) ht (by omega)
          refine tz_cV (pc := 83) (ihN _ _ (by omega) s m (NP.rf hN).1 (((NP.rf hN).2.1.2.2.1.2.2.1 9 rfl).trans hs9) (by omega) (by rw [((g0).2.1 _ (by omega) (by omega)).1.2]; omega)) vl_X12_221 dX12_normalOf_83 o_164 rfl rfl (Nat.le_of_ble_eq_true rfl) ⟨(show (12 + 1 * r9) + 1 ≤ 12 + 1 * (r9 + 1) by omega), (show 8 + (8 + 11) + 40 * ((12 + 1 * r9)) ≤ 40 * (12 + 1 * (r9 + 1)) by omega)⟩ rfl rfl (Nat.le_of_ble_eq_true rfl) (Nat.le_of_ble_eq_true rfl) (fun r9 J_83 hq9 => ?_)
          obtain ⟨z_83, rfl, hz_83, m_83, n_83, h_83, x_83, y_83⟩ := hq9
          have p_83 : NP J_83 J 0 0 0 s m m_83 := (NP.rf hN).tr (n_83)
          have q_83 := p_83.2.1
          have u_83 := NP.fu (n_83)
          have v_83 := NP.fu p_83
          have at_83 := noc_at hM (g0) ht (i := 0) (by omega) (d := d9) hd9 x_83
          have so_83 := nso_a0 so0 at_83.1 at_83.2 y_83 (nWT_0 d9)
          refine tz_goto (pc := 86) (tgt := 90) dX12_normalOf_86 (by decide) ?_
          refine tz_istore (pc := 90) (L2 := [_, _, _, _, _, _, _, _]) dX12_normalOf_90 (by decide) rfl ?_
          refine tz_iload_n (pc := 92) dX12_normalOf_92 rfl rfl ?_
          refine tz_iconst (pc := 93) dX12_normalOf_93 ?_
          refine tz_icmp_le (pc := 94) (tgt := 110) dX12_normalOf_94 (by decide) (by omega) (by decide) (fun h_94 => ?_) (fun h_94 => ?_)
          · refine tz_iconst (pc := 110) dX12_normalOf_110 ?_
            refine tz_istore (pc := 111) (L2 := [_, _, _, _, _, _, _, _]) dX12_normalOf_111 (by decide) rfl ?_
            refine tz_iload_n (pc := 113) dX12_normalOf_113 rfl rfl ?_
            refine tz_iconst (pc := 114) dX12_normalOf_114 ?_
            refine tz_icmp_leT (pc := 115) (tgt := 131) (by omega) dX12_normalOf_115 (by decide) (by omega) (by decide) ?_
            refine tz_iconst (pc := 131) dX12_normalOf_131 ?_
            refine tz_istore (pc := 132) (L2 := [_, _, _, _, _, _, _, _]) dX12_normalOf_132 (by decide) rfl ?_
            refine tz_aload_n (pc := 134) dX12_normalOf_134 rfl rfl ?_
            refine tz_cV (pc := 135) (m_stopped hl n _) vl_X12_211 dX12_normalOf_135 o_164 rfl rfl (Nat.le_of_ble_eq_true rfl) ⟨(show 0 + 1 ≤ 12 + 1 * (r9 + 1) by omega), (show 8 + (1 + 11) + 40 * (0) ≤ 40 * (12 + 1 * (r9 + 1)) by omega)⟩ rfl rfl (Nat.le_of_ble_eq_true rfl) (Nat.le_of_ble_eq_true rfl) (fun r9 J_135 hq9 => ?_)
            obtain ⟨y_135, rfl, hz_135, rfl, hs_135⟩ := hq9
            refine tz_if_eq (pc := 138) (tgt := 145) dX12_normalOf_138 (by decide) (by omega) (fun h_138 => ?_) (fun h_138 => ?_)
            · have g135 := ng_y hs_135 (by omega)
              refine tz_aload_n (pc := 145) dX12_normalOf_145 rfl rfl ?_
              refine tz_iload_n (pc := 146) dX12_normalOf_146 rfl rfl ?_
              refine tz_iload (pc := 147) dX12_normalOf_147 rfl ?_
              refine tz_iload (pc := 149) dX12_normalOf_149 rfl ?_
              refine tz_iload (pc := 151) dX12_normalOf_151 rfl ?_
              refine tz_cV (pc := 153) (o_remade hl n _ _ _ _ _ (by omega) (by omega) (by omega) (by omega) s m_83 (q_83).1.1 (((q_83).2.2.1.2.2.1 9 rfl).trans hs9) (by omega) (fun q9 => by have e9 := (q_83).ar ht ((q_83).2.2.1.2.2.2 170 rfl); rw [e9]; omega)) vl_X12_152 dX12_normalOf_153 o_164 rfl rfl (Nat.le_of_ble_eq_true rfl) ⟨(show 3 + 1 ≤ 12 + 1 * (r9 + 1) by omega), (show 8 + (5 + 11) + 40 * (3) ≤ 40 * (12 + 1 * (r9 + 1)) by omega)⟩ rfl rfl (Nat.le_of_ble_eq_true rfl) (Nat.le_of_ble_eq_true rfl) (fun r9 J_153 hq9 => ?_)
              obtain ⟨z_153, rfl, hz_153, m_153, n_153, h_153, x_153⟩ := hq9
              have p_153 : NP J_153 J 0 0 0 s m m_153 := (p_83).tr (NP.mg (p_83).1 n_153)
              have q_153 := p_153.2.1
              have u_153 := NP.fu (NP.mg (p_83).1 n_153)
              have v_153 := NP.fu p_153
              have k_153 : J_153 164 34 = J_83 164 34 := n_153.2.2.1.2.2.1 34 rfl
              have mk9 := x_153
              rw [← ((q_83).1.1.oa (t := t) ⟨ht.1, by omega⟩).1] at mk9
              have hs8 := mar_at (q_83) ((q_83).2.2.1.2.2.2 170 rfl) ht
              refine tz_istore (pc := 156) (L2 := [_, _, _, _, _, _, _, _]) dX12_normalOf_156 (by decide) rfl ?_
              refine tz_aload_n (pc := 158) dX12_normalOf_158 rfl rfl ?_
              refine tz_cV (pc := 159) (m_stopped hl n _) vl_X12_211 dX12_normalOf_159 o_164 rfl rfl (Nat.le_of_ble_eq_true rfl) ⟨(show 0 + 1 ≤ 12 + 1 * (r9 + 1) by omega), (show 8 + (1 + 11) + 40 * (0) ≤ 40 * (12 + 1 * (r9 + 1)) by omega)⟩ rfl rfl (Nat.le_of_ble_eq_true rfl) (Nat.le_of_ble_eq_true rfl) (fun r9 J_159 hq9 => ?_)
              obtain ⟨y_159, rfl, hz_159, rfl, hs_159⟩ := hq9
              refine tz_if_eq (pc := 162) (tgt := 169) dX12_normalOf_162 (by decide) (by omega) (fun h_162 => ?_) (fun h_162 => ?_)
              · have g159 := ng_y hs_159 (by omega)
                refine tz_aload_n (pc := 169) dX12_normalOf_169 rfl rfl ?_
                refine tz_iload (pc := 170) dX12_normalOf_170 rfl ?_
                refine tz_cV (pc := 172) (ihL _ _ (by omega) s m_153 (p_153).1 (((p_153).2.1.2.2.1.2.2.1 9 rfl).trans hs9) (by omega) (by omega) (by omega) (by omega)) vl_X12_224 dX12_normalOf_172 o_164 rfl rfl (Nat.le_of_ble_eq_true rfl) ⟨(show (12 + 1 * r9) + 1 ≤ 12 + 1 * (r9 + 1) by omega), (show 8 + (4 + 11) + 40 * ((12 + 1 * r9)) ≤ 40 * (12 + 1 * (r9 + 1)) by omega)⟩ rfl rfl (Nat.le_of_ble_eq_true rfl) (Nat.le_of_ble_eq_true rfl) (fun r9 J_172 hq9 => ?_)
                obtain ⟨z_172, rfl, hz_172, m_172, n_172, h_172, x_172⟩ := hq9
                have p_172 : NP J_172 J 0 0 0 s m m_172 := (p_153).tr (n_172)
                have q_172 := p_172.2.1
                have u_172 := NP.fu (n_172)
                have v_172 := NP.fu p_172
                rw [k_153] at x_172
                refine tz_istore (pc := 175) (L2 := [_, _, _, _, _, _, _, _]) dX12_normalOf_175 (by decide) rfl ?_
                refine tz_aload_n (pc := 177) dX12_normalOf_177 rfl rfl ?_
                refine tz_cV (pc := 178) (m_stopped hl n _) vl_X12_211 dX12_normalOf_178 o_164 rfl rfl (Nat.le_of_ble_eq_true rfl) ⟨(show 0 + 1 ≤ 12 + 1 * (r9 + 1) by omega), (show 8 + (1 + 11) + 40 * (0) ≤ 40 * (12 + 1 * (r9 + 1)) by omega)⟩ rfl rfl (Nat.le_of_ble_eq_true rfl) (Nat.le_of_ble_eq_true rfl) (fun r9 J_178 hq9 => ?_)
                obtain ⟨y_178, rfl, hz_178, rfl, hs_178⟩ := hq9
                refine tz_if_ne (pc := 181) (tgt := 191) dX12_normalOf_181 (by decide) (by omega) (fun h_181 => ?_) (fun h_181 => ?_)
                · have n178 := ng_n hs_178 (by omega)
                  refine tz_iload (pc := 191) dX12_normalOf_191 rfl ?_
                  exact tz_iret (pc := 193) (z := z_172) dX12_normalOf_193 rfl (Nat.le_of_ble_eq_true rfl) (Nat.le_of_ble_eq_true rfl) ⟨Nat.le_refl _, Nat.le_add_right _ _⟩ ⟨_, rfl, (by omega), ⟨m_172, p_172, h_172, fun _ => (by rw [dn9]; exact NOC.m (noc_l hv9 e9 so_83 g135 (by rw [hs8]; omega) mk9 g159.1 (h_153 g159.1).1 x_172 (fun q8 => absurd q8 n178) rfl rfl) (by show _ ≤ 3 * nWT d9 + 8; have := nWT_0 d9; omega)), fun q9 => absurd gJ q9⟩⟩
                · have g178 := ng_y hs_178 (by omega)
                  refine tz_aload_n (pc := 184) dX12_normalOf_184 rfl rfl ?_
                  refine tz_iload_n (pc := 185) dX12_normalOf_185 rfl rfl ?_
                  refine tz_iload (pc := 186) dX12_normalOf_186 rfl ?_
                  refine tz_cV (pc := 188) (x_memoGets hl n _ _ _ (by omega) (by omega) m_172 (p_172).1.2.2.1) vl_X12_218 dX12_normalOf_188 o_164 rfl rfl (Nat.le_of_ble_eq_true rfl) ⟨(show 1 + 1 ≤ 12 + 1 * (r9 + 1) by omega), (show 8 + (3 + 11) + 40 * (1) ≤ 40 * (12 + 1 * (r9 + 1)) by omega)⟩ rfl rfl (Nat.le_of_ble_eq_true rfl) (Nat.le_of_ble_eq_true rfl) (fun r9 J_188 hq9 => ?_)
                  obtain ⟨rfl, f5, e5⟩ := hq9
                  have m5 : MM (J_188 165) m_172 := by rw [e5]; exact (p_172).1.2.2.1.mg (by omega) (by omega)
                  have M5 := mmf_mg f5 e5 (p_172).1.2.2.1
                  have p_188 := (p_172).tr (NP.mmf (p_172).1 M5 m5)
                  have k_188 : J_188 164 = J_172 164 := f5 164 rfl
                  refine tz_iload (pc := 191) dX12_normalOf_191 rfl ?_
                  exact tz_iret (pc := 193) (z := z_172) dX12_normalOf_193 rfl (Nat.le_of_ble_eq_true rfl) (Nat.le_of_ble_eq_true rfl) ⟨Nat.le_refl _, Nat.le_add_right _ _⟩ ⟨_, rfl, (by omega), ⟨m_172, p_188, fun _ _ => h_172 g178.1 g178.2, fun _ => (by rw [dn9]; exact NOC.m (noc_l hv9 e9 so_83 g135 (by rw [hs8]; omega) mk9 g159.1 (h_153 g159.1).1 x_172 (fun _ => tb0_mg f5 e5 (mmb (p_172).1.2.2.1)) (by rw [k_188]) (by rw [k_188])) (by show _ ≤ 3 * nWT d9 + 8; have := nWT_0 d9; omega)), fun q9 => absurd gJ q9⟩⟩
              · have n159 := ng_n hs_159 (by omega)
                refine tz_iconst (pc := 165) dX12_normalOf_165 ?_
                refine tz_goto (pc := 166) (tgt := 175) dX12_normalOf_166 (by decide) ?_
                refine tz_istore (pc := 175) (L2 := [_, _, _, _, _, _, _, _]) dX12_normalOf_175 (by decide) rfl ?_
                refine tz_aload_n (pc := 177) dX12_normalOf_177 rfl rfl ?_
                refine tz_cV (pc := 178) (m_stopped hl n _) vl_X12_211 dX12_normalOf_178 o_164 rfl rfl (Nat.le_of_ble_eq_true rfl) ⟨(show 0 + 1 ≤ 12 + 1 * (r9 + 1) by omega), (show 8 + (1 + 11) + 40 * (0) ≤ 40 * (12 + 1 * (r9 + 1)) by omega)⟩ rfl rfl (Nat.le_of_ble_eq_true rfl) (Nat.le_of_ble_eq_true rfl) (fun r9 J_178 hq9 => ?_)
                obtain ⟨y_178, rfl, hz_178, rfl, hs_178⟩ := hq9
                refine tz_if_neT (pc := 181) (tgt := 191) (by omega) dX12_normalOf_181 (by decide) (by omega) ?_
                refine tz_iload (pc := 191) dX12_normalOf_191 rfl ?_
                exact tz_iret (pc := 193) (z := 0) dX12_normalOf_193 rfl (Nat.le_of_ble_eq_true rfl) (Nat.le_of_ble_eq_true rfl) ⟨Nat.le_refl _, Nat.le_add_right _ _⟩ ⟨_, rfl, (by decide), ⟨m_153, p_153, fun q9 q8 => absurd ⟨q9, q8⟩ n159, fun _ => (by rw [dn9]; exact NOC.m (noc_f (J1 := J_83) hv9 e9 so_83 g135 (by rw [hs8]; omega) (by rw [← mk9]; exact fun q9 => n159 ⟨q9, by rw [k_153]; exact g135.2⟩) (fun q9 => n159 ⟨q9, by rw [k_153]; exact g135.2⟩) k_153) (by show _ ≤ 3 * nWT d9 + 8; have := nWT_0 d9; omega)), fun q9 => absurd gJ q9⟩⟩
            · have n135 := ng_n hs_135 (by omega)
              refine tz_iconst (pc := 141) dX12_normalOf_141 ?_
              refine tz_goto (pc := 142) (tgt := 156) dX12_normalOf_142 (by decide) ?_
              refine tz_istore (pc := 156) (L2 := [_, _, _, _, _, _, _, _]) dX12_normalOf_156 (by decide) rfl ?_
              refine tz_aload_n (pc := 158) dX12_normalOf_158 rfl rfl ?_
              refine tz_cV (pc := 159) (m_stopped hl n _) vl_X12_211 dX12_normalOf_159 o_164 rfl rfl (Nat.le_of_ble_eq_true rfl) ⟨(show 0 + 1 ≤ 12 + 1 * (r9 + 1) by omega), (show 8 + (1 + 11) + 40 * (0) ≤ 40 * (12 + 1 * (r9 + 1)) by omega)⟩ rfl rfl (Nat.le_of_ble_eq_true rfl) (Nat.le_of_ble_eq_true rfl) (fun r9 J_159 hq9 => ?_)
              obtain ⟨y_159, rfl, hz_159, rfl, hs_159⟩ := hq9
              refine tz_if_eqF (pc := 162) (tgt := 169) (by omega) dX12_normalOf_162 (by decide) (by omega) ?_
              refine tz_iconst (pc := 165) dX12_normalOf_165 ?_
              refine tz_goto (pc := 166) (tgt := 175) dX12_normalOf_166 (by decide) ?_
              refine tz_istore (pc := 175) (L2 := [_, _, _, _, _, _, _, _]) dX12_normalOf_175 (by decide) rfl ?_
              refine tz_aload_n (pc := 177) dX12_normalOf_177 rfl rfl ?_
              refine tz_cV (pc := 178) (m_stopped hl n _) vl_X12_211 dX12_normalOf_178 o_164 rfl rfl (Nat.le_of_ble_eq_true rfl) ⟨(show 0 + 1 ≤ 12 + 1 * (r9 + 1) by omega), (show 8 + (1 + 11) + 40 * (0) ≤ 40 * (12 + 1 * (r9 + 1)) by omega)⟩ rfl rfl (Nat.le_of_ble_eq_true rfl) (Nat.le_of_ble_eq_true rfl) (fun r9 J_178 hq9 => ?_)
              obtain ⟨y_178, rfl, hz_178, rfl, hs_178⟩ := hq9
              refine tz_if_neT (pc := 181) (tgt := 191) (by omega) dX12_normalOf_181 (by decide) (by omega) ?_
              refine tz_iload (pc := 191) dX12_normalOf_191 rfl ?_
              exact tz_iret (pc := 193) (z := 0) dX12_normalOf_193 rfl (Nat.le_of_ble_eq_true rfl) (Nat.le_of_ble_eq_true rfl) ⟨Nat.le_refl _, Nat.le_add_right _ _⟩ ⟨_, rfl, (by decide), ⟨m_83, p_83, fun q9 q8 => absurd ⟨q9, q8⟩ n135, fun _ => (by rw [dn9]; exact NOC.m (noc_s hv9 e9 so_83 n135 rfl rfl) (by show _ ≤ 3 * nWT d9 + 8; have := nWT_0 d9; omega)), fun q9 => absurd gJ q9⟩⟩
          · refine tz_aload_n (pc := 97) dX12_normalOf_97 rfl rfl ?_
            refine tz_aload_n (pc := 98) dX12_normalOf_98 rfl rfl ?_
            refine tz_iload_n (pc := 99) dX12_normalOf_99 rfl rfl ?_
            refine tz_iconst (pc := 100) dX12_normalOf_100 ?_
            have l_101 := (q_83).1.2
            have tt_101 := (q_83).1.1.told
            refine tz_cV (pc := 101) (m_arg hl n _ _ _ (by omega) (by decide) 0 0 0 s m_83 (q_83).1.1 (by omega) (by omega)) vl_X12_88 dX12_normalOf_101 o_164 rfl rfl (Nat.le_of_ble_eq_true rfl) ⟨(show 0 + 1 ≤ 12 + 1 * (r9 + 1) by omega), (show 8 + (3 + 11) + 40 * (0) ≤ 40 * (12 + 1 * (r9 + 1)) by omega)⟩ rfl rfl (Nat.le_of_ble_eq_true rfl) (Nat.le_of_ble_eq_true rfl) (fun r9 J_101 hq9 => ?_)
            obtain ⟨z_101, rfl, hz_101, rfl, hv_101⟩ := hq9
            have he_101 : J_83 167 (3 * (0 + t) + 1) = J 167 (3 * (0 + t) + 1) := ((q_83).2.1 t ht.1 ht.2).2 1 (by omega) (by omega)
            rw [he_101] at hv_101
            obtain rfl : J 167 (3 * (0 + t) + 1) = z_101 := hv_101
            have a_104 := hM.arg (t := t) (i := 1) ht (by omega)
            refine tz_cV (pc := 104) (ihN _ _ (by omega) s m_83 (p_83).1 (((p_83).2.1.2.2.1.2.2.1 9 rfl).trans hs9) (by omega) (by rw [((q_83).2.1 _ (by omega) (by omega)).1.2]; omega)) vl_X12_221 dX12_normalOf_104 o_164 rfl rfl (Nat.le_of_ble_eq_true rfl) ⟨(show (12 + 1 * r9) + 1 ≤ 12 + 1 * (r9 + 1) by omega), (show 8 + (8 + 11) + 40 * ((12 + 1 * r9)) ≤ 40 * (12 + 1 * (r9 + 1)) by omega)⟩ rfl rfl (Nat.le_of_ble_eq_true rfl) (Nat.le_of_ble_eq_true rfl) (fun r9 J_104 hq9 => ?_)
            obtain ⟨z_104, rfl, hz_104, m_104, n_104, h_104, x_104, y_104⟩ := hq9
            have p_104 : NP J_104 J 0 0 0 s m m_104 := (p_83).tr (n_104)
            have q_104 := p_104.2.1
            have u_104 := NP.fu (n_104)
            have v_104 := NP.fu p_104
            have at_104 := noc_at hM (q_83) ht (i := 1) (by omega) (d := d9) hd9 x_104
            have so_104 := nso_a1 so_83 at_104.1 at_104.2 y_104 (nWT_0 d9)
            refine tz_goto (pc := 107) (tgt := 111) dX12_normalOf_107 (by decide) ?_
            refine tz_istore (pc := 111) (L2 := [_, _, _, _, _, _, _, _]) dX12_normalOf_111 (by decide) rfl ?_
            refine tz_iload_n (pc := 113) dX12_normalOf_113 rfl rfl ?_
            refine tz_iconst (pc := 114) dX12_normalOf_114 ?_
            refine tz_icmp_le (pc := 115) (tgt := 131) dX12_normalOf_115 (by decide) (by omega) (by decide) (fun h_115 => ?_) (fun h_115 => ?_)
            · refine tz_iconst (pc := 131) dX12_normalOf_131 ?_
              refine tz_istore (pc := 132) (L2 := [_, _, _, _, _, _, _, _]) dX12_normalOf_132 (by decide) rfl ?_
              refine tz_aload_n (pc := 134) dX12_normalOf_134 rfl rfl ?_
              refine tz_cV (pc := 135) (m_stopped hl n _) vl_X12_211 dX12_normalOf_135 o_164 rfl rfl (Nat.le_of_ble_eq_true rfl) ⟨(show 0 + 1 ≤ 12 + 1 * (r9 + 1) by omega), (show 8 + (1 + 11) + 40 * (0) ≤ 40 * (12 + 1 * (r9 + 1)) by omega)⟩ rfl rfl (Nat.le_of_ble_eq_true rfl) (Nat.le_of_ble_eq_true rfl) (fun r9 J_135 hq9 => ?_)
              obtain ⟨y_135, rfl, hz_135, rfl, hs_135⟩ := hq9
              refine tz_if_eq (pc := 138) (tgt := 145) dX12_normalOf_138 (by decide) (by omega) (fun h_138 => ?_) (fun h_138 => ?_)
              · have g135 := ng_y hs_135 (by omega)
                refine tz_aload_n (pc := 145) dX12_normalOf_145 rfl rfl ?_
                refine tz_iload_n (pc := 146) dX12_normalOf_146 rfl rfl ?_
                refine tz_iload (pc := 147) dX12_normalOf_147 rfl ?_
                refine tz_iload (pc := 149) dX12_normalOf_149 rfl ?_
                refine tz_iload (pc := 151) dX12_normalOf_151 rfl ?_
                refine tz_cV (pc := 153) (o_remade hl n _ _ _ _ _ (by omega) (by omega) (by omega) (by omega) s m_104 (q_104).1.1 (((q_104).2.2.1.2.2.1 9 rfl).trans hs9) (by omega) (fun q9 => by have e9 := (q_104).ar ht ((q_104).2.2.1.2.2.2 170 rfl); rw [e9]; omega)) vl_X12_152 dX12_normalOf_153 o_164 rfl rfl (Nat.le_of_ble_eq_true rfl) ⟨(show 3 + 1 ≤ 12 + 1 * (r9 + 1) by omega), (show 8 + (5 + 11) + 40 * (3) ≤ 40 * (12 + 1 * (r9 + 1)) by omega)⟩ rfl rfl (Nat.le_of_ble_eq_true rfl) (Nat.le_of_ble_eq_true rfl) (fun r9 J_153 hq9 => ?_)
                obtain ⟨z_153, rfl, hz_153, m_153, n_153, h_153, x_153⟩ := hq9
                have p_153 : NP J_153 J 0 0 0 s m m_153 := (p_104).tr (NP.mg (p_104).1 n_153)
                have q_153 := p_153.2.1
                have u_153 := NP.fu (NP.mg (p_104).1 n_153)
                have v_153 := NP.fu p_153
                have k_153 : J_153 164 34 = J_104 164 34 := n_153.2.2.1.2.2.1 34 rfl
                have mk9 := x_153
                rw [← ((q_104).1.1.oa (t := t) ⟨ht.1, by omega⟩).1] at mk9
                have hs8 := mar_at (q_104) ((q_104).2.2.1.2.2.2 170 rfl) ht
                refine tz_istore (pc := 156) (L2 := [_, _, _, _, _, _, _, _]) dX12_normalOf_156 (by decide) rfl ?_
                refine tz_aload_n (pc := 158) dX12_normalOf_158 rfl rfl ?_
                refine tz_cV (pc := 159) (m_stopped hl n _) vl_X12_211 dX12_normalOf_159 o_164 rfl rfl (Nat.le_of_ble_eq_true rfl) ⟨(show 0 + 1 ≤ 12 + 1 * (r9 + 1) by omega), (show 8 + (1 + 11) + 40 * (0) ≤ 40 * (12 + 1 * (r9 + 1)) by omega)⟩ rfl rfl (Nat.le_of_ble_eq_true rfl) (Nat.le_of_ble_eq_true rfl) (fun r9 J_159 hq9 => ?_)
                obtain ⟨y_159, rfl, hz_159, rfl, hs_159⟩ := hq9
                refine tz_if_eq (pc := 162) (tgt := 169) dX12_normalOf_162 (by decide) (by omega) (fun h_162 => ?_) (fun h_162 => ?_)
                · have g159 := ng_y hs_159 (by omega)
                  refine tz_aload_n (pc := 169) dX12_normalOf_169 rfl rfl ?_
                  refine tz_iload (pc := 170) dX12_normalOf_170 rfl ?_
                  refine tz_cV (pc := 172) (ihL _ _ (by omega) s m_153 (p_153).1 (((p_153).2.1.2.2.1.2.2.1 9 rfl).trans hs9) (by omega) (by omega) (by omega) (by omega)) vl_X12_224 dX12_normalOf_172 o_164 rfl rfl (Nat.le_of_ble_eq_true rfl) ⟨(show (12 + 1 * r9) + 1 ≤ 12 + 1 * (r9 + 1) by omega), (show 8 + (4 + 11) + 40 * ((12 + 1 * r9)) ≤ 40 * (12 + 1 * (r9 + 1)) by omega)⟩ rfl rfl (Nat.le_of_ble_eq_true rfl) (Nat.le_of_ble_eq_true rfl) (fun r9 J_172 hq9 => ?_)
                  obtain ⟨z_172, rfl, hz_172, m_172, n_172, h_172, x_172⟩ := hq9
                  have p_172 : NP J_172 J 0 0 0 s m m_172 := (p_153).tr (n_172)
                  have q_172 := p_172.2.1
                  have u_172 := NP.fu (n_172)
                  have v_172 := NP.fu p_172
                  rw [k_153] at x_172
                  refine tz_istore (pc := 175) (L2 := [_, _, _, _, _, _, _, _]) dX12_normalOf_175 (by decide) rfl ?_
                  refine tz_aload_n (pc := 177) dX12_normalOf_177 rfl rfl ?_
                  refine tz_cV (pc := 178) (m_stopped hl n _) vl_X12_211 dX12_normalOf_178 o_164 rfl rfl (Nat.le_of_ble_eq_true rfl) ⟨(show 0 + 1 ≤ 12 + 1 * (r9 + 1) by omega), (show 8 + (1 + 11) + 40 * (0) ≤ 40 * (12 + 1 * (r9 + 1)) by omega)⟩ rfl rfl (Nat.le_of_ble_eq_true rfl) (Nat.le_of_ble_eq_true rfl) (fun r9 J_178 hq9 => ?_)
                  obtain ⟨y_178, rfl, hz_178, rfl, hs_178⟩ := hq9
                  refine tz_if_ne (pc := 181) (tgt := 191) dX12_normalOf_181 (by decide) (by omega) (fun h_181 => ?_) (fun h_181 => ?_)
                  · have n178 := ng_n hs_178 (by omega)
                    refine tz_iload (pc := 191) dX12_normalOf_191 rfl ?_
                    exact tz_iret (pc := 193) (z := z_172) dX12_normalOf_193 rfl (Nat.le_of_ble_eq_true rfl) (Nat.le_of_ble_eq_true rfl) ⟨Nat.le_refl _, Nat.le_add_right _ _⟩ ⟨_, rfl, (by omega), ⟨m_172, p_172, h_172, fun _ => (by rw [dn9]; exact NOC.m (noc_l hv9 e9 so_104 g135 (by rw [hs8]; omega) mk9 g159.1 (h_153 g159.1).1 x_172 (fun q8 => absurd q8 n178) rfl rfl) (by show _ ≤ 3 * nWT d9 + 8; have := nWT_0 d9; omega)), fun q9 => absurd gJ q9⟩⟩
                  · have g178 := ng_y hs_178 (by omega)
                    refine tz_aload_n (pc := 184) dX12_normalOf_184 rfl rfl ?_
                    refine tz_iload_n (pc := 185) dX12_normalOf_185 rfl rfl ?_
                    refine tz_iload (pc := 186) dX12_normalOf_186 rfl ?_
                    refine tz_cV (pc := 188) (x_memoGets hl n _ _ _ (by omega) (by omega) m_172 (p_172).1.2.2.1) vl_X12_218 dX12_normalOf_188 o_164 rfl rfl (Nat.le_of_ble_eq_true rfl) ⟨(show 1 + 1 ≤ 12 + 1 * (r9 + 1) by omega), (show 8 + (3 + 11) + 40 * (1) ≤ 40 * (12 + 1 * (r9 + 1)) by omega)⟩ rfl rfl (Nat.le_of_ble_eq_true rfl) (Nat.le_of_ble_eq_true rfl) (fun r9 J_188 hq9 => ?_)
                    obtain ⟨rfl, f5, e5⟩ := hq9
                    have m5 : MM (J_188 165) m_172 := by rw [e5]; exact (p_172).1.2.2.1.mg (by omega) (by omega)
                    have M5 := mmf_mg f5 e5 (p_172).1.2.2.1
                    have p_188 := (p_172).tr (NP.mmf (p_172).1 M5 m5)
                    have k_188 : J_188 164 = J_172 164 := f5 164 rfl
                    refine tz_iload (pc := 191) dX12_normalOf_191 rfl ?_
                    exact tz_iret (pc := 193) (z := z_172) dX12_normalOf_193 rfl (Nat.le_of_ble_eq_true rfl) (Nat.le_of_ble_eq_true rfl) ⟨Nat.le_refl _, Nat.le_add_right _ _⟩ ⟨_, rfl, (by omega), ⟨m_172, p_188, fun _ _ => h_172 g178.1 g178.2, fun _ => (by rw [dn9]; exact NOC.m (noc_l hv9 e9 so_104 g135 (by rw [hs8]; omega) mk9 g159.1 (h_153 g159.1).1 x_172 (fun _ => tb0_mg f5 e5 (mmb (p_172).1.2.2.1)) (by rw [k_188]) (by rw [k_188])) (by show _ ≤ 3 * nWT d9 + 8; have := nWT_0 d9; omega)), fun q9 => absurd gJ q9⟩⟩
                · have n159 := ng_n hs_159 (by omega)
                  refine tz_iconst (pc := 165) dX12_normalOf_165 ?_
                  refine tz_goto (pc := 166) (tgt := 175) dX12_normalOf_166 (by decide) ?_
                  refine tz_istore (pc := 175) (L2 := [_, _, _, _, _, _, _, _]) dX12_normalOf_175 (by decide) rfl ?_
                  refine tz_aload_n (pc := 177) dX12_normalOf_177 rfl rfl ?_
                  refine tz_cV (pc := 178) (m_stopped hl n _) vl_X12_211 dX12_normalOf_178 o_164 rfl rfl (Nat.le_of_ble_eq_true rfl) ⟨(show 0 + 1 ≤ 12 + 1 * (r9 + 1) by omega), (show 8 + (1 + 11) + 40 * (0) ≤ 40 * (12 + 1 * (r9 + 1)) by omega)⟩ rfl rfl (Nat.le_of_ble_eq_true rfl) (Nat.le_of_ble_eq_true rfl) (fun r9 J_178 hq9 => ?_)
                  obtain ⟨y_178, rfl, hz_178, rfl, hs_178⟩ := hq9
                  refine tz_if_neT (pc := 181) (tgt := 191) (by omega) dX12_normalOf_181 (by decide) (by omega) ?_
                  refine tz_iload (pc := 191) dX12_normalOf_191 rfl ?_
                  exact tz_iret (pc := 193) (z := 0) dX12_normalOf_193 rfl (Nat.le_of_ble_eq_true rfl) (Nat.le_of_ble_eq_true rfl) ⟨Nat.le_refl _, Nat.le_add_right _ _⟩ ⟨_, rfl, (by decide), ⟨m_153, p_153, fun q9 q8 => absurd ⟨q9, q8⟩ n159, fun _ => (by rw [dn9]; exact NOC.m (noc_f (J1 := J_104) hv9 e9 so_104 g135 (by rw [hs8]; omega) (by rw [← mk9]; exact fun q9 => n159 ⟨q9, by rw [k_153]; exact g135.2⟩) (fun q9 => n159 ⟨q9, by rw [k_153]; exact g135.2⟩) k_153) (by show _ ≤ 3 * nWT d9 + 8; have := nWT_0 d9; omega)), fun q9 => absurd gJ q9⟩⟩
              · have n135 := ng_n hs_135 (by omega)
                refine tz_iconst (pc := 141) dX12_normalOf_141 ?_
                refine tz_goto (pc := 142) (tgt := 156) dX12_normalOf_142 (by decide) ?_
                refine tz_istore (pc := 156) (L2 := [_, _, _, _, _, _, _, _]) dX12_normalOf_156 (by decide) rfl ?_
                refine tz_aload_n (pc := 158) dX12_normalOf_158 rfl rfl ?_
                refine tz_cV (pc := 159) (m_stopped hl n _) vl_X12_211 dX12_normalOf_159 o_164 rfl rfl (Nat.le_of_ble_eq_true rfl) ⟨(show 0 + 1 ≤ 12 + 1 * (r9 + 1) by omega), (show 8 + (1 + 11) + 40 * (0) ≤ 40 * (12 + 1 * (r9 + 1)) by omega)⟩ rfl rfl (Nat.le_of_ble_eq_true rfl) (Nat.le_of_ble_eq_true rfl) (fun r9 J_159 hq9 => ?_)
                obtain ⟨y_159, rfl, hz_159, rfl, hs_159⟩ := hq9
                refine tz_if_eqF (pc := 162) (tgt := 169) (by omega) dX12_normalOf_162 (by decide) (by omega) ?_
                refine tz_iconst (pc := 165) dX12_normalOf_165 ?_
                refine tz_goto (pc := 166) (tgt := 175) dX12_normalOf_166 (by decide) ?_
                refine tz_istore (pc := 175) (L2 := [_, _, _, _, _, _, _, _]) dX12_normalOf_175 (by decide) rfl ?_
                refine tz_aload_n (pc := 177) dX12_normalOf_177 rfl rfl ?_
                refine tz_cV (pc := 178) (m_stopped hl n _) vl_X12_211 dX12_normalOf_178 o_164 rfl rfl (Nat.le_of_ble_eq_true rfl) ⟨(show 0 + 1 ≤ 12 + 1 * (r9 + 1) by omega), (show 8 + (1 + 11) + 40 * (0) ≤ 40 * (12 + 1 * (r9 + 1)) by omega)⟩ rfl rfl (Nat.le_of_ble_eq_true rfl) (Nat.le_of_ble_eq_true rfl) (fun r9 J_178 hq9 => ?_)
                obtain ⟨y_178, rfl, hz_178, rfl, hs_178⟩ := hq9
                refine tz_if_neT (pc := 181) (tgt := 191) (by omega) dX12_normalOf_181 (by decide) (by omega) ?_
                refine tz_iload (pc := 191) dX12_normalOf_191 rfl ?_
                exact tz_iret (pc := 193) (z := 0) dX12_normalOf_193 rfl (Nat.le_of_ble_eq_true rfl) (Nat.le_of_ble_eq_true rfl) ⟨Nat.le_refl _, Nat.le_add_right _ _⟩ ⟨_, rfl, (by decide), ⟨m_104, p_104, fun q9 q8 => absurd ⟨q9, q8⟩ n135, fun _ => (by rw [dn9]; exact NOC.m (noc_s hv9 e9 so_104 n135 rfl rfl) (by show _ ≤ 3 * nWT d9 + 8; have := nWT_0 d9; omega)), fun q9 => absurd gJ q9⟩⟩
            · refine tz_aload_n (pc := 118) dX12_normalOf_118 rfl rfl ?_
              refine tz_aload_n (pc := 119) dX12_normalOf_119 rfl rfl ?_
              refine tz_iload_n (pc := 120) dX12_normalOf_120 rfl rfl ?_
              refine tz_iconst (pc := 121) dX12_normalOf_121 ?_
              have l_122 := (q_104).1.2
              have tt_122 := (q_104).1.1.told
              refine tz_cV (pc := 122) (m_arg hl n _ _ _ (by omega) (by decide) 0 0 0 s m_104 (q_104).1.1 (by omega) (by omega)) vl_X12_88 dX12_normalOf_122 o_164 rfl rfl (Nat.le_of_ble_eq_true rfl) ⟨(show 0 + 1 ≤ 12 + 1 * (r9 + 1) by omega), (show 8 + (3 + 11) + 40 * (0) ≤ 40 * (12 + 1 * (r9 + 1)) by omega)⟩ rfl rfl (Nat.le_of_ble_eq_true rfl) (Nat.le_of_ble_eq_true rfl) (fun r9 J_122 hq9 => ?_)
              obtain ⟨z_122, rfl, hz_122, rfl, hv_122⟩ := hq9
              have he_122 : J_104 167 (3 * (0 + t) + 2) = J 167 (3 * (0 + t) + 2) := ((q_104).2.1 t ht.1 ht.2).2 2 (by omega) (by omega)
              rw [he_122] at hv_122
              obtain rfl : J 167 (3 * (0 + t) + 2) = z_122 := hv_122
              have a_125 := hM.arg (t := t) (i := 2) ht (by omega)
              refine tz_cV (pc := 125) (ihN _ _ (by omega) s m_104 (p_104).1 (((p_104).2.1.2.2.1.2.2.1 9 rfl).trans hs9) (by omega) (by rw [((q_104).2.1 _ (by omega) (by omega)).1.2]; omega)) vl_X12_221 dX12_normalOf_125 o_164 rfl rfl (Nat.le_of_ble_eq_true rfl) ⟨(show (12 + 1 * r9) + 1 ≤ 12 + 1 * (r9 + 1) by omega), (show 8 + (8 + 11) + 40 * ((12 + 1 * r9)) ≤ 40 * (12 + 1 * (r9 + 1)) by omega)⟩ rfl rfl (Nat.le_of_ble_eq_true rfl) (Nat.le_of_ble_eq_true rfl) (fun r9 J_125 hq9 => ?_)
              obtain ⟨z_125, rfl, hz_125, m_125, n_125, h_125, x_125, y_125⟩ := hq9
              have p_125 : NP J_125 J 0 0 0 s m m_125 := (p_104).tr (n_125)
              have q_125 := p_125.2.1
              have u_125 := NP.fu (n_125)
              have v_125 := NP.fu p_125
              have at_125 := noc_at hM (q_104) ht (i := 2) (by omega) (d := d9) hd9 x_125
              have so_125 := nso_a2 so_104 at_125.1 at_125.2 y_125 (nWT_0 d9)
              refine tz_goto (pc := 128) (tgt := 132) dX12_normalOf_128 (by decide) ?_
              refine tz_istore (pc := 132) (L2 := [_, _, _, _, _, _, _, _]) dX12_normalOf_132 (by decide) rfl ?_
              refine tz_aload_n (pc := 134) dX12_normalOf_134 rfl rfl ?_
              refine tz_cV (pc := 135) (m_stopped hl n _) vl_X12_211 dX12_normalOf_135 o_164 rfl rfl (Nat.le_of_ble_eq_true rfl) ⟨(show 0 + 1 ≤ 12 + 1 * (r9 + 1) by omega), (show 8 + (1 + 11) + 40 * (0) ≤ 40 * (12 + 1 * (r9 + 1)) by omega)⟩ rfl rfl (Nat.le_of_ble_eq_true rfl) (Nat.le_of_ble_eq_true rfl) (fun r9 J_135 hq9 => ?_)
              obtain ⟨y_135, rfl, hz_135, rfl, hs_135⟩ := hq9
              refine tz_if_eq (pc := 138) (tgt := 145) dX12_normalOf_138 (by decide) (by omega) (fun h_138 => ?_) (fun h_138 => ?_)
              · have g135 := ng_y hs_135 (by omega)
                refine tz_aload_n (pc := 145) dX12_normalOf_145 rfl rfl ?_
                refine tz_iload_n (pc := 146) dX12_normalOf_146 rfl rfl ?_
                refine tz_iload (pc := 147) dX12_normalOf_147 rfl ?_
                refine tz_iload (pc := 149) dX12_normalOf_149 rfl ?_
                refine tz_iload (pc := 151) dX12_normalOf_151 rfl ?_
                refine tz_cV (pc := 153) (o_remade hl n _ _ _ _ _ (by omega) (by omega) (by omega) (by omega) s m_125 (q_125).1.1 (((q_125).2.2.1.2.2.1 9 rfl).trans hs9) (by omega) (fun q9 => by have e9 := (q_125).ar ht ((q_125).2.2.1.2.2.2 170 rfl); rw [e9]; omega)) vl_X12_152 dX12_normalOf_153 o_164 rfl rfl (Nat.le_of_ble_eq_true rfl) ⟨(show 3 + 1 ≤ 12 + 1 * (r9 + 1) by omega), (show 8 + (5 + 11) + 40 * (3) ≤ 40 * (12 + 1 * (r9 + 1)) by omega)⟩ rfl rfl (Nat.le_of_ble_eq_true rfl) (Nat.le_of_ble_eq_true rfl) (fun r9 J_153 hq9 => ?_)
                obtain ⟨z_153, rfl, hz_153, m_153, n_153, h_153, x_153⟩ := hq9
                have p_153 : NP J_153 J 0 0 0 s m m_153 := (p_125).tr (NP.mg (p_125).1 n_153)
                have q_153 := p_153.2.1
                have u_153 := NP.fu (NP.mg (p_125).1 n_153)
                have v_153 := NP.fu p_153
                have k_153 : J_153 164 34 = J_125 164 34 := n_153.2.2.1.2.2.1 34 rfl
                have mk9 := x_153
                rw [← ((q_125).1.1.oa (t := t) ⟨ht.1, by omega⟩).1] at mk9
                have hs8 := mar_at (q_125) ((q_125).2.2.1.2.2.2 170 rfl) ht
                refine tz_istore (pc := 156) (L2 := [_, _, _, _, _, _, _, _]) dX12_normalOf_156 (by decide) rfl ?_
                refine tz_aload_n (pc := 158) dX12_normalOf_158 rfl rfl ?_
                refine tz_cV (pc := 159) (m_stopped hl n _) vl_X12_211 dX12_normalOf_159 o_164 rfl rfl (Nat.le_of_ble_eq_true rfl) ⟨(show 0 + 1 ≤ 12 + 1 * (r9 + 1) by omega), (show 8 + (1 + 11) + 40 * (0) ≤ 40 * (12 + 1 * (r9 + 1)) by omega)⟩ rfl rfl (Nat.le_of_ble_eq_true rfl) (Nat.le_of_ble_eq_true rfl) (fun r9 J_159 hq9 => ?_)
                obtain ⟨y_159, rfl, hz_159, rfl, hs_159⟩ := hq9
                refine tz_if_eq (pc := 162) (tgt := 169) dX12_normalOf_162 (by decide) (by omega) (fun h_162 => ?_) (fun h_162 => ?_)
                · have g159 := ng_y hs_159 (by omega)
                  refine tz_aload_n (pc := 169) dX12_normalOf_169 rfl rfl ?_
                  refine tz_iload (pc := 170) dX12_normalOf_170 rfl ?_
                  refine tz_cV (pc := 172) (ihL _ _ (by omega) s m_153 (p_153).1 (((p_153).2.1.2.2.1.2.2.1 9 rfl).trans hs9) (by omega) (by omega) (by omega) (by omega)) vl_X12_224 dX12_normalOf_172 o_164 rfl rfl (Nat.le_of_ble_eq_true rfl) ⟨(show (12 + 1 * r9) + 1 ≤ 12 + 1 * (r9 + 1) by omega), (show 8 + (4 + 11) + 40 * ((12 + 1 * r9)) ≤ 40 * (12 + 1 * (r9 + 1)) by omega)⟩ rfl rfl (Nat.le_of_ble_eq_true rfl) (Nat.le_of_ble_eq_true rfl) (fun r9 J_172 hq9 => ?_)
                  obtain ⟨z_172, rfl, hz_172, m_172, n_172, h_172, x_172⟩ := hq9
                  have p_172 : NP J_172 J 0 0 0 s m m_172 := (p_153).tr (n_172)
                  have q_172 := p_172.2.1
                  have u_172 := NP.fu (n_172)
                  have v_172 := NP.fu p_172
                  rw [k_153] at x_172
                  refine tz_istore (pc := 175) (L2 := [_, _, _, _, _, _, _, _]) dX12_normalOf_175 (by decide) rfl ?_
                  refine tz_aload_n (pc := 177) dX12_normalOf_177 rfl rfl ?_
                  refine tz_cV (pc := 178) (m_stopped hl n _) vl_X12_211 dX12_normalOf_178 o_164 rfl rfl (Nat.le_of_ble_eq_true rfl) ⟨(show 0 + 1 ≤ 12 + 1 * (r9 + 1) by omega), (show 8 + (1 + 11) + 40 * (0) ≤ 40 * (12 + 1 * (r9 + 1)) by omega)⟩ rfl rfl (Nat.le_of_ble_eq_true rfl) (Nat.le_of_ble_eq_true rfl) (fun r9 J_178 hq9 => ?_)
                  obtain ⟨y_178, rfl, hz_178, rfl, hs_178⟩ := hq9
                  refine tz_if_ne (pc := 181) (tgt := 191) dX12_normalOf_181 (by decide) (by omega) (fun h_181 => ?_) (fun h_181 => ?_)
                  · have n178 := ng_n hs_178 (by omega)
                    refine tz_iload (pc := 191) dX12_normalOf_191 rfl ?_
                    exact tz_iret (pc := 193) (z := z_172) dX12_normalOf_193 rfl (Nat.le_of_ble_eq_true rfl) (Nat.le_of_ble_eq_true rfl) ⟨Nat.le_refl _, Nat.le_add_right _ _⟩ ⟨_, rfl, (by omega), ⟨m_172, p_172, h_172, fun _ => (by rw [dn9]; exact NOC.m (noc_l hv9 e9 so_125 g135 (by rw [hs8]; omega) mk9 g159.1 (h_153 g159.1).1 x_172 (fun q8 => absurd q8 n178) rfl rfl) (by show _ ≤ 3 * nWT d9 + 8; have := nWT_0 d9; omega)), fun q9 => absurd gJ q9⟩⟩
                  · have g178 := ng_y hs_178 (by omega)
                    refine tz_aload_n (pc := 184) dX12_normalOf_184 rfl rfl ?_
                    refine tz_iload_n (pc := 185) dX12_normalOf_185 rfl rfl ?_
                    refine tz_iload (pc := 186) dX12_normalOf_186 rfl ?_
                    refine tz_cV (pc := 188) (x_memoGets hl n _ _ _ (by omega) (by omega) m_172 (p_172).1.2.2.1) vl_X12_218 dX12_normalOf_188 o_164 rfl rfl (Nat.le_of_ble_eq_true rfl) ⟨(show 1 + 1 ≤ 12 + 1 * (r9 + 1) by omega), (show 8 + (3 + 11) + 40 * (1) ≤ 40 * (12 + 1 * (r9 + 1)) by omega)⟩ rfl rfl (Nat.le_of_ble_eq_true rfl) (Nat.le_of_ble_eq_true rfl) (fun r9 J_188 hq9 => ?_)
                    obtain ⟨rfl, f5, e5⟩ := hq9
                    have m5 : MM (J_188 165) m_172 := by rw [e5]; exact (p_172).1.2.2.1.mg (by omega) (by omega)
                    have M5 := mmf_mg f5 e5 (p_172).1.2.2.1
                    have p_188 := (p_172).tr (NP.mmf (p_172).1 M5 m5)
                    have k_188 : J_188 164 = J_172 164 := f5 164 rfl
                    refine tz_iload (pc := 191) dX12_normalOf_191 rfl ?_
                    exact tz_iret (pc := 193) (z := z_172) dX12_normalOf_193 rfl (Nat.le_of_ble_eq_true rfl) (Nat.le_of_ble_eq_true rfl) ⟨Nat.le_refl _, Nat.le_add_right _ _⟩ ⟨_, rfl, (by omega), ⟨m_172, p_188, fun _ _ => h_172 g178.1 g178.2, fun _ => (by rw [dn9]; exact NOC.m (noc_l hv9 e9 so_125 g135 (by rw [hs8]; omega) mk9 g159.1 (h_153 g159.1).1 x_172 (fun _ => tb0_mg f5 e5 (mmb (p_172).1.2.2.1)) (by rw [k_188]) (by rw [k_188])) (by show _ ≤ 3 * nWT d9 + 8; have := nWT_0 d9; omega)), fun q9 => absurd gJ q9⟩⟩
                · have n159 := ng_n hs_159 (by omega)
                  refine tz_iconst (pc := 165) dX12_normalOf_165 ?_
                  refine tz_goto (pc := 166) (tgt := 175) dX12_normalOf_166 (by decide) ?_
                  refine tz_istore (pc := 175) (L2 := [_, _, _, _, _, _, _, _]) dX12_normalOf_175 (by decide) rfl ?_
                  refine tz_aload_n (pc := 177) dX12_normalOf_177 rfl rfl ?_
                  refine tz_cV (pc := 178) (m_stopped hl n _) vl_X12_211 dX12_normalOf_178 o_164 rfl rfl (Nat.le_of_ble_eq_true rfl) ⟨(show 0 + 1 ≤ 12 + 1 * (r9 + 1) by omega), (show 8 + (1 + 11) + 40 * (0) ≤ 40 * (12 + 1 * (r9 + 1)) by omega)⟩ rfl rfl (Nat.le_of_ble_eq_true rfl) (Nat.le_of_ble_eq_true rfl) (fun r9 J_178 hq9 => ?_)
                  obtain ⟨y_178, rfl, hz_178, rfl, hs_178⟩ := hq9
                  refine tz_if_neT (pc := 181) (tgt := 191) (by omega) dX12_normalOf_181 (by decide) (by omega) ?_
                  refine tz_iload (pc := 191) dX12_normalOf_191 rfl ?_
                  exact tz_iret (pc := 193) (z := 0) dX12_normalOf_193 rfl (Nat.le_of_ble_eq_true rfl) (Nat.le_of_ble_eq_true rfl) ⟨Nat.le_refl _, Nat.le_add_right _ _⟩ ⟨_, rfl, (by decide), ⟨m_153, p_153, fun q9 q8 => absurd ⟨q9, q8⟩ n159, fun _ => (by rw [dn9]; exact NOC.m (noc_f (J1 := J_125) hv9 e9 so_125 g135 (by rw [hs8]; omega) (by rw [← mk9]; exact fun q9 => n159 ⟨q9, by rw [k_153]; exact g135.2⟩) (fun q9 => n159 ⟨q9, by rw [k_153]; exact g135.2⟩) k_153) (by show _ ≤ 3 * nWT d9 + 8; have := nWT_0 d9; omega)), fun q9 => absurd gJ q9⟩⟩
              · have n135 := ng_n hs_135 (by omega)
                refine tz_iconst (pc := 141) dX12_normalOf_141 ?_
                refine tz_goto (pc := 142) (tgt := 156) dX12_normalOf_142 (by decide) ?_
                refine tz_istore (pc := 156) (L2 := [_, _, _, _, _, _, _, _]) dX12_normalOf_156 (by decide) rfl ?_
                refine tz_aload_n (pc := 158) dX12_normalOf_158 rfl rfl ?_
                refine tz_cV (pc := 159) (m_stopped hl n _) vl_X12_211 dX12_normalOf_159 o_164 rfl rfl (Nat.le_of_ble_eq_true rfl) ⟨(show 0 + 1 ≤ 12 + 1 * (r9 + 1) by omega), (show 8 + (1 + 11) + 40 * (0) ≤ 40 * (12 + 1 * (r9 + 1)) by omega)⟩ rfl rfl (Nat.le_of_ble_eq_true rfl) (Nat.le_of_ble_eq_true rfl) (fun r9 J_159 hq9 => ?_)
                obtain ⟨y_159, rfl, hz_159, rfl, hs_159⟩ := hq9
                refine tz_if_eqF (pc := 162) (tgt := 169) (by omega) dX12_normalOf_162 (by decide) (by omega) ?_
                refine tz_iconst (pc := 165) dX12_normalOf_165 ?_
                refine tz_goto (pc := 166) (tgt := 175) dX12_normalOf_166 (by decide) ?_
                refine tz_istore (pc := 175) (L2 := [_, _, _, _, _, _, _, _]) dX12_normalOf_175 (by decide) rfl ?_
                refine tz_aload_n (pc := 177) dX12_normalOf_177 rfl rfl ?_
                refine tz_cV (pc := 178) (m_stopped hl n _) vl_X12_211 dX12_normalOf_178 o_164 rfl rfl (Nat.le_of_ble_eq_true rfl) ⟨(show 0 + 1 ≤ 12 + 1 * (r9 + 1) by omega), (show 8 + (1 + 11) + 40 * (0) ≤ 40 * (12 + 1 * (r9 + 1)) by omega)⟩ rfl rfl (Nat.le_of_ble_eq_true rfl) (Nat.le_of_ble_eq_true rfl) (fun r9 J_178 hq9 => ?_)
                obtain ⟨y_178, rfl, hz_178, rfl, hs_178⟩ := hq9
                refine tz_if_neT (pc := 181) (tgt := 191) (by omega) dX12_normalOf_181 (by decide) (by omega) ?_
                refine tz_iload (pc := 191) dX12_normalOf_191 rfl ?_
                exact tz_iret (pc := 193) (z := 0) dX12_normalOf_193 rfl (Nat.le_of_ble_eq_true rfl) (Nat.le_of_ble_eq_true rfl) ⟨Nat.le_refl _, Nat.le_add_right _ _⟩ ⟨_, rfl, (by decide), ⟨m_125, p_125, fun q9 q8 => absurd ⟨q9, q8⟩ n135, fun _ => (by rw [dn9]; exact NOC.m (noc_s hv9 e9 so_125 n135 rfl rfl) (by show _ ≤ 3 * nWT d9 + 8; have := nWT_0 d9; omega)), fun q9 => absurd gJ q9⟩⟩
      · have gJ : NGO J := ng_y hs_1 (by omega)
        have hz18 := hz19.resolve_left (fun y => by have := y.1; omega)
        refine tz_aload_n (pc := 28) dX12_normalOf_28 rfl rfl ?_
        refine tz_fR (pc := 29) dX12_normalOf_29 fl_X12_9 r_164_0 ?_
        refine tz_bipush (pc := 32) dX12_normalOf_32 (by decide) ?_
        refine tz_iconst (pc := 34) dX12_normalOf_34 ?_
        refine tz_iload_n (pc := 35) dX12_normalOf_35 rfl rfl ?_
        refine tz_imul (pc := 36) (v := 2 * z_19) dX12_normalOf_36 rfl ?_
        refine tz_iadd (pc := 37) (v := 41 + (2 * z_19)) dX12_normalOf_37 rfl ?_
        refine tz_iconst (pc := 38) dX12_normalOf_38 ?_
        refine tz_iadd (pc := 39) (v := (41 + (2 * z_19)) + 1) dX12_normalOf_39 rfl ?_
        refine tz_aL (pc := 40) (z := ((41 + (2 * z_19)) + 1)) (v := (J 165 ((41 + (2 * z_19)) + 1))) dX12_normalOf_40 a_165 rfl (by omega) rfl (fun r_40 => ?_)
        have hu0 := hm.2.2 (2 * z_19 + 1) (by omega) (by omega)
        rw [show 41 + (2 * z_19 + 1) = 41 + 2 * z_19 + 1 by omega] at hu0
        generalize hu9 : J 165 (41 + 2 * z_19 + 1) = u at hu0 ⊢
        have hu : 0 ≤ u ∧ u < m := hu0
        refine tz_istore_n (pc := 41) (L2 := [_, _, _, _, _, _, _, _]) dX12_normalOf_41 rfl (by decide) rfl ?_
        refine tz_aload_n (pc := 42) dX12_normalOf_42 rfl rfl ?_
        refine tz_iload_n (pc := 43) dX12_normalOf_43 rfl rfl ?_
        refine tz_cV (pc := 44) (x_memoLoses hl n _ _ (by omega) m hm (by omega)) vl_X12_204 dX12_normalOf_44 o_164 rfl rfl (Nat.le_of_ble_eq_true rfl) ⟨(show 0 + 1 ≤ 12 + 1 * (r9 + 1) by omega), (show 8 + (3 + 11) + 40 * (0) ≤ 40 * (12 + 1 * (r9 + 1)) by omega)⟩ rfl rfl (Nat.le_of_ble_eq_true rfl) (Nat.le_of_ble_eq_true rfl) (fun r9 J_44 hq9 => ?_)
        obtain ⟨rfl, f4, e4⟩ := hq9
        have m4 : MM (J_44 165) m := by rw [e4]; exact hm.ml (by omega)
        have M4 := mmf_ml f4 e4 hm (by omega)
        refine tz_aload_n (pc := 47) dX12_normalOf_47 rfl rfl ?_
        refine tz_iload_n (pc := 48) dX12_normalOf_48 rfl rfl ?_
        refine tz_iload_n (pc := 49) dX12_normalOf_49 rfl rfl ?_
        refine tz_cV (pc := 50) (x_memoGets hl n _ _ _ (by omega) (by omega) m m4) vl_X12_218 dX12_normalOf_50 o_164 rfl rfl (Nat.le_of_ble_eq_true rfl) ⟨(show 1 + 1 ≤ 12 + 1 * (r9 + 1) by omega), (show 8 + (3 + 11) + 40 * (1) ≤ 40 * (12 + 1 * (r9 + 1)) by omega)⟩ rfl rfl (Nat.le_of_ble_eq_true rfl) (Nat.le_of_ble_eq_true rfl) (fun r9 J_50 hq9 => ?_)
        obtain ⟨rfl, f5, e5⟩ := hq9
        have m5 : MM (J_50 165) m := by rw [e5]; exact m4.mg ht hu
        have M5 := mmf_mg f5 e5 m4
        refine tz_aload_n (pc := 53) dX12_normalOf_53 rfl rfl ?_
        refine tz_fR (pc := 54) dX12_normalOf_54 fl_X12_9 r_164_0 ?_
        refine tz_bipush (pc := 57) dX12_normalOf_57 (by decide) ?_
        refine tz_dup2 (pc := 59) dX12_normalOf_59 rfl rfl ?_
        refine tz_aL (pc := 60) (z := 61) (v := (J_50 165 61)) dX12_normalOf_60 a_165 rfl (by decide) rfl (fun r_60 => ?_)
        refine tz_iconst (pc := 61) dX12_normalOf_61 ?_
        refine tz_iadd (pc := 62) (v := (J_50 165 61) + 1) dX12_normalOf_62 rfl ?_
        refine tz_tw ?_
        have rw_63 := zw_rg ((J_50 165 61) + 1)
        refine tz_aS (pc := 63) (z := 61) dX12_normalOf_63 a_165 rfl (by decide) (zw_rg _) ?_
        refine tz_iload_n (pc := 64) dX12_normalOf_64 rfl rfl ?_
        exact tz_iret (pc := 65) (z := u) dX12_normalOf_65 rfl (Nat.le_of_ble_eq_true rfl) (Nat.le_of_ble_eq_true rfl) ⟨Nat.le_refl _, Nat.le_add_right _ _⟩ ⟨_, rfl, (by omega), ⟨m, ((NP.mmf hN (M5.tr M4) m5)).tr (NP.hit (NP.mmf hN (M5.tr M4) m5).1), fun _ _ => hu, fun _ => NOC.m (noc_h (w := z_19) (m := m) ⟨by show J_50 164 21 = 0; rw [f5 164 rfl, f4 164 rfl]; omega, by show J_50 164 34 ≤ 100; rw [f5 164 rfl, f4 164 rfl]; omega⟩ (by rw [(hM.oa ht).1]; omega) hm (by omega) hz18.2.1 hz18.2.2 hu9 (zOf.up rfl (f5.tr f4)) (hit_e hm (by omega) hz18.2.1 hu9 (by rw [e5, e4]))) (nWT_0 _), fun q9 => absurd gJ q9⟩⟩

theorem x_normR {l : Launch} {G : tb_G} (hl : l.stackTraces = false) (n : Nat) : ∀ r9 : Nat, (∀ (J : zJ) (t : Int) (hr_t : -2147483648 ≤ t ∧ t < 2147483648) (s m : Int) (hN : NZ J 0 0 0 s m) (hs9 : J 164 9 = s) (ht : 0 ≤ t ∧ t < m), (7 * (100 - J 164 34) + J 168 (0 + t)).toNat < r9 → tz_Ok l G M_X12_normalOf (12 + 1 * r9) 0 0 [.ref 164, zi t] n J (zqi (fun z J' => ∃ m', NP J' J 0 0 0 s m m' ∧ (J' 164 21 = 0 → J' 164 34 ≤ 100 → 0 ≤ z ∧ z < m') ∧ IFN J (NOC (nWT (J 168 (0 + t)).toNat) (tb0 J) (J 164 34) t J' z) ∧ IFS J (J' 164 21 = J 164 21 ∧ J' 164 34 = J 164 34))) zN) ∧ (∀ (J : zJ) (t : Int) (hr_t : -2147483648 ≤ t ∧ t < 2147483648) (s m : Int) (hN : NZ J 0 0 0 s m) (hs9 : J 164 9 = s) (ht : 0 ≤ t ∧ t < m) (h0 : J 164 21 = 0) (h1 : J 164 34 ≤ 100), (7 * (100 - J 164 34)).toNat < r9 → tz_Ok l G M_X12_lessened (12 + 1 * r9) 0 0 [.ref 164, zi t] n J (zqi (fun z J' => ∃ m', NP J' J 0 0 0 s m m' ∧ (J' 164 21 = 0 → J' 164 34 ≤ 100 → 0 ≤ z ∧ z < m') ∧ LES (tb0 J) (J 164 34) t J' z)) zN) := by
  intro r9
  induction r9 with
  | zero => exact ⟨fun _ _ _ _ _ _ _ _ h => absurd h (Nat.not_lt_zero _), fun _ _ _ _ _ _ _ _ _ _ h => absurd h (Nat.not_lt_zero _)⟩
  | succ r9 ih => exact ⟨fun J t ht1 s m hN hs9 ht h => x_normS hl n J t ht1 s m r9 hN hs9 ht ih.1 ih.2 h, fun J t ht1 s m hN hs9 ht h0 h1 h => x_lessS hl n J t ht1 s m r9 hN hs9 ht h0 h1 ih.1 h⟩
theorem x_normal {l : Launch} {G : tb_G} (hl : l.stackTraces = false) (n : Nat) (J : zJ) (t : Int) (hr_t : -2147483648 ≤ t ∧ t < 2147483648) (s m : Int) (hN : NZ J 0 0 0 s m) (hs9 : J 164 9 = s) (ht : 0 ≤ t ∧ t < m) : tz_Ok l G M_X12_normalOf 730 0 0 [.ref 164, zi t] n J (zqi (fun z J' => ∃ m', NP J' J 0 0 0 s m m' ∧ (J' 164 21 = 0 → J' 164 34 ≤ 100 → 0 ≤ z ∧ z < m') ∧ IFN J (NOC (nWT (J 168 (0 + t)).toNat) (tb0 J) (J 164 34) t J' z) ∧ IFS J (J' 164 21 = J 164 21 ∧ J' 164 34 = J 164 34))) zN := (x_normR hl n 718).1 J t hr_t s m hN hs9 ht (by have := (hN.1.ar ht).2.2.1; have := hN.2.2.2; omega)
