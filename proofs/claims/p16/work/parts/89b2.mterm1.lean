set_option maxHeartbeats 4000000 in
set_option maxRecDepth 100000 in
theorem m_term1R {l : Launch} {G : tb_G} (hl : l.stackTraces = false) (n : Nat) : ∀ (r9 : Nat) (J : zJ) (x : Int) (hr_x : -2147483648 ≤ x ∧ x < 2147483648) (s m : Int) (hM : MS J 800 126 10 s m) (hP : RSP J) (hu : J 164 21 = 0 ∨ 0 < m) (h44 : J 164 44 = s) (hx : 1 ≤ x ∧ x ≤ 7), ((7 - x).toNat) < r9 → tz_Ok l G M_X12_term1 (6 + 1 * r9) 0 0 [.ref 164, zi x] n J (zqi (fun z J' => ∃ m', MRT J' J s m m' ∧ TV J' z m')) zN := by
  intro r9
  induction r9 with
  | zero => intro J x hr_x s m hM hP hu h44 hx hm9; exact absurd hm9 (Nat.not_lt_zero _)
  | succ r9 ih =>
    intro J x hr_x s m hM hP hu h44 hx hm9
    refine tz_Ok.of hl (by decide +kernel) rfl (tb_c1 rfl) (Nat.le_of_ble_eq_true rfl) ?_
    show tz_At l G M_X12_term1 (tb_rm (6 + 1 * (r9 + 1)) 0 0) none (tb_ZM G 0 0 (zQ n 0 (zqi (fun z J' => ∃ m', MRT J' J s m m' ∧ TV J' z m'))) (zX n 0 zN)) 0 0 n J 0 [some (.ref 164), some (zi x), none, none, none, none, none] []
    have hT := hM.told
    have g0 := MRT.rf hM hP hu
    clear hu
    refine tz_aload_n (pc := 0) dX12_term1_0 rfl rfl ?_
    refine tz_fI (pc := 1) (kz := 43) (v := (J 164 43)) dX12_term1_1 fl_X12_273 i_164_43 rfl rfl (fun r_1 => ?_)
    refine tz_if_ne (pc := 4) (tgt := 37) dX12_term1_4 (by decide) (by omega) (fun h_4 => ?_) (fun h_4 => ?_)
    · refine tz_iconst (pc := 37) dX12_term1_37 ?_
      exact tz_iret (pc := 38) (z := 0) dX12_term1_38 rfl (Nat.le_of_ble_eq_true rfl) (Nat.le_of_ble_eq_true rfl) ⟨Nat.le_refl _, Nat.le_add_right _ _⟩ ⟨_, rfl, (by decide), ⟨m, g0, fun q9 => absurd q9 h_4⟩⟩
    · refine tz_aload_n (pc := 7) dX12_term1_7 rfl rfl ?_
      refine tz_aload_n (pc := 8) dX12_term1_8 rfl rfl ?_
      refine tz_fI (pc := 9) (kz := 38) (v := (J 164 38)) dX12_term1_9 fl_X12_261 i_164_38 rfl rfl (fun r_9 => ?_)
      refine tz_iconst (pc := 12) dX12_term1_12 ?_
      refine tz_icmp_eq (pc := 13) (tgt := 25) dX12_term1_13 (by decide) (by omega) (by decide) (fun h_13 => ?_) (fun h_13 => ?_)
      · refine tz_iconst (pc := 25) dX12_term1_25 ?_
        refine tz_goto (pc := 26) (tgt := 30) dX12_term1_26 (by decide) ?_
        refine tz_iconst (pc := 30) dX12_term1_30 ?_
        refine tz_cV (pc := 31) (m_wantsW hl n _ _ _ (by decide) (by decide) (g0).2.1 (by decide)) vl_X12_276 dX12_term1_31 o_164 rfl rfl (Nat.le_of_ble_eq_true rfl) ⟨(show 0 + 1 ≤ 6 + 1 * (r9 + 1) by omega), (show 8 + (3 + 11) + 40 * (0) ≤ 40 * (6 + 1 * (r9 + 1)) by omega)⟩ rfl rfl (Nat.le_of_ble_eq_true rfl) (Nat.le_of_ble_eq_true rfl) (fun r9 J_31 hq9 => ?_)
        obtain ⟨z_31, rfl, hz_31, w_31, b_31, c_31, d_31⟩ := hq9
        have q_31 := MRT.w g0 w_31
        have o_31 : (z_31 = 0 ∧ ¬ J_31 164 43 = 0) ∨ (z_31 = 1 ∧ J_31 164 43 = 0) := by rcases b_31 with e9 | e9; exact Or.inl ⟨e9, d_31 e9⟩; exact Or.inr ⟨e9, (c_31 e9).2.1⟩
        clear b_31 c_31 d_31
        rcases o_31 with ⟨rfl, v_31⟩ | ⟨rfl, v_31⟩
        · refine tz_if_neF (pc := 34) (tgt := 39) (by decide) dX12_term1_34 (by decide) (by decide) ?_
          refine tz_iconst (pc := 37) dX12_term1_37 ?_
          exact tz_iret (pc := 38) (z := 0) dX12_term1_38 rfl (Nat.le_of_ble_eq_true rfl) (Nat.le_of_ble_eq_true rfl) ⟨Nat.le_refl _, Nat.le_add_right _ _⟩ ⟨_, rfl, (by decide), ⟨m, q_31, fun q9 => by omega⟩⟩
        · refine tz_if_neT (pc := 34) (tgt := 39) (by decide) dX12_term1_34 (by decide) (by decide) ?_
          refine tz_aload_n (pc := 39) dX12_term1_39 rfl rfl ?_
          refine tz_fI (pc := 40) (kz := 42) (v := (J_31 164 42)) dX12_term1_40 fl_X12_258 i_164_42 rfl rfl (fun r_40 => ?_)
          refine tz_bipush (pc := 43) dX12_term1_43 (by decide) ?_
          refine tz_icmp_ne (pc := 45) (tgt := 98) dX12_term1_45 (by decide) (by omega) (by decide) (fun h_45 => ?_) (fun h_45 => ?_)
          · refine tz_aload_n (pc := 98) dX12_term1_98 rfl rfl ?_
            refine tz_aload_n (pc := 99) dX12_term1_99 rfl rfl ?_
            refine tz_aload_n (pc := 100) dX12_term1_100 rfl rfl ?_
            refine tz_fI (pc := 101) (kz := 36) (v := (J_31 164 36)) dX12_term1_101 fl_X12_246 i_164_36 rfl rfl (fun r_101 => ?_)
            have y_104 := (q_31).2.1
            have x_104 := y_104.2.1
            refine tz_cV (pc := 104) (m_byteAt hl n _ _ (by omega) (by omega) y_104.1.1.2) vl_X12_240 dX12_term1_104 o_164 rfl rfl (Nat.le_of_ble_eq_true rfl) ⟨(show 0 + 1 ≤ 6 + 1 * (r9 + 1) by omega), (show 8 + (2 + 11) + 40 * (0) ≤ 40 * (6 + 1 * (r9 + 1)) by omega)⟩ rfl rfl (Nat.le_of_ble_eq_true rfl) (Nat.le_of_ble_eq_true rfl) (fun r9 J_104 hq9 => ?_)
            obtain ⟨z_104, rfl, hz_104, rfl, -, -⟩ := hq9
            clear y_104
            have s_107 : J_31 164 44 = s := ((q_31).f 44 rfl).trans h44
            refine tz_cV (pc := 107) (m_symOf hl n _ _ (by omega) (by rw [s_107]; omega)) vl_X12_293 dX12_term1_107 o_164 rfl rfl (Nat.le_of_ble_eq_true rfl) ⟨(show 0 + 1 ≤ 6 + 1 * (r9 + 1) by omega), (show 8 + (3 + 11) + 40 * (0) ≤ 40 * (6 + 1 * (r9 + 1)) by omega)⟩ rfl rfl (Nat.le_of_ble_eq_true rfl) (Nat.le_of_ble_eq_true rfl) (fun r9 J_107 hq9 => ?_)
            obtain ⟨z_107, rfl, hz_107, rfl, hs_107⟩ := hq9
            rw [s_107] at hs_107
            refine tz_istore_n (pc := 110) (L2 := [_, _, _, _, _, _, _]) dX12_term1_110 rfl (by decide) rfl ?_
            refine tz_aload_n (pc := 111) dX12_term1_111 rfl rfl ?_
            refine tz_aload_n (pc := 112) dX12_term1_112 rfl rfl ?_
            refine tz_fI (pc := 113) (kz := 41) (v := (J_31 164 41)) dX12_term1_113 fl_X12_252 i_164_41 rfl rfl (fun r_113 => ?_)
            refine tz_iconst (pc := 116) dX12_term1_116 ?_
            refine tz_icmp_ne (pc := 117) (tgt := 130) dX12_term1_117 (by decide) (by omega) (by decide) (fun h_117 => ?_) (fun h_117 => ?_)
            · refine tz_iconst (pc := 130) dX12_term1_130 ?_
              refine tz_iconst (pc := 131) dX12_term1_131 ?_
              refine tz_cV (pc := 132) (m_wantsW hl n _ _ _ (by decide) (by decide) (q_31).2.1 (by decide)) vl_X12_276 dX12_term1_132 o_164 rfl rfl (Nat.le_of_ble_eq_true rfl) ⟨(show 0 + 1 ≤ 6 + 1 * (r9 + 1) by omega), (show 8 + (3 + 11) + 40 * (0) ≤ 40 * (6 + 1 * (r9 + 1)) by omega)⟩ rfl rfl (Nat.le_of_ble_eq_true rfl) (Nat.le_of_ble_eq_true rfl) (fun r9 J_132 hq9 => ?_)
              obtain ⟨z_132, rfl, hz_132, w_132, b_132, c_132, d_132⟩ := hq9
              have q_132 := MRT.w q_31 w_132
              obtain rfl : z_132 = 0 := by rcases b_132 with e9 | e9; exact e9; exact absurd rfl (c_132 e9).2.2
              have v_132 := d_132 rfl
              clear b_132 c_132 d_132
              refine tz_if_eqT (pc := 135) (tgt := 156) (by decide) dX12_term1_135 (by decide) (by decide) ?_
              refine tz_iconst (pc := 156) dX12_term1_156 ?_
              exact tz_iret (pc := 157) (z := 0) dX12_term1_157 rfl (Nat.le_of_ble_eq_true rfl) (Nat.le_of_ble_eq_true rfl) ⟨Nat.le_refl _, Nat.le_add_right _ _⟩ ⟨_, rfl, (by decide), ⟨m, q_132, fun q9 => by omega⟩⟩
            · refine tz_iload_n (pc := 120) dX12_term1_120 rfl rfl ?_
              refine tz_bipush (pc := 121) dX12_term1_121 (by decide) ?_
              refine tz_icmp_gt (pc := 123) (tgt := 130) dX12_term1_123 (by decide) (by omega) (by decide) (fun h_123 => ?_) (fun h_123 => ?_)
              · refine tz_iconst (pc := 130) dX12_term1_130 ?_
                refine tz_iconst (pc := 131) dX12_term1_131 ?_
                refine tz_cV (pc := 132) (m_wantsW hl n _ _ _ (by decide) (by decide) (q_31).2.1 (by decide)) vl_X12_276 dX12_term1_132 o_164 rfl rfl (Nat.le_of_ble_eq_true rfl) ⟨(show 0 + 1 ≤ 6 + 1 * (r9 + 1) by omega), (show 8 + (3 + 11) + 40 * (0) ≤ 40 * (6 + 1 * (r9 + 1)) by omega)⟩ rfl rfl (Nat.le_of_ble_eq_true rfl) (Nat.le_of_ble_eq_true rfl) (fun r9 J_132 hq9 => ?_)
                obtain ⟨z_132, rfl, hz_132, w_132, b_132, c_132, d_132⟩ := hq9
                have q_132 := MRT.w q_31 w_132
                obtain rfl : z_132 = 0 := by rcases b_132 with e9 | e9; exact e9; exact absurd rfl (c_132 e9).2.2
                have v_132 := d_132 rfl
                clear b_132 c_132 d_132
                refine tz_if_eqT (pc := 135) (tgt := 156) (by decide) dX12_term1_135 (by decide) (by decide) ?_
                refine tz_iconst (pc := 156) dX12_term1_156 ?_
                exact tz_iret (pc := 157) (z := 0) dX12_term1_157 rfl (Nat.le_of_ble_eq_true rfl) (Nat.le_of_ble_eq_true rfl) ⟨Nat.le_refl _, Nat.le_add_right _ _⟩ ⟨_, rfl, (by decide), ⟨m, q_132, fun q9 => by omega⟩⟩
              · refine tz_iconst (pc := 126) dX12_term1_126 ?_
                refine tz_goto (pc := 127) (tgt := 131) dX12_term1_127 (by decide) ?_
                refine tz_iconst (pc := 131) dX12_term1_131 ?_
                refine tz_cV (pc := 132) (m_wantsW hl n _ _ _ (by decide) (by decide) (q_31).2.1 (by decide)) vl_X12_276 dX12_term1_132 o_164 rfl rfl (Nat.le_of_ble_eq_true rfl) ⟨(show 0 + 1 ≤ 6 + 1 * (r9 + 1) by omega), (show 8 + (3 + 11) + 40 * (0) ≤ 40 * (6 + 1 * (r9 + 1)) by omega)⟩ rfl rfl (Nat.le_of_ble_eq_true rfl) (Nat.le_of_ble_eq_true rfl) (fun r9 J_132 hq9 => ?_)
                obtain ⟨z_132, rfl, hz_132, w_132, b_132, c_132, d_132⟩ := hq9
                have q_132 := MRT.w q_31 w_132
                have o_132 : (z_132 = 0 ∧ ¬ J_132 164 43 = 0) ∨ (z_132 = 1 ∧ J_132 164 43 = 0) := by rcases b_132 with e9 | e9; exact Or.inl ⟨e9, d_132 e9⟩; exact Or.inr ⟨e9, (c_132 e9).2.1⟩
                clear b_132 c_132 d_132
                rcases o_132 with ⟨rfl, v_132⟩ | ⟨rfl, v_132⟩
                · refine tz_if_eqT (pc := 135) (tgt := 156) (by decide) dX12_term1_135 (by decide) (by decide) ?_
                  refine tz_iconst (pc := 156) dX12_term1_156 ?_
                  exact tz_iret (pc := 157) (z := 0) dX12_term1_157 rfl (Nat.le_of_ble_eq_true rfl) (Nat.le_of_ble_eq_true rfl) ⟨Nat.le_refl _, Nat.le_add_right _ _⟩ ⟨_, rfl, (by decide), ⟨m, q_132, fun q9 => by omega⟩⟩
                · refine tz_if_eqF (pc := 135) (tgt := 156) (by decide) dX12_term1_135 (by decide) (by decide) ?_
                  refine tz_aload_n (pc := 138) dX12_term1_138 rfl rfl ?_
                  refine tz_iload_n (pc := 139) dX12_term1_139 rfl rfl ?_
                  refine tz_iconst (pc := 140) dX12_term1_140 ?_
                  refine tz_icmp_eq (pc := 141) (tgt := 148) dX12_term1_141 (by decide) (by omega) (by decide) (fun h_141 => ?_) (fun h_141 => ?_)
                  · refine tz_iconst (pc := 148) dX12_term1_148 ?_
                    refine tz_iconst (pc := 149) dX12_term1_149 ?_
                    refine tz_cV (pc := 150) (m_wantsW hl n _ _ _ (by decide) (by decide) (q_132).2.1 (by decide)) vl_X12_276 dX12_term1_150 o_164 rfl rfl (Nat.le_of_ble_eq_true rfl) ⟨(show 0 + 1 ≤ 6 + 1 * (r9 + 1) by omega), (show 8 + (3 + 11) + 40 * (0) ≤ 40 * (6 + 1 * (r9 + 1)) by omega)⟩ rfl rfl (Nat.le_of_ble_eq_true rfl) (Nat.le_of_ble_eq_true rfl) (fun r9 J_150 hq9 => ?_)
                    obtain ⟨z_150, rfl, hz_150, w_150, b_150, c_150, d_150⟩ := hq9
                    have q_150 := MRT.w q_132 w_150
                    obtain rfl : z_150 = 0 := by rcases b_150 with e9 | e9; exact e9; exact absurd rfl (c_150 e9).2.2
                    have v_150 := d_150 rfl
                    clear b_150 c_150 d_150
                    refine tz_if_neF (pc := 153) (tgt := 158) (by decide) dX12_term1_153 (by decide) (by decide) ?_
                    refine tz_iconst (pc := 156) dX12_term1_156 ?_
                    exact tz_iret (pc := 157) (z := 0) dX12_term1_157 rfl (Nat.le_of_ble_eq_true rfl) (Nat.le_of_ble_eq_true rfl) ⟨Nat.le_refl _, Nat.le_add_right _ _⟩ ⟨_, rfl, (by decide), ⟨m, q_150, fun q9 => by omega⟩⟩
                  · refine tz_iconst (pc := 144) dX12_term1_144 ?_
                    refine tz_goto (pc := 145) (tgt := 149) dX12_term1_145 (by decide) ?_
                    refine tz_iconst (pc := 149) dX12_term1_149 ?_
                    refine tz_cV (pc := 150) (m_wantsW hl n _ _ _ (by decide) (by decide) (q_132).2.1 (by decide)) vl_X12_276 dX12_term1_150 o_164 rfl rfl (Nat.le_of_ble_eq_true rfl) ⟨(show 0 + 1 ≤ 6 + 1 * (r9 + 1) by omega), (show 8 + (3 + 11) + 40 * (0) ≤ 40 * (6 + 1 * (r9 + 1)) by omega)⟩ rfl rfl (Nat.le_of_ble_eq_true rfl) (Nat.le_of_ble_eq_true rfl) (fun r9 J_150 hq9 => ?_)
                    obtain ⟨z_150, rfl, hz_150, w_150, b_150, c_150, d_150⟩ := hq9
                    have q_150 := MRT.w q_132 w_150
                    have o_150 : (z_150 = 0 ∧ ¬ J_150 164 43 = 0) ∨ (z_150 = 1 ∧ J_150 164 43 = 0) := by rcases b_150 with e9 | e9; exact Or.inl ⟨e9, d_150 e9⟩; exact Or.inr ⟨e9, (c_150 e9).2.1⟩
                    clear b_150 c_150 d_150
                    rcases o_150 with ⟨rfl, v_150⟩ | ⟨rfl, v_150⟩
                    · refine tz_if_neF (pc := 153) (tgt := 158) (by decide) dX12_term1_153 (by decide) (by decide) ?_
                      refine tz_iconst (pc := 156) dX12_term1_156 ?_
                      exact tz_iret (pc := 157) (z := 0) dX12_term1_157 rfl (Nat.le_of_ble_eq_true rfl) (Nat.le_of_ble_eq_true rfl) ⟨Nat.le_refl _, Nat.le_add_right _ _⟩ ⟨_, rfl, (by decide), ⟨m, q_150, fun q9 => by omega⟩⟩
                    · refine tz_if_neT (pc := 153) (tgt := 158) (by decide) dX12_term1_153 (by decide) (by decide) ?_
                      refine tz_aload_n (pc := 158) dX12_term1_158 rfl rfl ?_
                      refine tz_cV (pc := 159) (m_goW hl n _ (q_150).2.1) vl_X12_280 dX12_term1_159 o_164 rfl rfl (Nat.le_of_ble_eq_true rfl) ⟨(show 2 + 1 ≤ 6 + 1 * (r9 + 1) by omega), (show 8 + (2 + 11) + 40 * (2) ≤ 40 * (6 + 1 * (r9 + 1)) by omega)⟩ rfl rfl (Nat.le_of_ble_eq_true rfl) (Nat.le_of_ble_eq_true rfl) (fun r9 J_159 hq9 => ?_)
                      obtain ⟨rfl, w_159, b_159⟩ := hq9
                      have q_159 := MRT.w q_150 w_159
                      refine tz_aload_n (pc := 162) dX12_term1_162 rfl rfl ?_
                      refine tz_fR (pc := 163) dX12_term1_163 fl_X12_25 r_164_5 ?_
                      refine tz_bipush (pc := 166) dX12_term1_166 (by decide) ?_
                      refine tz_iload_n (pc := 168) dX12_term1_168 rfl rfl ?_
                      refine tz_iadd (pc := 169) (v := 10 + z_107) dX12_term1_169 rfl ?_
                      refine tz_aL (pc := 170) (z := (10 + z_107)) (v := (J 170 (10 + z_107))) dX12_term1_170 a_170 rfl (by omega) (Eq.trans (congrFun (w_159.1.1 170 rfl) (10 + z_107)) (Eq.trans (congrFun (w_150.1.1 170 rfl) (10 + z_107)) (Eq.trans (congrFun (w_132.1.1 170 rfl) (10 + z_107)) (Eq.trans (congrFun (w_31.1.1 170 rfl) (10 + z_107)) rfl)))) (fun r_170 => ?_)
                      have hA9 := hM.2.2.2.2.2.1.2 z_107 (by omega) (by omega)
                      have hA8 : 0 ≤ J 170 (10 + z_107) ∧ J 170 (10 + z_107) ≤ 3 := hA9
                      rcases (show J 170 (10 + z_107) = 0 ∨ J 170 (10 + z_107) = 1 ∨ J 170 (10 + z_107) = 2 ∨ J 170 (10 + z_107) = 3 by omega) with hk9 | hk9 | hk9 | hk9
                      · rw [hk9]
                        refine tz_istore_n (pc := 171) (L2 := [_, _, _, _, _, _, _]) dX12_term1_171 rfl (by decide) rfl ?_
                        refine tz_iconst (pc := 172) dX12_term1_172 ?_
                        refine tz_istore (pc := 173) (L2 := [_, _, _, _, _, _, _]) dX12_term1_173 (by decide) rfl ?_
                        refine tz_iconst (pc := 175) dX12_term1_175 ?_
                        refine tz_istore (pc := 176) (L2 := [_, _, _, _, _, _, _]) dX12_term1_176 (by decide) rfl ?_
                        refine tz_iconst (pc := 178) dX12_term1_178 ?_
                        refine tz_istore (pc := 179) (L2 := [_, _, _, _, _, _, _]) dX12_term1_179 (by decide) rfl ?_
                        refine tz_iload_n (pc := 181) dX12_term1_181 rfl rfl ?_
                        refine tz_if_leT (pc := 182) (tgt := 264) (by decide) dX12_term1_182 (by decide) (by decide) ?_
                        refine tz_aload_n (pc := 264) dX12_term1_264 rfl rfl ?_
                        refine tz_fI (pc := 265) (kz := 43) (v := (J_159 164 43)) dX12_term1_265 fl_X12_273 i_164_43 rfl rfl (fun r_265 => ?_)
                        refine tz_if_ne (pc := 268) (tgt := 285) dX12_term1_268 (by decide) (by omega) (fun h_268 => ?_) (fun h_268 => ?_)
                        · refine tz_iconst (pc := 285) dX12_term1_285 ?_
                          exact tz_iret (pc := 286) (z := 0) dX12_term1_286 rfl (Nat.le_of_ble_eq_true rfl) (Nat.le_of_ble_eq_true rfl) ⟨Nat.le_refl _, Nat.le_add_right _ _⟩ ⟨_, rfl, (by decide), ⟨m, q_159, fun q9 => by omega⟩⟩
                        · refine tz_aload_n (pc := 271) dX12_term1_271 rfl rfl ?_
                          refine tz_iload_n (pc := 272) dX12_term1_272 rfl rfl ?_
                          refine tz_iload (pc := 273) dX12_term1_273 rfl ?_
                          refine tz_iload (pc := 275) dX12_term1_275 rfl ?_
                          refine tz_iload (pc := 277) dX12_term1_277 rfl ?_
                          refine tz_cV (pc := 279) (m_tu0 hl n _ _ _ _ _ (by omega) (by decide) (by decide) (by decide) 800 126 10 s m (q_159).1.1.1 (by omega) ⟨by omega, ((congrFun ((q_159).c 170 rfl) _).trans hk9)⟩ (q_159).2.2.2.2 ⟨fun g9 => absurd g9 (by decide), fun g9 => absurd g9 (by decide), fun g9 => absurd g9 (by decide)⟩) vl_X12_107 dX12_term1_279 o_164 rfl rfl (Nat.le_of_ble_eq_true rfl) ⟨(show 2 + 1 ≤ 6 + 1 * (r9 + 1) by omega), (show 8 + (8 + 11) + 40 * (2) ≤ 40 * (6 + 1 * (r9 + 1)) by omega)⟩ rfl rfl (Nat.le_of_ble_eq_true rfl) (Nat.le_of_ble_eq_true rfl) (fun r9 J_279 hq9 => ?_)
                          obtain ⟨z_279, rfl, hz_279, m_279, g_279, h_279⟩ := hq9
                          have q_279 := MRT.t q_159 g_279 (by omega)
                          refine tz_goto (pc := 282) (tgt := 286) dX12_term1_282 (by decide) ?_
                          exact tz_iret (pc := 286) (z := z_279) dX12_term1_286 rfl (Nat.le_of_ble_eq_true rfl) (Nat.le_of_ble_eq_true rfl) ⟨Nat.le_refl _, Nat.le_add_right _ _⟩ ⟨_, rfl, (by omega), ⟨m_279, q_279, fun _ => h_279⟩⟩
                      · rw [hk9]
                        refine tz_istore_n (pc := 171) (L2 := [_, _, _, _, _, _, _]) dX12_term1_171 rfl (by decide) rfl ?_
                        refine tz_iconst (pc := 172) dX12_term1_172 ?_
                        refine tz_istore (pc := 173) (L2 := [_, _, _, _, _, _, _]) dX12_term1_173 (by decide) rfl ?_
                        refine tz_iconst (pc := 175) dX12_term1_175 ?_
                        refine tz_istore (pc := 176) (L2 := [_, _, _, _, _, _, _]) dX12_term1_176 (by decide) rfl ?_
                        refine tz_iconst (pc := 178) dX12_term1_178 ?_
                        refine tz_istore (pc := 179) (L2 := [_, _, _, _, _, _, _]) dX12_term1_179 (by decide) rfl ?_
                        refine tz_iload_n (pc := 181) dX12_term1_181 rfl rfl ?_
                        refine tz_if_leF (pc := 182) (tgt := 264) (by decide) dX12_term1_182 (by decide) (by decide) ?_
                        refine tz_aload_n (pc := 185) dX12_term1_185 rfl rfl ?_
                        refine tz_bipush (pc := 186) dX12_term1_186 (by decide) ?_
                        refine tz_cV (pc := 188) (m_sign hl n _ _ (by decide) (q_159).2.1 (by decide)) vl_X12_296 dX12_term1_188 o_164 rfl rfl (Nat.le_of_ble_eq_true rfl) ⟨(show 3 + 1 ≤ 6 + 1 * (r9 + 1) by omega), (show 8 + (2 + 11) + 40 * (3) ≤ 40 * (6 + 1 * (r9 + 1)) by omega)⟩ rfl rfl (Nat.le_of_ble_eq_true rfl) (Nat.le_of_ble_eq_true rfl) (fun r9 J_188 hq9 => ?_)
                        obtain ⟨rfl, w_188, b_188⟩ := hq9
                        have q_188 := MRT.w q_159 w_188
                        refine tz_aload_n (pc := 191) dX12_term1_191 rfl rfl ?_
                        refine tz_iload_n (pc := 192) dX12_term1_192 rfl rfl ?_
                        refine tz_iconst (pc := 193) dX12_term1_193 ?_
                        refine tz_iadd (pc := 194) (v := x + 1) dX12_term1_194 rfl ?_
                        refine tz_cV (pc := 195) (ih _ _ (by omega) s m (q_188).1.1.1 (q_188).2.1 (q_188).2.2.2.2 (((q_188).f 44 rfl).trans h44) (by omega) (by omega)) vl_X12_298 dX12_term1_195 o_164 rfl rfl (Nat.le_of_ble_eq_true rfl) ⟨(show (6 + 1 * r9) + 1 ≤ 6 + 1 * (r9 + 1) by omega), (show 8 + (7 + 11) + 40 * ((6 + 1 * r9)) ≤ 40 * (6 + 1 * (r9 + 1)) by omega)⟩ rfl rfl (Nat.le_of_ble_eq_true rfl) (Nat.le_of_ble_eq_true rfl) (fun r9 J_195 hq9 => ?_)
                        obtain ⟨z_195, rfl, hz_195, m_195, w_195, h_195⟩ := hq9
                        have q_195 := MRT.tr q_188 w_195
                        have l_195 := w_195.1.1.2
                        refine tz_istore (pc := 198) (L2 := [_, _, _, _, _, _, _]) dX12_term1_198 (by decide) rfl ?_
                        refine tz_iload_n (pc := 200) dX12_term1_200 rfl rfl ?_
                        refine tz_iconst (pc := 201) dX12_term1_201 ?_
                        refine tz_icmp_leT (pc := 202) (tgt := 211) (by decide) dX12_term1_202 (by decide) (by decide) (by decide) ?_
                        refine tz_iload_n (pc := 211) dX12_term1_211 rfl rfl ?_
                        refine tz_iconst (pc := 212) dX12_term1_212 ?_
                        refine tz_icmp_leT (pc := 213) (tgt := 226) (by decide) dX12_term1_213 (by decide) (by decide) (by decide) ?_
                        refine tz_iconst (pc := 226) dX12_term1_226 ?_
                        refine tz_istore (pc := 227) (L2 := [_, _, _, _, _, _, _]) dX12_term1_227 (by decide) rfl ?_
                        refine tz_iload_n (pc := 229) dX12_term1_229 rfl rfl ?_
                        refine tz_iconst (pc := 230) dX12_term1_230 ?_
                        refine tz_icmp_leT (pc := 231) (tgt := 240) (by decide) dX12_term1_231 (by decide) (by decide) (by decide) ?_
                        refine tz_iload_n (pc := 240) dX12_term1_240 rfl rfl ?_
                        refine tz_iconst (pc := 241) dX12_term1_241 ?_
                        refine tz_icmp_leT (pc := 242) (tgt := 255) (by decide) dX12_term1_242 (by decide) (by decide) (by decide) ?_
                        refine tz_iconst (pc := 255) dX12_term1_255 ?_
                        refine tz_istore (pc := 256) (L2 := [_, _, _, _, _, _, _]) dX12_term1_256 (by decide) rfl ?_
                        refine tz_aload_n (pc := 258) dX12_term1_258 rfl rfl ?_
                        refine tz_bipush (pc := 259) dX12_term1_259 (by decide) ?_
                        refine tz_cV (pc := 261) (m_sign hl n _ _ (by decide) (q_195).2.1 (by decide)) vl_X12_296 dX12_term1_261 o_164 rfl rfl (Nat.le_of_ble_eq_true rfl) ⟨(show 3 + 1 ≤ 6 + 1 * (r9 + 1) by omega), (show 8 + (2 + 11) + 40 * (3) ≤ 40 * (6 + 1 * (r9 + 1)) by omega)⟩ rfl rfl (Nat.le_of_ble_eq_true rfl) (Nat.le_of_ble_eq_true rfl) (fun r9 J_261 hq9 => ?_)
                        obtain ⟨rfl, w_261, b_261⟩ := hq9
                        have q_261 := MRT.w q_195 w_261
                        refine tz_aload_n (pc := 264) dX12_term1_264 rfl rfl ?_
                        refine tz_fI (pc := 265) (kz := 43) (v := (J_261 164 43)) dX12_term1_265 fl_X12_273 i_164_43 rfl rfl (fun r_265 => ?_)
                        refine tz_if_ne (pc := 268) (tgt := 285) dX12_term1_268 (by decide) (by omega) (fun h_268 => ?_) (fun h_268 => ?_)
                        · refine tz_iconst (pc := 285) dX12_term1_285 ?_
                          exact tz_iret (pc := 286) (z := 0) dX12_term1_286 rfl (Nat.le_of_ble_eq_true rfl) (Nat.le_of_ble_eq_true rfl) ⟨Nat.le_refl _, Nat.le_add_right _ _⟩ ⟨_, rfl, (by decide), ⟨m_195, q_261, fun q9 => by omega⟩⟩
                        · refine tz_aload_n (pc := 271) dX12_term1_271 rfl rfl ?_
                          refine tz_iload_n (pc := 272) dX12_term1_272 rfl rfl ?_
                          refine tz_iload (pc := 273) dX12_term1_273 rfl ?_
                          refine tz_iload (pc := 275) dX12_term1_275 rfl ?_
                          refine tz_iload (pc := 277) dX12_term1_277 rfl ?_
                          have hb_261 : J_261 164 43 = 0 := h_268
                          have hb_195 := w_261.2.2.1 hb_261
                          have hv_195 := h_195 hb_195
                          refine tz_cV (pc := 279) (m_tu1 hl n _ _ _ _ _ (by omega) hz_195 (by decide) (by decide) 800 126 10 s m_195 (q_261).1.1.1 (by omega) ⟨by omega, ((congrFun ((q_261).c 170 rfl) _).trans hk9)⟩ (q_261).2.2.2.2 ⟨fun _ => ⟨hv_195.1, by omega⟩, fun g9 => absurd g9 (by decide), fun g9 => absurd g9 (by decide)⟩) vl_X12_107 dX12_term1_279 o_164 rfl rfl (Nat.le_of_ble_eq_true rfl) ⟨(show 2 + 1 ≤ 6 + 1 * (r9 + 1) by omega), (show 8 + (8 + 11) + 40 * (2) ≤ 40 * (6 + 1 * (r9 + 1)) by omega)⟩ rfl rfl (Nat.le_of_ble_eq_true rfl) (Nat.le_of_ble_eq_true rfl) (fun r9 J_279 hq9 => ?_)
                          obtain ⟨z_279, rfl, hz_279, m_279, g_279, h_279⟩ := hq9
                          have q_279 := MRT.t q_261 g_279 (by omega)
                          refine tz_goto (pc := 282) (tgt := 286) dX12_term1_282 (by decide) ?_
                          exact tz_iret (pc := 286) (z := z_279) dX12_term1_286 rfl (Nat.le_of_ble_eq_true rfl) (Nat.le_of_ble_eq_true rfl) ⟨Nat.le_refl _, Nat.le_add_right _ _⟩ ⟨_, rfl, (by omega), ⟨m_279, q_279, fun _ => h_279⟩⟩
                      · rw [hk9]
                        refine tz_istore_n (pc := 171) (L2 := [_, _, _, _, _, _, _]) dX12_term1_171 rfl (by decide) rfl ?_
                        refine tz_iconst (pc := 172) dX12_term1_172 ?_
                        refine tz_istore (pc := 173) (L2 := [_, _, _, _, _, _, _]) dX12_term1_173 (by decide) rfl ?_
                        refine tz_iconst (pc := 175) dX12_term1_175 ?_
                        refine tz_istore (pc := 176) (L2 := [_, _, _, _, _, _, _]) dX12_term1_176 (by decide) rfl ?_
                        refine tz_iconst (pc := 178) dX12_term1_178 ?_
                        refine tz_istore (pc := 179) (L2 := [_, _, _, _, _, _, _]) dX12_term1_179 (by decide) rfl ?_
                        refine tz_iload_n (pc := 181) dX12_term1_181 rfl rfl ?_
                        refine tz_if_leF (pc := 182) (tgt := 264) (by decide) dX12_term1_182 (by decide) (by decide) ?_
                        refine tz_aload_n (pc := 185) dX12_term1_185 rfl rfl ?_
                        refine tz_bipush (pc := 186) dX12_term1_186 (by decide) ?_
                        refine tz_cV (pc := 188) (m_sign hl n _ _ (by decide) (q_159).2.1 (by decide)) vl_X12_296 dX12_term1_188 o_164 rfl rfl (Nat.le_of_ble_eq_true rfl) ⟨(show 3 + 1 ≤ 6 + 1 * (r9 + 1) by omega), (show 8 + (2 + 11) + 40 * (3) ≤ 40 * (6 + 1 * (r9 + 1)) by omega)⟩ rfl rfl (Nat.le_of_ble_eq_true rfl) (Nat.le_of_ble_eq_true rfl) (fun r9 J_188 hq9 => ?_)
                        obtain ⟨rfl, w_188, b_188⟩ := hq9
                        have q_188 := MRT.w q_159 w_188
                        refine tz_aload_n (pc := 191) dX12_term1_191 rfl rfl ?_
                        refine tz_iload_n (pc := 192) dX12_term1_192 rfl rfl ?_
                        refine tz_iconst (pc := 193) dX12_term1_193 ?_
                        refine tz_iadd (pc := 194) (v := x + 1) dX12_term1_194 rfl ?_
                        refine tz_cV (pc := 195) (ih _ _ (by omega) s m (q_188).1.1.1 (q_188).2.1 (q_188).2.2.2.2 (((q_188).f 44 rfl).trans h44) (by omega) (by omega)) vl_X12_298 dX12_term1_195 o_164 rfl rfl (Nat.le_of_ble_eq_true rfl) ⟨(show (6 + 1 * r9) + 1 ≤ 6 + 1 * (r9 + 1) by omega), (show 8 + (7 + 11) + 40 * ((6 + 1 * r9)) ≤ 40 * (6 + 1 * (r9 + 1)) by omega)⟩ rfl rfl (Nat.le_of_ble_eq_true rfl) (Nat.le_of_ble_eq_true rfl) (fun r9 J_195 hq9 => ?_)
                        obtain ⟨z_195, rfl, hz_195, m_195, w_195, h_195⟩ := hq9
                        have q_195 := MRT.tr q_188 w_195
                        have l_195 := w_195.1.1.2
                        refine tz_istore (pc := 198) (L2 := [_, _, _, _, _, _, _]) dX12_term1_198 (by decide) rfl ?_
                        refine tz_iload_n (pc := 200) dX12_term1_200 rfl rfl ?_
                        refine tz_iconst (pc := 201) dX12_term1_201 ?_
                        refine tz_icmp_leF (pc := 202) (tgt := 211) (by decide) dX12_term1_202 (by decide) (by decide) (by decide) ?_
                        refine tz_aload_n (pc := 205) dX12_term1_205 rfl rfl ?_
                        refine tz_bipush (pc := 206) dX12_term1_206 (by decide) ?_
                        refine tz_cV (pc := 208) (m_sign hl n _ _ (by decide) (q_195).2.1 (by decide)) vl_X12_296 dX12_term1_208 o_164 rfl rfl (Nat.le_of_ble_eq_true rfl) ⟨(show 3 + 1 ≤ 6 + 1 * (r9 + 1) by omega), (show 8 + (2 + 11) + 40 * (3) ≤ 40 * (6 + 1 * (r9 + 1)) by omega)⟩ rfl rfl (Nat.le_of_ble_eq_true rfl) (Nat.le_of_ble_eq_true rfl) (fun r9 J_208 hq9 => ?_)
                        obtain ⟨rfl, w_208, b_208⟩ := hq9
                        have q_208 := MRT.w q_195 w_208
                        refine tz_iload_n (pc := 211) dX12_term1_211 rfl rfl ?_
                        refine tz_iconst (pc := 212) dX12_term1_212 ?_
                        refine tz_icmp_leF (pc := 213) (tgt := 226) (by decide) dX12_term1_213 (by decide) (by decide) (by decide) ?_
                        refine tz_aload_n (pc := 216) dX12_term1_216 rfl rfl ?_
                        refine tz_iload_n (pc := 217) dX12_term1_217 rfl rfl ?_
                        refine tz_iconst (pc := 218) dX12_term1_218 ?_
                        refine tz_iadd (pc := 219) (v := x + 1) dX12_term1_219 rfl ?_
                        refine tz_cV (pc := 220) (ih _ _ (by omega) s m_195 (q_208).1.1.1 (q_208).2.1 (q_208).2.2.2.2 (((q_208).f 44 rfl).trans h44) (by omega) (by omega)) vl_X12_298 dX12_term1_220 o_164 rfl rfl (Nat.le_of_ble_eq_true rfl) ⟨(show (6 + 1 * r9) + 1 ≤ 6 + 1 * (r9 + 1) by omega), (show 8 + (7 + 11) + 40 * ((6 + 1 * r9)) ≤ 40 * (6 + 1 * (r9 + 1)) by omega)⟩ rfl rfl (Nat.le_of_ble_eq_true rfl) (Nat.le_of_ble_eq_true rfl) (fun r9 J_220 hq9 => ?_)
                        obtain ⟨z_220, rfl, hz_220, m_220, w_220, h_220⟩ := hq9
                        have q_220 := MRT.tr q_208 w_220
                        have l_220 := w_220.1.1.2
                        refine tz_goto (pc := 223) (tgt := 227) dX12_term1_223 (by decide) ?_
                        refine tz_istore (pc := 227) (L2 := [_, _, _, _, _, _, _]) dX12_term1_227 (by decide) rfl ?_
                        refine tz_iload_n (pc := 229) dX12_term1_229 rfl rfl ?_
                        refine tz_iconst (pc := 230) dX12_term1_230 ?_
                        refine tz_icmp_leT (pc := 231) (tgt := 240) (by decide) dX12_term1_231 (by decide) (by decide) (by decide) ?_
                        refine tz_iload_n (pc := 240) dX12_term1_240 rfl rfl ?_
                        refine tz_iconst (pc := 241) dX12_term1_241 ?_
                        refine tz_icmp_leT (pc := 242) (tgt := 255) (by decide) dX12_term1_242 (by decide) (by decide) (by decide) ?_
                        refine tz_iconst (pc := 255) dX12_term1_255 ?_
                        refine tz_istore (pc := 256) (L2 := [_, _, _, _, _, _, _]) dX12_term1_256 (by decide) rfl ?_
                        refine tz_aload_n (pc := 258) dX12_term1_258 rfl rfl ?_
                        refine tz_bipush (pc := 259) dX12_term1_259 (by decide) ?_
                        refine tz_cV (pc := 261) (m_sign hl n _ _ (by decide) (q_220).2.1 (by decide)) vl_X12_296 dX12_term1_261 o_164 rfl rfl (Nat.le_of_ble_eq_true rfl) ⟨(show 3 + 1 ≤ 6 + 1 * (r9 + 1) by omega), (show 8 + (2 + 11) + 40 * (3) ≤ 40 * (6 + 1 * (r9 + 1)) by omega)⟩ rfl rfl (Nat.le_of_ble_eq_true rfl) (Nat.le_of_ble_eq_true rfl) (fun r9 J_261 hq9 => ?_)
                        obtain ⟨rfl, w_261, b_261⟩ := hq9
                        have q_261 := MRT.w q_220 w_261
                        refine tz_aload_n (pc := 264) dX12_term1_264 rfl rfl ?_
                        refine tz_fI (pc := 265) (kz := 43) (v := (J_261 164 43)) dX12_term1_265 fl_X12_273 i_164_43 rfl rfl (fun r_265 => ?_)
                        refine tz_if_ne (pc := 268) (tgt := 285) dX12_term1_268 (by decide) (by omega) (fun h_268 => ?_) (fun h_268 => ?_)
                        · refine tz_iconst (pc := 285) dX12_term1_285 ?_
                          exact tz_iret (pc := 286) (z := 0) dX12_term1_286 rfl (Nat.le_of_ble_eq_true rfl) (Nat.le_of_ble_eq_true rfl) ⟨Nat.le_refl _, Nat.le_add_right _ _⟩ ⟨_, rfl, (by decide), ⟨m_220, q_261, fun q9 => by omega⟩⟩
                        · refine tz_aload_n (pc := 271) dX12_term1_271 rfl rfl ?_
                          refine tz_iload_n (pc := 272) dX12_term1_272 rfl rfl ?_
                          refine tz_iload (pc := 273) dX12_term1_273 rfl ?_
                          refine tz_iload (pc := 275) dX12_term1_275 rfl ?_
                          refine tz_iload (pc := 277) dX12_term1_277 rfl ?_
                          have hb_261 : J_261 164 43 = 0 := h_268
                          have hb_220 := w_261.2.2.1 hb_261
                          have hb_208 := w_220.2.2.1 hb_220
                          have hb_195 := w_208.2.2.1 hb_208
                          have hv_195 := h_195 hb_195
                          have hv_220 := h_220 hb_220
                          refine tz_cV (pc := 279) (m_tu2 hl n _ _ _ _ _ (by omega) hz_195 hz_220 (by decide) 800 126 10 s m_220 (q_261).1.1.1 (by omega) ⟨by omega, ((congrFun ((q_261).c 170 rfl) _).trans hk9)⟩ (q_261).2.2.2.2 ⟨fun _ => ⟨hv_195.1, by omega⟩, fun _ => ⟨hv_220.1, by omega⟩, fun g9 => absurd g9 (by decide)⟩) vl_X12_107 dX12_term1_279 o_164 rfl rfl (Nat.le_of_ble_eq_true rfl) ⟨(show 2 + 1 ≤ 6 + 1 * (r9 + 1) by omega), (show 8 + (8 + 11) + 40 * (2) ≤ 40 * (6 + 1 * (r9 + 1)) by omega)⟩ rfl rfl (Nat.le_of_ble_eq_true rfl) (Nat.le_of_ble_eq_true rfl) (fun r9 J_279 hq9 => ?_)
                          obtain ⟨z_279, rfl, hz_279, m_279, g_279, h_279⟩ := hq9
                          have q_279 := MRT.t q_261 g_279 (by omega)
                          refine tz_goto (pc := 282) (tgt := 286) dX12_term1_282 (by decide) ?_
                          exact tz_iret (pc := 286) (z := z_279) dX12_term1_286 rfl (Nat.le_of_ble_eq_true rfl) (Nat.le_of_ble_eq_true rfl) ⟨Nat.le_refl _, Nat.le_add_right _ _⟩ ⟨_, rfl, (by omega), ⟨m_279, q_279, fun _ => h_279⟩⟩
                      · rw [hk9]
                        refine tz_istore_n (pc := 171) (L2 := [_, _, _, _, _, _, _]) dX12_term1_171 rfl (by decide) rfl ?_
                        refine tz_iconst (pc := 172) dX12_term1_172 ?_
                        refine tz_istore (pc := 173) (L2 := [_, _, _, _, _, _, _]) dX12_term1_173 (by decide) rfl ?_
                        refine tz_iconst (pc := 175) dX12_term1_175 ?_
                        refine tz_istore (pc := 176) (L2 := [_, _, _, _, _, _, _]) dX12_term1_176 (by decide) rfl ?_
                        refine tz_iconst (pc := 178) dX12_term1_178 ?_
                        refine tz_istore (pc := 179) (L2 := [_, _, _, _, _, _, _]) dX12_term1_179 (by decide) rfl ?_
                        refine tz_iload_n (pc := 181) dX12_term1_181 rfl rfl ?_
                        refine tz_if_leF (pc := 182) (tgt := 264) (by decide) dX12_term1_182 (by decide) (by decide) ?_
                        refine tz_aload_n (pc := 185) dX12_term1_185 rfl rfl ?_
                        refine tz_bipush (pc := 186) dX12_term1_186 (by decide) ?_
                        refine tz_cV (pc := 188) (m_sign hl n _ _ (by decide) (q_159).2.1 (by decide)) vl_X12_296 dX12_term1_188 o_164 rfl rfl (Nat.le_of_ble_eq_true rfl) ⟨(show 3 + 1 ≤ 6 + 1 * (r9 + 1) by omega), (show 8 + (2 + 11) + 40 * (3) ≤ 40 * (6 + 1 * (r9 + 1)) by omega)⟩ rfl rfl (Nat.le_of_ble_eq_true rfl) (Nat.le_of_ble_eq_true rfl) (fun r9 J_188 hq9 => ?_)
                        obtain ⟨rfl, w_188, b_188⟩ := hq9
                        have q_188 := MRT.w q_159 w_188
                        refine tz_aload_n (pc := 191) dX12_term1_191 rfl rfl ?_
                        refine tz_iload_n (pc := 192) dX12_term1_192 rfl rfl ?_
                        refine tz_iconst (pc := 193) dX12_term1_193 ?_
                        refine tz_iadd (pc := 194) (v := x + 1) dX12_term1_194 rfl ?_
                        refine tz_cV (pc := 195) (ih _ _ (by omega) s m (q_188).1.1.1 (q_188).2.1 (q_188).2.2.2.2 (((q_188).f 44 rfl).trans h44) (by omega) (by omega)) vl_X12_298 dX12_term1_195 o_164 rfl rfl (Nat.le_of_ble_eq_true rfl) ⟨(show (6 + 1 * r9) + 1 ≤ 6 + 1 * (r9 + 1) by omega), (show 8 + (7 + 11) + 40 * ((6 + 1 * r9)) ≤ 40 * (6 + 1 * (r9 + 1)) by omega)⟩ rfl rfl (Nat.le_of_ble_eq_true rfl) (Nat.le_of_ble_eq_true rfl) (fun r9 J_195 hq9 => ?_)
                        obtain ⟨z_195, rfl, hz_195, m_195, w_195, h_195⟩ := hq9
                        have q_195 := MRT.tr q_188 w_195
                        have l_195 := w_195.1.1.2
                        refine tz_istore (pc := 198) (L2 := [_, _, _, _, _, _, _]) dX12_term1_198 (by decide) rfl ?_
                        refine tz_iload_n (pc := 200) dX12_term1_200 rfl rfl ?_
                        refine tz_iconst (pc := 201) dX12_term1_201 ?_
                        refine tz_icmp_leF (pc := 202) (tgt := 211) (by decide) dX12_term1_202 (by decide) (by decide) (by decide) ?_
                        refine tz_aload_n (pc := 205) dX12_term1_205 rfl rfl ?_
                        refine tz_bipush (pc := 206) dX12_term1_206 (by decide) ?_
                        refine tz_cV (pc := 208) (m_sign hl n _ _ (by decide) (q_195).2.1 (by decide)) vl_X12_296 dX12_term1_208 o_164 rfl rfl (Nat.le_of_ble_eq_true rfl) ⟨(show 3 + 1 ≤ 6 + 1 * (r9 + 1) by omega), (show 8 + (2 + 11) + 40 * (3) ≤ 40 * (6 + 1 * (r9 + 1)) by omega)⟩ rfl rfl (Nat.le_of_ble_eq_true rfl) (Nat.le_of_ble_eq_true rfl) (fun r9 J_208 hq9 => ?_)
                        obtain ⟨rfl, w_208, b_208⟩ := hq9
                        have q_208 := MRT.w q_195 w_208
                        refine tz_iload_n (pc := 211) dX12_term1_211 rfl rfl ?_
                        refine tz_iconst (pc := 212) dX12_term1_212 ?_
                        refine tz_icmp_leF (pc := 213) (tgt := 226) (by decide) dX12_term1_213 (by decide) (by decide) (by decide) ?_
                        refine tz_aload_n (pc := 216) dX12_term1_216 rfl rfl ?_
                        refine tz_iload_n (pc := 217) dX12_term1_217 rfl rfl ?_
                        refine tz_iconst (pc := 218) dX12_term1_218 ?_
                        refine tz_iadd (pc := 219) (v := x + 1) dX12_term1_219 rfl ?_
                        refine tz_cV (pc := 220) (ih _ _ (by omega) s m_195 (q_208).1.1.1 (q_208).2.1 (q_208).2.2.2.2 (((q_208).f 44 rfl).trans h44) (by omega) (by omega)) vl_X12_298 dX12_term1_220 o_164 rfl rfl (Nat.le_of_ble_eq_true rfl) ⟨(show (6 + 1 * r9) + 1 ≤ 6 + 1 * (r9 + 1) by omega), (show 8 + (7 + 11) + 40 * ((6 + 1 * r9)) ≤ 40 * (6 + 1 * (r9 + 1)) by omega)⟩ rfl rfl (Nat.le_of_ble_eq_true rfl) (Nat.le_of_ble_eq_true rfl) (fun r9 J_220 hq9 => ?_)
                        obtain ⟨z_220, rfl, hz_220, m_220, w_220, h_220⟩ := hq9
                        have q_220 := MRT.tr q_208 w_220
                        have l_220 := w_220.1.1.2
                        refine tz_goto (pc := 223) (tgt := 227) dX12_term1_223 (by decide) ?_
                        refine tz_istore (pc := 227) (L2 := [_, _, _, _, _, _, _]) dX12_term1_227 (by decide) rfl ?_
                        refine tz_iload_n (pc := 229) dX12_term1_229 rfl rfl ?_
                        refine tz_iconst (pc := 230) dX12_term1_230 ?_
                        refine tz_icmp_leF (pc := 231) (tgt := 240) (by decide) dX12_term1_231 (by decide) (by decide) (by decide) ?_
                        refine tz_aload_n (pc := 234) dX12_term1_234 rfl rfl ?_
                        refine tz_bipush (pc := 235) dX12_term1_235 (by decide) ?_
                        refine tz_cV (pc := 237) (m_sign hl n _ _ (by decide) (q_220).2.1 (by decide)) vl_X12_296 dX12_term1_237 o_164 rfl rfl (Nat.le_of_ble_eq_true rfl) ⟨(show 3 + 1 ≤ 6 + 1 * (r9 + 1) by omega), (show 8 + (2 + 11) + 40 * (3) ≤ 40 * (6 + 1 * (r9 + 1)) by omega)⟩ rfl rfl (Nat.le_of_ble_eq_true rfl) (Nat.le_of_ble_eq_true rfl) (fun r9 J_237 hq9 => ?_)
                        obtain ⟨rfl, w_237, b_237⟩ := hq9
                        have q_237 := MRT.w q_220 w_237
                        refine tz_iload_n (pc := 240) dX12_term1_240 rfl rfl ?_
                        refine tz_iconst (pc := 241) dX12_term1_241 ?_
                        refine tz_icmp_leF (pc := 242) (tgt := 255) (by decide) dX12_term1_242 (by decide) (by decide) (by decide) ?_
                        refine tz_aload_n (pc := 245) dX12_term1_245 rfl rfl ?_
                        refine tz_iload_n (pc := 246) dX12_term1_246 rfl rfl ?_
                        refine tz_iconst (pc := 247) dX12_term1_247 ?_
                        refine tz_iadd (pc := 248) (v := x + 1) dX12_term1_248 rfl ?_
                        refine tz_cV (pc := 249) (ih _ _ (by omega) s m_220 (q_237).1.1.1 (q_237).2.1 (q_237).2.2.2.2 (((q_237).f 44 rfl).trans h44) (by omega) (by omega)) vl_X12_298 dX12_term1_249 o_164 rfl rfl (Nat.le_of_ble_eq_true rfl) ⟨(show (6 + 1 * r9) + 1 ≤ 6 + 1 * (r9 + 1) by omega), (show 8 + (7 + 11) + 40 * ((6 + 1 * r9)) ≤ 40 * (6 + 1 * (r9 + 1)) by omega)⟩ rfl rfl (Nat.le_of_ble_eq_true rfl) (Nat.le_of_ble_eq_true rfl) (fun r9 J_249 hq9 => ?_)
                        obtain ⟨z_249, rfl, hz_249, m_249, w_249, h_249⟩ := hq9
                        have q_249 := MRT.tr q_237 w_249
                        have l_249 := w_249.1.1.2
                        refine tz_goto (pc := 252) (tgt := 256) dX12_term1_252 (by decide) ?_
                        refine tz_istore (pc := 256) (L2 := [_, _, _, _, _, _, _]) dX12_term1_256 (by decide) rfl ?_
                        refine tz_aload_n (pc := 258) dX12_term1_258 rfl rfl ?_
                        refine tz_bipush (pc := 259) dX12_term1_259 (by decide) ?_
                        refine tz_cV (pc := 261) (m_sign hl n _ _ (by decide) (q_249).2.1 (by decide)) vl_X12_296 dX12_term1_261 o_164 rfl rfl (Nat.le_of_ble_eq_true rfl) ⟨(show 3 + 1 ≤ 6 + 1 * (r9 + 1) by omega), (show 8 + (2 + 11) + 40 * (3) ≤ 40 * (6 + 1 * (r9 + 1)) by omega)⟩ rfl rfl (Nat.le_of_ble_eq_true rfl) (Nat.le_of_ble_eq_true rfl) (fun r9 J_261 hq9 => ?_)
                        obtain ⟨rfl, w_261, b_261⟩ := hq9
                        have q_261 := MRT.w q_249 w_261
                        refine tz_aload_n (pc := 264) dX12_term1_264 rfl rfl ?_
                        refine tz_fI (pc := 265) (kz := 43) (v := (J_261 164 43)) dX12_term1_265 fl_X12_273 i_164_43 rfl rfl (fun r_265 => ?_)
                        refine tz_if_ne (pc := 268) (tgt := 285) dX12_term1_268 (by decide) (by omega) (fun h_268 => ?_) (fun h_268 => ?_)
                        · refine tz_iconst (pc := 285) dX12_term1_285 ?_
                          exact tz_iret (pc := 286) (z := 0) dX12_term1_286 rfl (Nat.le_of_ble_eq_true rfl) (Nat.le_of_ble_eq_true rfl) ⟨Nat.le_refl _, Nat.le_add_right _ _⟩ ⟨_, rfl, (by decide), ⟨m_249, q_261, fun q9 => by omega⟩⟩
                        · refine tz_aload_n (pc := 271) dX12_term1_271 rfl rfl ?_
                          refine tz_iload_n (pc := 272) dX12_term1_272 rfl rfl ?_
                          refine tz_iload (pc := 273) dX12_term1_273 rfl ?_
                          refine tz_iload (pc := 275) dX12_term1_275 rfl ?_
                          refine tz_iload (pc := 277) dX12_term1_277 rfl ?_
                          have hb_261 : J_261 164 43 = 0 := h_268
                          have hb_249 := w_261.2.2.1 hb_261
                          have hb_237 := w_249.2.2.1 hb_249
                          have hb_220 := w_237.2.2.1 hb_237
                          have hb_208 := w_220.2.2.1 hb_220
                          have hb_195 := w_208.2.2.1 hb_208
                          have hv_195 := h_195 hb_195
                          have hv_220 := h_220 hb_220
                          have hv_249 := h_249 hb_249
                          refine tz_cV (pc := 279) (m_tu3 hl n _ _ _ _ _ (by omega) hz_195 hz_220 hz_249 800 126 10 s m_249 (q_261).1.1.1 (by omega) ⟨by omega, ((congrFun ((q_261).c 170 rfl) _).trans hk9)⟩ (q_261).2.2.2.2 ⟨fun _ => ⟨hv_195.1, by omega⟩, fun _ => ⟨hv_220.1, by omega⟩, fun _ => ⟨hv_249.1, by omega⟩⟩) vl_X12_107 dX12_term1_279 o_164 rfl rfl (Nat.le_of_ble_eq_true rfl) ⟨(show 2 + 1 ≤ 6 + 1 * (r9 + 1) by omega), (show 8 + (8 + 11) + 40 * (2) ≤ 40 * (6 + 1 * (r9 + 1)) by omega)⟩ rfl rfl (Nat.le_of_ble_eq_true rfl) (Nat.le_of_ble_eq_true rfl) (fun r9 J_279 hq9 => ?_)
                          obtain ⟨z_279, rfl, hz_279, m_279, g_279, h_279⟩ := hq9
                          have q_279 := MRT.t q_261 g_279 (by omega)
                          refine tz_goto (pc := 282) (tgt := 286) dX12_term1_282 (by decide) ?_
                          exact tz_iret (pc := 286) (z := z_279) dX12_term1_286 rfl (Nat.le_of_ble_eq_true rfl) (Nat.le_of_ble_eq_true rfl) ⟨Nat.le_refl _, Nat.le_add_right _ _⟩ ⟨_, rfl, (by omega), ⟨m_279, q_279, fun _ => h_279⟩⟩
          · refine tz_aload_n (pc := 48) dX12_term1_48 rfl rfl ?_
            refine tz_iload_n (pc := 49) dX12_term1_49 rfl rfl ?_
            refine tz_bipush (pc := 50) dX12_term1_50 (by decide) ?_
            refine tz_icmp_gt (pc := 52) (tgt := 59) dX12_term1_52 (by decide) (by omega) (by decide) (fun h_52 => ?_) (fun h_52 => ?_)
            · refine tz_iconst (pc := 59) dX12_term1_59 ?_
              refine tz_iconst (pc := 60) dX12_term1_60 ?_
              refine tz_cV (pc := 61) (m_wantsW hl n _ _ _ (by decide) (by decide) (q_31).2.1 (by decide)) vl_X12_276 dX12_term1_61 o_164 rfl rfl (Nat.le_of_ble_eq_true rfl) ⟨(show 0 + 1 ≤ 6 + 1 * (r9 + 1) by omega), (show 8 + (3 + 11) + 40 * (0) ≤ 40 * (6 + 1 * (r9 + 1)) by omega)⟩ rfl rfl (Nat.le_of_ble_eq_true rfl) (Nat.le_of_ble_eq_true rfl) (fun r9 J_61 hq9 => ?_)
              obtain ⟨z_61, rfl, hz_61, w_61, b_61, c_61, d_61⟩ := hq9
              have q_61 := MRT.w q_31 w_61
              obtain rfl : z_61 = 0 := by rcases b_61 with e9 | e9; exact e9; exact absurd rfl (c_61 e9).2.2
              have v_61 := d_61 rfl
              clear b_61 c_61 d_61
              refine tz_if_neF (pc := 64) (tgt := 69) (by decide) dX12_term1_64 (by decide) (by decide) ?_
              refine tz_iconst (pc := 67) dX12_term1_67 ?_
              exact tz_iret (pc := 68) (z := 0) dX12_term1_68 rfl (Nat.le_of_ble_eq_true rfl) (Nat.le_of_ble_eq_true rfl) ⟨Nat.le_refl _, Nat.le_add_right _ _⟩ ⟨_, rfl, (by decide), ⟨m, q_61, fun q9 => by omega⟩⟩
            · refine tz_iconst (pc := 55) dX12_term1_55 ?_
              refine tz_goto (pc := 56) (tgt := 60) dX12_term1_56 (by decide) ?_
              refine tz_iconst (pc := 60) dX12_term1_60 ?_
              refine tz_cV (pc := 61) (m_wantsW hl n _ _ _ (by decide) (by decide) (q_31).2.1 (by decide)) vl_X12_276 dX12_term1_61 o_164 rfl rfl (Nat.le_of_ble_eq_true rfl) ⟨(show 0 + 1 ≤ 6 + 1 * (r9 + 1) by omega), (show 8 + (3 + 11) + 40 * (0) ≤ 40 * (6 + 1 * (r9 + 1)) by omega)⟩ rfl rfl (Nat.le_of_ble_eq_true rfl) (Nat.le_of_ble_eq_true rfl) (fun r9 J_61 hq9 => ?_)
              obtain ⟨z_61, rfl, hz_61, w_61, b_61, c_61, d_61⟩ := hq9
              have q_61 := MRT.w q_31 w_61
              have o_61 : (z_61 = 0 ∧ ¬ J_61 164 43 = 0) ∨ (z_61 = 1 ∧ J_61 164 43 = 0) := by rcases b_61 with e9 | e9; exact Or.inl ⟨e9, d_61 e9⟩; exact Or.inr ⟨e9, (c_61 e9).2.1⟩
              clear b_61 c_61 d_61
              rcases o_61 with ⟨rfl, v_61⟩ | ⟨rfl, v_61⟩
              · refine tz_if_neF (pc := 64) (tgt := 69) (by decide) dX12_term1_64 (by decide) (by decide) ?_
                refine tz_iconst (pc := 67) dX12_term1_67 ?_
                exact tz_iret (pc := 68) (z := 0) dX12_term1_68 rfl (Nat.le_of_ble_eq_true rfl) (Nat.le_of_ble_eq_true rfl) ⟨Nat.le_refl _, Nat.le_add_right _ _⟩ ⟨_, rfl, (by decide), ⟨m, q_61, fun q9 => by omega⟩⟩
              · refine tz_if_neT (pc := 64) (tgt := 69) (by decide) dX12_term1_64 (by decide) (by decide) ?_
                refine tz_aload_n (pc := 69) dX12_term1_69 rfl rfl ?_
                refine tz_cV (pc := 70) (m_goW hl n _ (q_61).2.1) vl_X12_280 dX12_term1_70 o_164 rfl rfl (Nat.le_of_ble_eq_true rfl) ⟨(show 2 + 1 ≤ 6 + 1 * (r9 + 1) by omega), (show 8 + (2 + 11) + 40 * (2) ≤ 40 * (6 + 1 * (r9 + 1)) by omega)⟩ rfl rfl (Nat.le_of_ble_eq_true rfl) (Nat.le_of_ble_eq_true rfl) (fun r9 J_70 hq9 => ?_)
                obtain ⟨rfl, w_70, b_70⟩ := hq9
                have q_70 := MRT.w q_61 w_70
                refine tz_aload_n (pc := 73) dX12_term1_73 rfl rfl ?_
                refine tz_iconst (pc := 74) dX12_term1_74 ?_
                refine tz_bipush (pc := 75) dX12_term1_75 (by decide) ?_
                refine tz_cV (pc := 77) (m_number hl n _ _ _ (by decide) (by decide) (q_70).2.1 (by decide)) vl_X12_290 dX12_term1_77 o_164 rfl rfl (Nat.le_of_ble_eq_true rfl) ⟨(show 3 + 1 ≤ 6 + 1 * (r9 + 1) by omega), (show 8 + (4 + 11) + 40 * (3) ≤ 40 * (6 + 1 * (r9 + 1)) by omega)⟩ rfl rfl (Nat.le_of_ble_eq_true rfl) (Nat.le_of_ble_eq_true rfl) (fun r9 J_77 hq9 => ?_)
                obtain ⟨z_77, rfl, hz_77, w_77, b_77, d_77⟩ := hq9
                have q_77 := MRT.w q_70 w_77
                refine tz_istore_n (pc := 80) (L2 := [_, _, _, _, _, _, _]) dX12_term1_80 rfl (by decide) rfl ?_
                refine tz_aload_n (pc := 81) dX12_term1_81 rfl rfl ?_
                refine tz_fI (pc := 82) (kz := 43) (v := (J_77 164 43)) dX12_term1_82 fl_X12_273 i_164_43 rfl rfl (fun r_82 => ?_)
                refine tz_if_ne (pc := 85) (tgt := 96) dX12_term1_85 (by decide) (by omega) (fun h_85 => ?_) (fun h_85 => ?_)
                · refine tz_iconst (pc := 96) dX12_term1_96 ?_
                  exact tz_iret (pc := 97) (z := 0) dX12_term1_97 rfl (Nat.le_of_ble_eq_true rfl) (Nat.le_of_ble_eq_true rfl) ⟨Nat.le_refl _, Nat.le_add_right _ _⟩ ⟨_, rfl, (by decide), ⟨m, q_77, fun q9 => by omega⟩⟩
                · refine tz_aload_n (pc := 88) dX12_term1_88 rfl rfl ?_
                  refine tz_iload_n (pc := 89) dX12_term1_89 rfl rfl ?_
                  refine tz_cV (pc := 90) (m_varTermU hl n _ _ (by omega) 800 126 10 s m (q_77).1.1.1 (by omega) (q_77).2.2.2.2) vl_X12_180 dX12_term1_90 o_164 rfl rfl (Nat.le_of_ble_eq_true rfl) ⟨(show 3 + 1 ≤ 6 + 1 * (r9 + 1) by omega), (show 8 + (2 + 11) + 40 * (3) ≤ 40 * (6 + 1 * (r9 + 1)) by omega)⟩ rfl rfl (Nat.le_of_ble_eq_true rfl) (Nat.le_of_ble_eq_true rfl) (fun r9 J_90 hq9 => ?_)
                  obtain ⟨z_90, rfl, hz_90, m_90, g_90, h_90⟩ := hq9
                  have q_90 := MRT.t q_77 g_90 (by omega)
                  refine tz_goto (pc := 93) (tgt := 97) dX12_term1_93 (by decide) ?_
                  exact tz_iret (pc := 97) (z := z_90) dX12_term1_97 rfl (Nat.le_of_ble_eq_true rfl) (Nat.le_of_ble_eq_true rfl) ⟨Nat.le_refl _, Nat.le_add_right _ _⟩ ⟨_, rfl, (by omega), ⟨m_90, q_90, fun _ => h_90⟩⟩
      · refine tz_aload_n (pc := 16) dX12_term1_16 rfl rfl ?_
        refine tz_fI (pc := 17) (kz := 42) (v := (J 164 42)) dX12_term1_17 fl_X12_258 i_164_42 rfl rfl (fun r_17 => ?_)
        refine tz_bipush (pc := 20) dX12_term1_20 (by decide) ?_
        refine tz_icmp_ne (pc := 22) (tgt := 29) dX12_term1_22 (by decide) (by omega) (by decide) (fun h_22 => ?_) (fun h_22 => ?_)
        · refine tz_iconst (pc := 29) dX12_term1_29 ?_
          refine tz_iconst (pc := 30) dX12_term1_30 ?_
          refine tz_cV (pc := 31) (m_wantsW hl n _ _ _ (by decide) (by decide) (g0).2.1 (by decide)) vl_X12_276 dX12_term1_31 o_164 rfl rfl (Nat.le_of_ble_eq_true rfl) ⟨(show 0 + 1 ≤ 6 + 1 * (r9 + 1) by omega), (show 8 + (3 + 11) + 40 * (0) ≤ 40 * (6 + 1 * (r9 + 1)) by omega)⟩ rfl rfl (Nat.le_of_ble_eq_true rfl) (Nat.le_of_ble_eq_true rfl) (fun r9 J_31 hq9 => ?_)
          obtain ⟨z_31, rfl, hz_31, w_31, b_31, c_31, d_31⟩ := hq9
          have q_31 := MRT.w g0 w_31
          obtain rfl : z_31 = 0 := by rcases b_31 with e9 | e9; exact e9; exact absurd rfl (c_31 e9).2.2
          have v_31 := d_31 rfl
          clear b_31 c_31 d_31
          refine tz_if_neF (pc := 34) (tgt := 39) (by decide) dX12_term1_34 (by decide) (by decide) ?_
          refine tz_iconst (pc := 37) dX12_term1_37 ?_
          exact tz_iret (pc := 38) (z := 0) dX12_term1_38 rfl (Nat.le_of_ble_eq_true rfl) (Nat.le_of_ble_eq_true rfl) ⟨Nat.le_refl _, Nat.le_add_right _ _⟩ ⟨_, rfl, (by decide), ⟨m, q_31, fun q9 => by omega⟩⟩
        · refine tz_iconst (pc := 25) dX12_term1_25 ?_
          refine tz_goto (pc := 26) (tgt := 30) dX12_term1_26 (by decide) ?_
          refine tz_iconst (pc := 30) dX12_term1_30 ?_
          refine tz_cV (pc := 31) (m_wantsW hl n _ _ _ (by decide) (by decide) (g0).2.1 (by decide)) vl_X12_276 dX12_term1_31 o_164 rfl rfl (Nat.le_of_ble_eq_true rfl) ⟨(show 0 + 1 ≤ 6 + 1 * (r9 + 1) by omega), (show 8 + (3 + 11) + 40 * (0) ≤ 40 * (6 + 1 * (r9 + 1)) by omega)⟩ rfl rfl (Nat.le_of_ble_eq_true rfl) (Nat.le_of_ble_eq_true rfl) (fun r9 J_31 hq9 => ?_)
          obtain ⟨z_31, rfl, hz_31, w_31, b_31, c_31, d_31⟩ := hq9
          have q_31 := MRT.w g0 w_31
          have o_31 : (z_31 = 0 ∧ ¬ J_31 164 43 = 0) ∨ (z_31 = 1 ∧ J_31 164 43 = 0) := by rcases b_31 with e9 | e9; exact Or.inl ⟨e9, d_31 e9⟩; exact Or.inr ⟨e9, (c_31 e9).2.1⟩
          clear b_31 c_31 d_31
          rcases o_31 with ⟨rfl, v_31⟩ | ⟨rfl, v_31⟩
          · refine tz_if_neF (pc := 34) (tgt := 39) (by decide) dX12_term1_34 (by decide) (by decide) ?_
            refine tz_iconst (pc := 37) dX12_term1_37 ?_
            exact tz_iret (pc := 38) (z := 0) dX12_term1_38 rfl (Nat.le_of_ble_eq_true rfl) (Nat.le_of_ble_eq_true rfl) ⟨Nat.le_refl _, Nat.le_add_right _ _⟩ ⟨_, rfl, (by decide), ⟨m, q_31, fun q9 => by omega⟩⟩
          · refine tz_if_neT (pc := 34) (tgt := 39) (by decide) dX12_term1_34 (by decide) (by decide) ?_
            refine tz_aload_n (pc := 39) dX12_term1_39 rfl rfl ?_
            refine tz_fI (pc := 40) (kz := 42) (v := (J_31 164 42)) dX12_term1_40 fl_X12_258 i_164_42 rfl rfl (fun r_40 => ?_)
            refine tz_bipush (pc := 43) dX12_term1_43 (by decide) ?_
            refine tz_icmp_ne (pc := 45) (tgt := 98) dX12_term1_45 (by decide) (by omega) (by decide) (fun h_45 => ?_) (fun h_45 => ?_)
            · refine tz_aload_n (pc := 98) dX12_term1_98 rfl rfl ?_
              refine tz_aload_n (pc := 99) dX12_term1_99 rfl rfl ?_
              refine tz_aload_n (pc := 100) dX12_term1_100 rfl rfl ?_
              refine tz_fI (pc := 101) (kz := 36) (v := (J_31 164 36)) dX12_term1_101 fl_X12_246 i_164_36 rfl rfl (fun r_101 => ?_)
              have y_104 := (q_31).2.1
              have x_104 := y_104.2.1
              refine tz_cV (pc := 104) (m_byteAt hl n _ _ (by omega) (by omega) y_104.1.1.2) vl_X12_240 dX12_term1_104 o_164 rfl rfl (Nat.le_of_ble_eq_true rfl) ⟨(show 0 + 1 ≤ 6 + 1 * (r9 + 1) by omega), (show 8 + (2 + 11) + 40 * (0) ≤ 40 * (6 + 1 * (r9 + 1)) by omega)⟩ rfl rfl (Nat.le_of_ble_eq_true rfl) (Nat.le_of_ble_eq_true rfl) (fun r9 J_104 hq9 => ?_)
              obtain ⟨z_104, rfl, hz_104, rfl, -, -⟩ := hq9
              clear y_104
              have s_107 : J_31 164 44 = s := ((q_31).f 44 rfl).trans h44
              refine tz_cV (pc := 107) (m_symOf hl n _ _ (by omega) (by rw [s_107]; omega)) vl_X12_293 dX12_term1_107 o_164 rfl rfl (Nat.le_of_ble_eq_true rfl) ⟨(show 0 + 1 ≤ 6 + 1 * (r9 + 1) by omega), (show 8 + (3 + 11) + 40 * (0) ≤ 40 * (6 + 1 * (r9 + 1)) by omega)⟩ rfl rfl (Nat.le_of_ble_eq_true rfl) (Nat.le_of_ble_eq_true rfl) (fun r9 J_107 hq9 => ?_)
              obtain ⟨z_107, rfl, hz_107, rfl, hs_107⟩ := hq9
              rw [s_107] at hs_107
              refine tz_istore_n (pc := 110) (L2 := [_, _, _, _, _, _, _]) dX12_term1_110 rfl (by decide) rfl ?_
              refine tz_aload_n (pc := 111) dX12_term1_111 rfl rfl ?_
              refine tz_aload_n (pc := 112) dX12_term1_112 rfl rfl ?_
              refine tz_fI (pc := 113) (kz := 41) (v := (J_31 164 41)) dX12_term1_113 fl_X12_252 i_164_41 rfl rfl (fun r_113 => ?_)
              refine tz_iconst (pc := 116) dX12_term1_116 ?_
              refine tz_icmp_ne (pc := 117) (tgt := 130) dX12_term1_117 (by decide) (by omega) (by decide) (fun h_117 => ?_) (fun h_117 => ?_)
              · refine tz_iconst (pc := 130) dX12_term1_130 ?_
                refine tz_iconst (pc := 131) dX12_term1_131 ?_
                refine tz_cV (pc := 132) (m_wantsW hl n _ _ _ (by decide) (by decide) (q_31).2.1 (by decide)) vl_X12_276 dX12_term1_132 o_164 rfl rfl (Nat.le_of_ble_eq_true rfl) ⟨(show 0 + 1 ≤ 6 + 1 * (r9 + 1) by omega), (show 8 + (3 + 11) + 40 * (0) ≤ 40 * (6 + 1 * (r9 + 1)) by omega)⟩ rfl rfl (Nat.le_of_ble_eq_true rfl) (Nat.le_of_ble_eq_true rfl) (fun r9 J_132 hq9 => ?_)
                obtain ⟨z_132, rfl, hz_132, w_132, b_132, c_132, d_132⟩ := hq9
                have q_132 := MRT.w q_31 w_132
                obtain rfl : z_132 = 0 := by rcases b_132 with e9 | e9; exact e9; exact absurd rfl (c_132 e9).2.2
                have v_132 := d_132 rfl
                clear b_132 c_132 d_132
                refine tz_if_eqT (pc := 135) (tgt := 156) (by decide) dX12_term1_135 (by decide) (by decide) ?_
                refine tz_iconst (pc := 156) dX12_term1_156 ?_
                exact tz_iret (pc := 157) (z := 0) dX12_term1_157 rfl (Nat.le_of_ble_eq_true rfl) (Nat.le_of_ble_eq_true rfl) ⟨Nat.le_refl _, Nat.le_add_right _ _⟩ ⟨_, rfl, (by decide), ⟨m, q_132, fun q9 => by omega⟩⟩
              · refine tz_iload_n (pc := 120) dX12_term1_120 rfl rfl ?_
                refine tz_bipush (pc := 121) dX12_term1_121 (by decide) ?_
                refine tz_icmp_gt (pc := 123) (tgt := 130) dX12_term1_123 (by decide) (by omega) (by decide) (fun h_123 => ?_) (fun h_123 => ?_)
                · refine tz_iconst (pc := 130) dX12_term1_130 ?_
                  refine tz_iconst (pc := 131) dX12_term1_131 ?_
                  refine tz_cV (pc := 132) (m_wantsW hl n _ _ _ (by decide) (by decide) (q_31).2.1 (by decide)) vl_X12_276 dX12_term1_132 o_164 rfl rfl (Nat.le_of_ble_eq_true rfl) ⟨(show 0 + 1 ≤ 6 + 1 * (r9 + 1) by omega), (show 8 + (3 + 11) + 40 * (0) ≤ 40 * (6 + 1 * (r9 + 1)) by omega)⟩ rfl rfl (Nat.le_of_ble_eq_true rfl) (Nat.le_of_ble_eq_true rfl) (fun r9 J_132 hq9 => ?_)
                  obtain ⟨z_132, rfl, hz_132, w_132, b_132, c_132, d_132⟩ := hq9
                  have q_132 := MRT.w q_31 w_132
                  obtain rfl : z_132 = 0 := by rcases b_132 with e9 | e9; exact e9; exact absurd rfl (c_132 e9).2.2
                  have v_132 := d_132 rfl
                  clear b_132 c_132 d_132
                  refine tz_if_eqT (pc := 135) (tgt := 156) (by decide) dX12_term1_135 (by decide) (by decide) ?_
                  refine tz_iconst (pc := 156) dX12_term1_156 ?_
                  exact tz_iret (pc := 157) (z := 0) dX12_term1_157 rfl (Nat.le_of_ble_eq_true rfl) (Nat.le_of_ble_eq_true rfl) ⟨Nat.le_refl _, Nat.le_add_right _ _⟩ ⟨_, rfl, (by decide), ⟨m, q_132, fun q9 => by omega⟩⟩
                · refine tz_iconst (pc := 126) dX12_term1_126 ?_
                  refine tz_goto (pc := 127) (tgt := 131) dX12_term1_127 (by decide) ?_
                  refine tz_iconst (pc := 131) dX12_term1_131 ?_
                  refine tz_cV (pc := 132) (m_wantsW hl n _ _ _ (by decide) (by decide) (q_31).2.1 (by decide)) vl_X12_276 dX12_term1_132 o_164 rfl rfl (Nat.le_of_ble_eq_true rfl) ⟨(show 0 + 1 ≤ 6 + 1 * (r9 + 1) by omega), (show 8 + (3 + 11) + 40 * (0) ≤ 40 * (6 + 1 * (r9 + 1)) by omega)⟩ rfl rfl (Nat.le_of_ble_eq_true rfl) (Nat.le_of_ble_eq_true rfl) (fun r9 J_132 hq9 => ?_)
                  obtain ⟨z_132, rfl, hz_132, w_132, b_132, c_132, d_132⟩ := hq9
                  have q_132 := MRT.w q_31 w_132
                  have o_132 : (z_132 = 0 ∧ ¬ J_132 164 43 = 0) ∨ (z_132 = 1 ∧ J_132 164 43 = 0) := by rcases b_132 with e9 | e9; exact Or.inl ⟨e9, d_132 e9⟩; exact Or.inr ⟨e9, (c_132 e9).2.1⟩
                  clear b_132 c_132 d_132
                  rcases o_132 with ⟨rfl, v_132⟩ | ⟨rfl, v_132⟩
                  · refine tz_if_eqT (pc := 135) (tgt := 156) (by decide) dX12_term1_135 (by decide) (by decide) ?_
                    refine tz_iconst (pc := 156) dX12_term1_156 ?_
                    exact tz_iret (pc := 157) (z := 0) dX12_term1_157 rfl (Nat.le_of_ble_eq_true rfl) (Nat.le_of_ble_eq_true rfl) ⟨Nat.le_refl _, Nat.le_add_right _ _⟩ ⟨_, rfl, (by decide), ⟨m, q_132, fun q9 => by omega⟩⟩
                  · refine tz_if_eqF (pc := 135) (tgt := 156) (by decide) dX12_term1_135 (by decide) (by decide) ?_
                    refine tz_aload_n (pc := 138) dX12_term1_138 rfl rfl ?_
                    refine tz_iload_n (pc := 139) dX12_term1_139 rfl rfl ?_
                    refine tz_iconst (pc := 140) dX12_term1_140 ?_
                    refine tz_icmp_eq (pc := 141) (tgt := 148) dX12_term1_141 (by decide) (by omega) (by decide) (fun h_141 => ?_) (fun h_141 => ?_)
                    · refine tz_iconst (pc := 148) dX12_term1_148 ?_
                      refine tz_iconst (pc := 149) dX12_term1_149 ?_
                      refine tz_cV (pc := 150) (m_wantsW hl n _ _ _ (by decide) (by decide) (q_132).2.1 (by decide)) vl_X12_276 dX12_term1_150 o_164 rfl rfl (Nat.le_of_ble_eq_true rfl) ⟨(show 0 + 1 ≤ 6 + 1 * (r9 + 1) by omega), (show 8 + (3 + 11) + 40 * (0) ≤ 40 * (6 + 1 * (r9 + 1)) by omega)⟩ rfl rfl (Nat.le_of_ble_eq_true rfl) (Nat.le_of_ble_eq_true rfl) (fun r9 J_150 hq9 => ?_)
                      obtain ⟨z_150, rfl, hz_150, w_150, b_150, c_150, d_150⟩ := hq9
                      have q_150 := MRT.w q_132 w_150
                      obtain rfl : z_150 = 0 := by rcases b_150 with e9 | e9; exact e9; exact absurd rfl (c_150 e9).2.2
                      have v_150 := d_150 rfl
                      clear b_150 c_150 d_150
                      refine tz_if_neF (pc := 153) (tgt := 158) (by decide) dX12_term1_153 (by decide) (by decide) ?_
                      refine tz_iconst (pc := 156) dX12_term1_156 ?_
                      exact tz_iret (pc := 157) (z := 0) dX12_term1_157 rfl (Nat.le_of_ble_eq_true rfl) (Nat.le_of_ble_eq_true rfl) ⟨Nat.le_refl _, Nat.le_add_right _ _⟩ ⟨_, rfl, (by decide), ⟨m, q_150, fun q9 => by omega⟩⟩
                    · refine tz_iconst (pc := 144) dX12_term1_144 ?_
                      refine tz_goto (pc := 145) (tgt := 149) dX12_term1_145 (by decide) ?_
                      refine tz_iconst (pc := 149) dX12_term1_149 ?_
                      refine tz_cV (pc := 150) (m_wantsW hl n _ _ _ (by decide) (by decide) (q_132).2.1 (by decide)) vl_X12_276 dX12_term1_150 o_164 rfl rfl (Nat.le_of_ble_eq_true rfl) ⟨(show 0 + 1 ≤ 6 + 1 * (r9 + 1) by omega), (show 8 + (3 + 11) + 40 * (0) ≤ 40 * (6 + 1 * (r9 + 1)) by omega)⟩ rfl rfl (Nat.le_of_ble_eq_true rfl) (Nat.le_of_ble_eq_true rfl) (fun r9 J_150 hq9 => ?_)
                      obtain ⟨z_150, rfl, hz_150, w_150, b_150, c_150, d_150⟩ := hq9
                      have q_150 := MRT.w q_132 w_150
                      have o_150 : (z_150 = 0 ∧ ¬ J_150 164 43 = 0) ∨ (z_150 = 1 ∧ J_150 164 43 = 0) := by rcases b_150 with e9 | e9; exact Or.inl ⟨e9, d_150 e9⟩; exact Or.inr ⟨e9, (c_150 e9).2.1⟩
                      clear b_150 c_150 d_150
                      rcases o_150 with ⟨rfl, v_150⟩ | ⟨rfl, v_150⟩
                      · refine tz_if_neF (pc := 153) (tgt := 158) (by decide) dX12_term1_153 (by decide) (by decide) ?_
                        refine tz_iconst (pc := 156) dX12_term1_156 ?_
                        exact tz_iret (pc := 157) (z := 0) dX12_term1_157 rfl (Nat.le_of_ble_eq_true rfl) (Nat.le_of_ble_eq_true rfl) ⟨Nat.le_refl _, Nat.le_add_right _ _⟩ ⟨_, rfl, (by decide), ⟨m, q_150, fun q9 => by omega⟩⟩
                      · refine tz_if_neT (pc := 153) (tgt := 158) (by decide) dX12_term1_153 (by decide) (by decide) ?_
                        refine tz_aload_n (pc := 158) dX12_term1_158 rfl rfl ?_
                        refine tz_cV (pc := 159) (m_goW hl n _ (q_150).2.1) vl_X12_280 dX12_term1_159 o_164 rfl rfl (Nat.le_of_ble_eq_true rfl) ⟨(show 2 + 1 ≤ 6 + 1 * (r9 + 1) by omega), (show 8 + (2 + 11) + 40 * (2) ≤ 40 * (6 + 1 * (r9 + 1)) by omega)⟩ rfl rfl (Nat.le_of_ble_eq_true rfl) (Nat.le_of_ble_eq_true rfl) (fun r9 J_159 hq9 => ?_)
                        obtain ⟨rfl, w_159, b_159⟩ := hq9
                        have q_159 := MRT.w q_150 w_159
                        refine tz_aload_n (pc := 162) dX12_term1_162 rfl rfl ?_
                        refine tz_fR (pc := 163) dX12_term1_163 fl_X12_25 r_164_5 ?_
                        refine tz_bipush (pc := 166) dX12_term1_166 (by decide) ?_
                        refine tz_iload_n (pc := 168) dX12_term1_168 rfl rfl ?_
                        refine tz_iadd (pc := 169) (v := 10 + z_107) dX12_term1_169 rfl ?_
                        refine tz_aL (pc := 170) (z := (10 + z_107)) (v := (J 170 (10 + z_107))) dX12_term1_170 a_170 rfl (by omega) (Eq.trans (congrFun (w_159.1.1 170 rfl) (10 + z_107)) (Eq.trans (congrFun (w_150.1.1 170 rfl) (10 + z_107)) (Eq.trans (congrFun (w_132.1.1 170 rfl) (10 + z_107)) (Eq.trans (congrFun (w_31.1.1 170 rfl) (10 + z_107)) rfl)))) (fun r_170 => ?_)
                        have hA9 := hM.2.2.2.2.2.1.2 z_107 (by omega) (by omega)
                        have hA8 : 0 ≤ J 170 (10 + z_107) ∧ J 170 (10 + z_107) ≤ 3 := hA9
                        rcases (show J 170 (10 + z_107) = 0 ∨ J 170 (10 + z_107) = 1 ∨ J 170 (10 + z_107) = 2 ∨ J 170 (10 + z_107) = 3 by omega) with hk9 | hk9 | hk9 | hk9
                        · rw [hk9]
                          refine tz_istore_n (pc := 171) (L2 := [_, _, _, _, _, _, _]) dX12_term1_171 rfl (by decide) rfl ?_
                          refine tz_iconst (pc := 172) dX12_term1_172 ?_
                          refine tz_istore (pc := 173) (L2 := [_, _, _, _, _, _, _]) dX12_term1_173 (by decide) rfl ?_
                          refine tz_iconst (pc := 175) dX12_term1_175 ?_
                          refine tz_istore (pc := 176) (L2 := [_, _, _, _, _, _, _]) dX12_term1_176 (by decide) rfl ?_
                          refine tz_iconst (pc := 178) dX12_term1_178 ?_
                          refine tz_istore (pc := 179) (L2 := [_, _, _, _, _, _, _]) dX12_term1_179 (by decide) rfl ?_
                          refine tz_iload_n (pc := 181) dX12_term1_181 rfl rfl ?_
                          refine tz_if_leT (pc := 182) (tgt := 264) (by decide) dX12_term1_182 (by decide) (by decide) ?_
                          refine tz_aload_n (pc := 264) dX12_term1_264 rfl rfl ?_
                          refine tz_fI (pc := 265) (kz := 43) (v := (J_159 164 43)) dX12_term1_265 fl_X12_273 i_164_43 rfl rfl (fun r_265 => ?_)
                          refine tz_if_ne (pc := 268) (tgt := 285) dX12_term1_268 (by decide) (by omega) (fun h_268 => ?_) (fun h_268 => ?_)
                          · refine tz_iconst (pc := 285) dX12_term1_285 ?_
                            exact tz_iret (pc := 286) (z := 0) dX12_term1_286 rfl (Nat.le_of_ble_eq_true rfl) (Nat.le_of_ble_eq_true rfl) ⟨Nat.le_refl _, Nat.le_add_right _ _⟩ ⟨_, rfl, (by decide), ⟨m, q_159, fun q9 => by omega⟩⟩
                          · refine tz_aload_n (pc := 271) dX12_term1_271 rfl rfl ?_
                            refine tz_iload_n (pc := 272) dX12_term1_272 rfl rfl ?_
                            refine tz_iload (pc := 273) dX12_term1_273 rfl ?_
                            refine tz_iload (pc := 275) dX12_term1_275 rfl ?_
                            refine tz_iload (pc := 277) dX12_term1_277 rfl ?_
                            refine tz_cV (pc := 279) (m_tu0 hl n _ _ _ _ _ (by omega) (by decide) (by decide) (by decide) 800 126 10 s m (q_159).1.1.1 (by omega) ⟨by omega, ((congrFun ((q_159).c 170 rfl) _).trans hk9)⟩ (q_159).2.2.2.2 ⟨fun g9 => absurd g9 (by decide), fun g9 => absurd g9 (by decide), fun g9 => absurd g9 (by decide)⟩) vl_X12_107 dX12_term1_279 o_164 rfl rfl (Nat.le_of_ble_eq_true rfl) ⟨(show 2 + 1 ≤ 6 + 1 * (r9 + 1) by omega), (show 8 + (8 + 11) + 40 * (2) ≤ 40 * (6 + 1 * (r9 + 1)) by omega)⟩ rfl rfl (Nat.le_of_ble_eq_true rfl) (Nat.le_of_ble_eq_true rfl) (fun r9 J_279 hq9 => ?_)
                            obtain ⟨z_279, rfl, hz_279, m_279, g_279, h_279⟩ := hq9
                            have q_279 := MRT.t q_159 g_279 (by omega)
                            refine tz_goto (pc := 282) (tgt := 286) dX12_term1_282 (by decide) ?_
                            exact tz_iret (pc := 286) (z := z_279) dX12_term1_286 rfl (Nat.le_of_ble_eq_true rfl) (Nat.le_of_ble_eq_true rfl) ⟨Nat.le_refl _, Nat.le_add_right _ _⟩ ⟨_, rfl, (by omega), ⟨m_279, q_279, fun _ => h_279⟩⟩
                        · rw [hk9]
                          refine tz_istore_n (pc := 171) (L2 := [_, _, _, _, _, _, _]) dX12_term1_171 rfl (by decide) rfl ?_
                          refine tz_iconst (pc := 172) dX12_term1_172 ?_
                          refine tz_istore (pc := 173) (L2 := [_, _, _, _, _, _, _]) dX12_term1_173 (by decide) rfl ?_
                          refine tz_iconst (pc := 175) dX12_term1_175 ?_
                          refine tz_istore (pc := 176) (L2 := [_, _, _, _, _, _, _]) dX12_term1_176 (by decide) rfl ?_
                          refine tz_iconst (pc := 178) dX12_term1_178 ?_
                          refine tz_istore (pc := 179) (L2 := [_, _, _, _, _, _, _]) dX12_term1_179 (by decide) rfl ?_
                          refine tz_iload_n (pc := 181) dX12_term1_181 rfl rfl ?_
                          refine tz_if_leF (pc := 182) (tgt := 264) (by decide) dX12_term1_182 (by decide) (by decide) ?_
                          refine tz_aload_n (pc := 185) dX12_term1_185 rfl rfl ?_
                          refine tz_bipush (pc := 186) dX12_term1_186 (by decide) ?_
                          refine tz_cV (pc := 188) (m_sign hl n _ _ (by decide) (q_159).2.1 (by decide)) vl_X12_296 dX12_term1_188 o_164 rfl rfl (Nat.le_of_ble_eq_true rfl) ⟨(show 3 + 1 ≤ 6 + 1 * (r9 + 1) by omega), (show 8 + (2 + 11) + 40 * (3) ≤ 40 * (6 + 1 * (r9 + 1)) by omega)⟩ rfl rfl (Nat.le_of_ble_eq_true rfl) (Nat.le_of_ble_eq_true rfl) (fun r9 J_188 hq9 => ?_)
                          obtain ⟨rfl, w_188, b_188⟩ := hq9
                          have q_188 := MRT.w q_159 w_188
                          refine tz_aload_n (pc := 191) dX12_term1_191 rfl rfl ?_
                          refine tz_iload_n (pc := 192) dX12_term1_192 rfl rfl ?_
                          refine tz_iconst (pc := 193) dX12_term1_193 ?_
                          refine tz_iadd (pc := 194) (v := x + 1) dX12_term1_194 rfl ?_
                          refine tz_cV (pc := 195) (ih _ _ (by omega) s m (q_188).1.1.1 (q_188).2.1 (q_188).2.2.2.2 (((q_188).f 44 rfl).trans h44) (by omega) (by omega)) vl_X12_298 dX12_term1_195 o_164 rfl rfl (Nat.le_of_ble_eq_true rfl) ⟨(show (6 + 1 * r9) + 1 ≤ 6 + 1 * (r9 + 1) by omega), (show 8 + (7 + 11) + 40 * ((6 + 1 * r9)) ≤ 40 * (6 + 1 * (r9 + 1)) by omega)⟩ rfl rfl (Nat.le_of_ble_eq_true rfl) (Nat.le_of_ble_eq_true rfl) (fun r9 J_195 hq9 => ?_)
                          obtain ⟨z_195, rfl, hz_195, m_195, w_195, h_195⟩ := hq9
                          have q_195 := MRT.tr q_188 w_195
                          have l_195 := w_195.1.1.2
                          refine tz_istore (pc := 198) (L2 := [_, _, _, _, _, _, _]) dX12_term1_198 (by decide) rfl ?_
                          refine tz_iload_n (pc := 200) dX12_term1_200 rfl rfl ?_
                          refine tz_iconst (pc := 201) dX12_term1_201 ?_
                          refine tz_icmp_leT (pc := 202) (tgt := 211) (by decide) dX12_term1_202 (by decide) (by decide) (by decide) ?_
                          refine tz_iload_n (pc := 211) dX12_term1_211 rfl rfl ?_
                          refine tz_iconst (pc := 212) dX12_term1_212 ?_
                          refine tz_icmp_leT (pc := 213) (tgt := 226) (by decide) dX12_term1_213 (by decide) (by decide) (by decide) ?_
                          refine tz_iconst (pc := 226) dX12_term1_226 ?_
                          refine tz_istore (pc := 227) (L2 := [_, _, _, _, _, _, _]) dX12_term1_227 (by decide) rfl ?_
                          refine tz_iload_n (pc := 229) dX12_term1_229 rfl rfl ?_
                          refine tz_iconst (pc := 230) dX12_term1_230 ?_
                          refine tz_icmp_leT (pc := 231) (tgt := 240) (by decide) dX12_term1_231 (by decide) (by decide) (by decide) ?_
                          refine tz_iload_n (pc := 240) dX12_term1_240 rfl rfl ?_
                          refine tz_iconst (pc := 241) dX12_term1_241 ?_
                          refine tz_icmp_leT (pc := 242) (tgt := 255) (by decide) dX12_term1_242 (by decide) (by decide) (by decide) ?_
                          refine tz_iconst (pc := 255) dX12_term1_255 ?_
                          refine tz_istore (pc := 256) (L2 := [_, _, _, _, _, _, _]) dX12_term1_256 (by decide) rfl ?_
                          refine tz_aload_n (pc := 258) dX12_term1_258 rfl rfl ?_
                          refine tz_bipush (pc := 259) dX12_term1_259 (by decide) ?_
                          refine tz_cV (pc := 261) (m_sign hl n _ _ (by decide) (q_195).2.1 (by decide)) vl_X12_296 dX12_term1_261 o_164 rfl rfl (Nat.le_of_ble_eq_true rfl) ⟨(show 3 + 1 ≤ 6 + 1 * (r9 + 1) by omega), (show 8 + (2 + 11) + 40 * (3) ≤ 40 * (6 + 1 * (r9 + 1)) by omega)⟩ rfl rfl (Nat.le_of_ble_eq_true rfl) (Nat.le_of_ble_eq_true rfl) (fun r9 J_261 hq9 => ?_)
                          obtain ⟨rfl, w_261, b_261⟩ := hq9
                          have q_261 := MRT.w q_195 w_261
                          refine tz_aload_n (pc := 264) dX12_term1_264 rfl rfl ?_
                          refine tz_fI (pc := 265) (kz := 43) (v := (J_261 164 43)) dX12_term1_265 fl_X12_273 i_164_43 rfl rfl (fun r_265 => ?_)
                          refine tz_if_ne (pc := 268) (tgt := 285) dX12_term1_268 (by decide) (by omega) (fun h_268 => ?_) (fun h_268 => ?_)
                          · refine tz_iconst (pc := 285) dX12_term1_285 ?_
                            exact tz_iret (pc := 286) (z := 0) dX12_term1_286 rfl (Nat.le_of_ble_eq_true rfl) (Nat.le_of_ble_eq_true rfl) ⟨Nat.le_refl _, Nat.le_add_right _ _⟩ ⟨_, rfl, (by decide), ⟨m_195, q_261, fun q9 => by omega⟩⟩
                          · refine tz_aload_n (pc := 271) dX12_term1_271 rfl rfl ?_
                            refine tz_iload_n (pc := 272) dX12_term1_272 rfl rfl ?_
                            refine tz_iload (pc := 273) dX12_term1_273 rfl ?_
                            refine tz_iload (pc := 275) dX12_term1_275 rfl ?_
                            refine tz_iload (pc := 277) dX12_term1_277 rfl ?_
                            have hb_261 : J_261 164 43 = 0 := h_268
                            have hb_195 := w_261.2.2.1 hb_261
                            have hv_195 := h_195 hb_195
                            refine tz_cV (pc := 279) (m_tu1 hl n _ _ _ _ _ (by omega) hz_195 (by decide) (by decide) 800 126 10 s m_195 (q_261).1.1.1 (by omega) ⟨by omega, ((congrFun ((q_261).c 170 rfl) _).trans hk9)⟩ (q_261).2.2.2.2 ⟨fun _ => ⟨hv_195.1, by omega⟩, fun g9 => absurd g9 (by decide), fun g9 => absurd g9 (by decide)⟩) vl_X12_107 dX12_term1_279 o_164 rfl rfl (Nat.le_of_ble_eq_true rfl) ⟨(show 2 + 1 ≤ 6 + 1 * (r9 + 1) by omega), (show 8 + (8 + 11) + 40 * (2) ≤ 40 * (6 + 1 * (r9 + 1)) by omega)⟩ rfl rfl (Nat.le_of_ble_eq_true rfl) (Nat.le_of_ble_eq_true rfl) (fun r9 J_279 hq9 => ?_)
                            obtain ⟨z_279, rfl, hz_279, m_279, g_279, h_279⟩ := hq9
                            have q_279 := MRT.t q_261 g_279 (by omega)
                            refine tz_goto (pc := 282) (tgt := 286) dX12_term1_282 (by decide) ?_
                            exact tz_iret (pc := 286) (z := z_279) dX12_term1_286 rfl (Nat.le_of_ble_eq_true rfl) (Nat.le_of_ble_eq_true rfl) ⟨Nat.le_refl _, Nat.le_add_right _ _⟩ ⟨_, rfl, (by omega), ⟨m_279, q_279, fun _ => h_279⟩⟩
                        · rw [hk9]
                          refine tz_istore_n (pc := 171) (L2 := [_, _, _, _, _, _, _]) dX12_term1_171 rfl (by decide) rfl ?_
                          refine tz_iconst (pc := 172) dX12_term1_172 ?_
                          refine tz_istore (pc := 173) (L2 := [_, _, _, _, _, _, _]) dX12_term1_173 (by decide) rfl ?_
                          refine tz_iconst (pc := 175) dX12_term1_175 ?_
                          refine tz_istore (pc := 176) (L2 := [_, _, _, _, _, _, _]) dX12_term1_176 (by decide) rfl ?_
                          refine tz_iconst (pc := 178) dX12_term1_178 ?_
                          refine tz_istore (pc := 179) (L2 := [_, _, _, _, _, _, _]) dX12_term1_179 (by decide) rfl ?_
                          refine tz_iload_n (pc := 181) dX12_term1_181 rfl rfl ?_
                          refine tz_if_leF (pc := 182) (tgt := 264) (by decide) dX12_term1_182 (by decide) (by decide) ?_
                          refine tz_aload_n (pc := 185) dX12_term1_185 rfl rfl ?_
                          refine tz_bipush (pc := 186) dX12_term1_186 (by decide) ?_
                          refine tz_cV (pc := 188) (m_sign hl n _ _ (by decide) (q_159).2.1 (by decide)) vl_X12_296 dX12_term1_188 o_164 rfl rfl (Nat.le_of_ble_eq_true rfl) ⟨(show 3 + 1 ≤ 6 + 1 * (r9 + 1) by omega), (show 8 + (2 + 11) + 40 * (3) ≤ 40 * (6 + 1 * (r9 + 1)) by omega)⟩ rfl rfl (Nat.le_of_ble_eq_true rfl) (Nat.le_of_ble_eq_true rfl) (fun r9 J_188 hq9 => ?_)
                          obtain ⟨rfl, w_188, b_188⟩ := hq9
                          have q_188 := MRT.w q_159 w_188
                          refine tz_aload_n (pc := 191) dX12_term1_191 rfl rfl ?_
                          refine tz_iload_n (pc := 192) dX12_term1_192 rfl rfl ?_
                          refine tz_iconst (pc := 193) dX12_term1_193 ?_
                          refine tz_iadd (pc := 194) (v := x + 1) dX12_term1_194 rfl ?_
                          refine tz_cV (pc := 195) (ih _ _ (by omega) s m (q_188).1.1.1 (q_188).2.1 (q_188).2.2.2.2 (((q_188).f 44 rfl).trans h44) (by omega) (by omega)) vl_X12_298 dX12_term1_195 o_164 rfl rfl (Nat.le_of_ble_eq_true rfl) ⟨(show (6 + 1 * r9) + 1 ≤ 6 + 1 * (r9 + 1) by omega), (show 8 + (7 + 11) + 40 * ((6 + 1 * r9)) ≤ 40 * (6 + 1 * (r9 + 1)) by omega)⟩ rfl rfl (Nat.le_of_ble_eq_true rfl) (Nat.le_of_ble_eq_true rfl) (fun r9 J_195 hq9 => ?_)
                          obtain ⟨z_195, rfl, hz_195, m_195, w_195, h_195⟩ := hq9
                          have q_195 := MRT.tr q_188 w_195
                          have l_195 := w_195.1.1.2
                          refine tz_istore (pc := 198) (L2 := [_, _, _, _, _, _, _]) dX12_term1_198 (by decide) rfl ?_
                          refine tz_iload_n (pc := 200) dX12_term1_200 rfl rfl ?_
                          refine tz_iconst (pc := 201) dX12_term1_201 ?_
                          refine tz_icmp_leF (pc := 202) (tgt := 211) (by decide) dX12_term1_202 (by decide) (by decide) (by decide) ?_
                          refine tz_aload_n (pc := 205) dX12_term1_205 rfl rfl ?_
                          refine tz_bipush (pc := 206) dX12_term1_206 (by decide) ?_
                          refine tz_cV (pc := 208) (m_sign hl n _ _ (by decide) (q_195).2.1 (by decide)) vl_X12_296 dX12_term1_208 o_164 rfl rfl (Nat.le_of_ble_eq_true rfl) ⟨(show 3 + 1 ≤ 6 + 1 * (r9 + 1) by omega), (show 8 + (2 + 11) + 40 * (3) ≤ 40 * (6 + 1 * (r9 + 1)) by omega)⟩ rfl rfl (Nat.le_of_ble_eq_true rfl) (Nat.le_of_ble_eq_true rfl) (fun r9 J_208 hq9 => ?_)
                          obtain ⟨rfl, w_208, b_208⟩ := hq9
                          have q_208 := MRT.w q_195 w_208
                          refine tz_iload_n (pc := 211) dX12_term1_211 rfl rfl ?_
                          refine tz_iconst (pc := 212) dX12_term1_212 ?_
                          refine tz_icmp_leF (pc := 213) (tgt := 226) (by decide) dX12_term1_213 (by decide) (by decide) (by decide) ?_
                          refine tz_aload_n (pc := 216) dX12_term1_216 rfl rfl ?_
                          refine tz_iload_n (pc := 217) dX12_term1_217 rfl rfl ?_
                          refine tz_iconst (pc := 218) dX12_term1_218 ?_
                          refine tz_iadd (pc := 219) (v := x + 1) dX12_term1_219 rfl ?_
                          refine tz_cV (pc := 220) (ih _ _ (by omega) s m_195 (q_208).1.1.1 (q_208).2.1 (q_208).2.2.2.2 (((q_208).f 44 rfl).trans h44) (by omega) (by omega)) vl_X12_298 dX12_term1_220 o_164 rfl rfl (Nat.le_of_ble_eq_true rfl) ⟨(show (6 + 1 * r9) + 1 ≤ 6 + 1 * (r9 + 1) by omega), (show 8 + (7 + 11) + 40 * ((6 + 1 * r9)) ≤ 40 * (6 + 1 * (r9 + 1)) by omega)⟩ rfl rfl (Nat.le_of_ble_eq_true rfl) (Nat.le_of_ble_eq_true rfl) (fun r9 J_220 hq9 => ?_)
                          obtain ⟨z_220, rfl, hz_220, m_220, w_220, h_220⟩ := hq9
                          have q_220 := MRT.tr q_208 w_220
                          have l_220 := w_220.1.1.2
                          refine tz_goto (pc := 223) (tgt := 227) dX12_term1_223 (by decide) ?_
                          refine tz_istore (pc := 227) (L2 := [_, _, _, _, _, _, _]) dX12_term1_227 (by decide) rfl ?_
                          refine tz_iload_n (pc := 229) dX12_term1_229 rfl rfl ?_
                          refine tz_iconst (pc := 230) dX12_term1_230 ?_
                          refine tz_icmp_leT (pc := 231) (tgt := 240) (by decide) dX12_term1_231 (by decide) (by decide) (by decide) ?_
                          refine tz_iload_n (pc := 240) dX12_term1_240 rfl rfl ?_
                          refine tz_iconst (pc := 241) dX12_term1_241 ?_
                          refine tz_icmp_leT (pc := 242) (tgt := 255) (by decide) dX12_term1_242 (by decide) (by decide) (by decide) ?_
                          refine tz_iconst (pc := 255) dX12_term1_255 ?_
                          refine tz_istore (pc := 256) (L2 := [_, _, _, _, _, _, _]) dX12_term1_256 (by decide) rfl ?_
                          refine tz_aload_n (pc := 258) dX12_term1_258 rfl rfl ?_
                          refine tz_bipush (pc := 259) dX12_term1_259 (by decide) ?_
                          refine tz_cV (pc := 261) (m_sign hl n _ _ (by decide) (q_220).2.1 (by decide)) vl_X12_296 dX12_term1_261 o_164 rfl rfl (Nat.le_of_ble_eq_true rfl) ⟨(show 3 + 1 ≤ 6 + 1 * (r9 + 1) by omega), (show 8 + (2 + 11) + 40 * (3) ≤ 40 * (6 + 1 * (r9 + 1)) by omega)⟩ rfl rfl (Nat.le_of_ble_eq_true rfl) (Nat.le_of_ble_eq_true rfl) (fun r9 J_261 hq9 => ?_)
                          obtain ⟨rfl, w_261, b_261⟩ := hq9
                          have q_261 := MRT.w q_220 w_261
                          refine tz_aload_n (pc := 264) dX12_term1_264 rfl rfl ?_
                          refine tz_fI (pc := 265) (kz := 43) (v := (J_261 164 43)) dX12_term1_265 fl_X12_273 i_164_43 rfl rfl (fun r_265 => ?_)
                          refine tz_if_ne (pc := 268) (tgt := 285) dX12_term1_268 (by decide) (by omega) (fun h_268 => ?_) (fun h_268 => ?_)
                          · refine tz_iconst (pc := 285) dX12_term1_285 ?_
                            exact tz_iret (pc := 286) (z := 0) dX12_term1_286 rfl (Nat.le_of_ble_eq_true rfl) (Nat.le_of_ble_eq_true rfl) ⟨Nat.le_refl _, Nat.le_add_right _ _⟩ ⟨_, rfl, (by decide), ⟨m_220, q_261, fun q9 => by omega⟩⟩
                          · refine tz_aload_n (pc := 271) dX12_term1_271 rfl rfl ?_
                            refine tz_iload_n (pc := 272) dX12_term1_272 rfl rfl ?_
                            refine tz_iload (pc := 273) dX12_term1_273 rfl ?_
                            refine tz_iload (pc := 275) dX12_term1_275 rfl ?_
                            refine tz_iload (pc := 277) dX12_term1_277 rfl ?_
                            have hb_261 : J_261 164 43 = 0 := h_268
                            have hb_220 := w_261.2.2.1 hb_261
                            have hb_208 := w_220.2.2.1 hb_220
                            have hb_195 := w_208.2.2.1 hb_208
                            have hv_195 := h_195 hb_195
                            have hv_220 := h_220 hb_220
                            refine tz_cV (pc := 279) (m_tu2 hl n _ _ _ _ _ (by omega) hz_195 hz_220 (by decide) 800 126 10 s m_220 (q_261).1.1.1 (by omega) ⟨by omega, ((congrFun ((q_261).c 170 rfl) _).trans hk9)⟩ (q_261).2.2.2.2 ⟨fun _ => ⟨hv_195.1, by omega⟩, fun _ => ⟨hv_220.1, by omega⟩, fun g9 => absurd g9 (by decide)⟩) vl_X12_107 dX12_term1_279 o_164 rfl rfl (Nat.le_of_ble_eq_true rfl) ⟨(show 2 + 1 ≤ 6 + 1 * (r9 + 1) by omega), (show 8 + (8 + 11) + 40 * (2) ≤ 40 * (6 + 1 * (r9 + 1)) by omega)⟩ rfl rfl (Nat.le_of_ble_eq_true rfl) (Nat.le_of_ble_eq_true rfl) (fun r9 J_279 hq9 => ?_)
                            obtain ⟨z_279, rfl, hz_279, m_279, g_279, h_279⟩ := hq9
                            have q_279 := MRT.t q_261 g_279 (by omega)
                            refine tz_goto (pc := 282) (tgt := 286) dX12_term1_282 (by decide) ?_
                            exact tz_iret (pc := 286) (z := z_279) dX12_term1_286 rfl (Nat.le_of_ble_eq_true rfl) (Nat.le_of_ble_eq_true rfl) ⟨Nat.le_refl _, Nat.le_add_right _ _⟩ ⟨_, rfl, (by omega), ⟨m_279, q_279, fun _ => h_279⟩⟩
                        · rw [hk9]
                          refine tz_istore_n (pc := 171) (L2 := [_, _, _, _, _, _, _]) dX12_term1_171 rfl (by decide) rfl ?_
                          refine tz_iconst (pc := 172) dX12_term1_172 ?_
                          refine tz_istore (pc := 173) (L2 := [_, _, _, _, _, _, _]) dX12_term1_173 (by decide) rfl ?_
                          refine tz_iconst (pc := 175) dX12_term1_175 ?_
                          refine tz_istore (pc := 176) (L2 := [_, _, _, _, _, _, _]) dX12_term1_176 (by decide) rfl ?_
                          refine tz_iconst (pc := 178) dX12_term1_178 ?_
                          refine tz_istore (pc := 179) (L2 := [_, _, _, _, _, _, _]) dX12_term1_179 (by decide) rfl ?_
                          refine tz_iload_n (pc := 181) dX12_term1_181 rfl rfl ?_
                          refine tz_if_leF (pc := 182) (tgt := 264) (by decide) dX12_term1_182 (by decide) (by decide) ?_
                          refine tz_aload_n (pc := 185) dX12_term1_185 rfl rfl ?_
                          refine tz_bipush (pc := 186) dX12_term1_186 (by decide) ?_
                          refine tz_cV (pc := 188) (m_sign hl n _ _ (by decide) (q_159).2.1 (by decide)) vl_X12_296 dX12_term1_188 o_164 rfl rfl (Nat.le_of_ble_eq_true rfl) ⟨(show 3 + 1 ≤ 6 + 1 * (r9 + 1) by omega), (show 8 + (2 + 11) + 40 * (3) ≤ 40 * (6 + 1 * (r9 + 1)) by omega)⟩ rfl rfl (Nat.le_of_ble_eq_true rfl) (Nat.le_of_ble_eq_true rfl) (fun r9 J_188 hq9 => ?_)
                          obtain ⟨rfl, w_188, b_188⟩ := hq9
                          have q_188 := MRT.w q_159 w_188
                          refine tz_aload_n (pc := 191) dX12_term1_191 rfl rfl ?_
                          refine tz_iload_n (pc := 192) dX12_term1_192 rfl rfl ?_
                          refine tz_iconst (pc := 193) dX12_term1_193 ?_
                          refine tz_iadd (pc := 194) (v := x + 1) dX12_term1_194 rfl ?_
                          refine tz_cV (pc := 195) (ih _ _ (by omega) s m (q_188).1.1.1 (q_188).2.1 (q_188).2.2.2.2 (((q_188).f 44 rfl).trans h44) (by omega) (by omega)) vl_X12_298 dX12_term1_195 o_164 rfl rfl (Nat.le_of_ble_eq_true rfl) ⟨(show (6 + 1 * r9) + 1 ≤ 6 + 1 * (r9 + 1) by omega), (show 8 + (7 + 11) + 40 * ((6 + 1 * r9)) ≤ 40 * (6 + 1 * (r9 + 1)) by omega)⟩ rfl rfl (Nat.le_of_ble_eq_true rfl) (Nat.le_of_ble_eq_true rfl) (fun r9 J_195 hq9 => ?_)
                          obtain ⟨z_195, rfl, hz_195, m_195, w_195, h_195⟩ := hq9
                          have q_195 := MRT.tr q_188 w_195
                          have l_195 := w_195.1.1.2
                          refine tz_istore (pc := 198) (L2 := [_, _, _, _, _, _, _]) dX12_term1_198 (by decide) rfl ?_
                          refine tz_iload_n (pc := 200) dX12_term1_200 rfl rfl ?_
                          refine tz_iconst (pc := 201) dX12_term1_201 ?_
                          refine tz_icmp_leF (pc := 202) (tgt := 211) (by decide) dX12_term1_202 (by decide) (by decide) (by decide) ?_
                          refine tz_aload_n (pc := 205) dX12_term1_205 rfl rfl ?_
                          refine tz_bipush (pc := 206) dX12_term1_206 (by decide) ?_
                          refine tz_cV (pc := 208) (m_sign hl n _ _ (by decide) (q_195).2.1 (by decide)) vl_X12_296 dX12_term1_208 o_164 rfl rfl (Nat.le_of_ble_eq_true rfl) ⟨(show 3 + 1 ≤ 6 + 1 * (r9 + 1) by omega), (show 8 + (2 + 11) + 40 * (3) ≤ 40 * (6 + 1 * (r9 + 1)) by omega)⟩ rfl rfl (Nat.le_of_ble_eq_true rfl) (Nat.le_of_ble_eq_true rfl) (fun r9 J_208 hq9 => ?_)
                          obtain ⟨rfl, w_208, b_208⟩ := hq9
                          have q_208 := MRT.w q_195 w_208
                          refine tz_iload_n (pc := 211) dX12_term1_211 rfl rfl ?_
                          refine tz_iconst (pc := 212) dX12_term1_212 ?_
                          refine tz_icmp_leF (pc := 213) (tgt := 226) (by decide) dX12_term1_213 (by decide) (by decide) (by decide) ?_
                          refine tz_aload_n (pc := 216) dX12_term1_216 rfl rfl ?_
                          refine tz_iload_n (pc := 217) dX12_term1_217 rfl rfl ?_
                          refine tz_iconst (pc := 218) dX12_term1_218 ?_
                          refine tz_iadd (pc := 219) (v := x + 1) dX12_term1_219 rfl ?_
                          refine tz_cV (pc := 220) (ih _ _ (by omega) s m_195 (q_208).1.1.1 (q_208).2.1 (q_208).2.2.2.2 (((q_208).f 44 rfl).trans h44) (by omega) (by omega)) vl_X12_298 dX12_term1_220 o_164 rfl rfl (Nat.le_of_ble_eq_true rfl) ⟨(show (6 + 1 * r9) + 1 ≤ 6 + 1 * (r9 + 1) by omega), (show 8 + (7 + 11) + 40 * ((6 + 1 * r9)) ≤ 40 * (6 + 1 * (r9 + 1)) by omega)⟩ rfl rfl (Nat.le_of_ble_eq_true rfl) (Nat.le_of_ble_eq_true rfl) (fun r9 J_220 hq9 => ?_)
                          obtain ⟨z_220, rfl, hz_220, m_220, w_220, h_220⟩ := hq9
                          have q_220 := MRT.tr q_208 w_220
                          have l_220 := w_220.1.1.2
                          refine tz_goto (pc := 223) (tgt := 227) dX12_term1_223 (by decide) ?_
                          refine tz_istore (pc := 227) (L2 := [_, _, _, _, _, _, _]) dX12_term1_227 (by decide) rfl ?_
                          refine tz_iload_n (pc := 229) dX12_term1_229 rfl rfl ?_
                          refine tz_iconst (pc := 230) dX12_term1_230 ?_
                          refine tz_icmp_leF (pc := 231) (tgt := 240) (by decide) dX12_term1_231 (by decide) (by decide) (by decide) ?_
                          refine tz_aload_n (pc := 234) dX12_term1_234 rfl rfl ?_
                          refine tz_bipush (pc := 235) dX12_term1_235 (by decide) ?_
                          refine tz_cV (pc := 237) (m_sign hl n _ _ (by decide) (q_220).2.1 (by decide)) vl_X12_296 dX12_term1_237 o_164 rfl rfl (Nat.le_of_ble_eq_true rfl) ⟨(show 3 + 1 ≤ 6 + 1 * (r9 + 1) by omega), (show 8 + (2 + 11) + 40 * (3) ≤ 40 * (6 + 1 * (r9 + 1)) by omega)⟩ rfl rfl (Nat.le_of_ble_eq_true rfl) (Nat.le_of_ble_eq_true rfl) (fun r9 J_237 hq9 => ?_)
                          obtain ⟨rfl, w_237, b_237⟩ := hq9
                          have q_237 := MRT.w q_220 w_237
                          refine tz_iload_n (pc := 240) dX12_term1_240 rfl rfl ?_
                          refine tz_iconst (pc := 241) dX12_term1_241 ?_
                          refine tz_icmp_leF (pc := 242) (tgt := 255) (by decide) dX12_term1_242 (by decide) (by decide) (by decide) ?_
                          refine tz_aload_n (pc := 245) dX12_term1_245 rfl rfl ?_
                          refine tz_iload_n (pc := 246) dX12_term1_246 rfl rfl ?_
                          refine tz_iconst (pc := 247) dX12_term1_247 ?_
                          refine tz_iadd (pc := 248) (v := x + 1) dX12_term1_248 rfl ?_
                          refine tz_cV (pc := 249) (ih _ _ (by omega) s m_220 (q_237).1.1.1 (q_237).2.1 (q_237).2.2.2.2 (((q_237).f 44 rfl).trans h44) (by omega) (by omega)) vl_X12_298 dX12_term1_249 o_164 rfl rfl (Nat.le_of_ble_eq_true rfl) ⟨(show (6 + 1 * r9) + 1 ≤ 6 + 1 * (r9 + 1) by omega), (show 8 + (7 + 11) + 40 * ((6 + 1 * r9)) ≤ 40 * (6 + 1 * (r9 + 1)) by omega)⟩ rfl rfl (Nat.le_of_ble_eq_true rfl) (Nat.le_of_ble_eq_true rfl) (fun r9 J_249 hq9 => ?_)
                          obtain ⟨z_249, rfl, hz_249, m_249, w_249, h_249⟩ := hq9
                          have q_249 := MRT.tr q_237 w_249
                          have l_249 := w_249.1.1.2
                          refine tz_goto (pc := 252) (tgt := 256) dX12_term1_252 (by decide) ?_
                          refine tz_istore (pc := 256) (L2 := [_, _, _, _, _, _, _]) dX12_term1_256 (by decide) rfl ?_
                          refine tz_aload_n (pc := 258) dX12_term1_258 rfl rfl ?_
                          refine tz_bipush (pc := 259) dX12_term1_259 (by decide) ?_
                          refine tz_cV (pc := 261) (m_sign hl n _ _ (by decide) (q_249).2.1 (by decide)) vl_X12_296 dX12_term1_261 o_164 rfl rfl (Nat.le_of_ble_eq_true rfl) ⟨(show 3 + 1 ≤ 6 + 1 * (r9 + 1) by omega), (show 8 + (2 + 11) + 40 * (3) ≤ 40 * (6 + 1 * (r9 + 1)) by omega)⟩ rfl rfl (Nat.le_of_ble_eq_true rfl) (Nat.le_of_ble_eq_true rfl) (fun r9 J_261 hq9 => ?_)
                          obtain ⟨rfl, w_261, b_261⟩ := hq9
                          have q_261 := MRT.w q_249 w_261
                          refine tz_aload_n (pc := 264) dX12_term1_264 rfl rfl ?_
                          refine tz_fI (pc := 265) (kz := 43) (v := (J_261 164 43)) dX12_term1_265 fl_X12_273 i_164_43 rfl rfl (fun r_265 => ?_)
                          refine tz_if_ne (pc := 268) (tgt := 285) dX12_term1_268 (by decide) (by omega) (fun h_268 => ?_) (fun h_268 => ?_)
                          · refine tz_iconst (pc := 285) dX12_term1_285 ?_
                            exact tz_iret (pc := 286) (z := 0) dX12_term1_286 rfl (Nat.le_of_ble_eq_true rfl) (Nat.le_of_ble_eq_true rfl) ⟨Nat.le_refl _, Nat.le_add_right _ _⟩ ⟨_, rfl, (by decide), ⟨m_249, q_261, fun q9 => by omega⟩⟩
                          · refine tz_aload_n (pc := 271) dX12_term1_271 rfl rfl ?_
                            refine tz_iload_n (pc := 272) dX12_term1_272 rfl rfl ?_
                            refine tz_iload (pc := 273) dX12_term1_273 rfl ?_
                            refine tz_iload (pc := 275) dX12_term1_275 rfl ?_
                            refine tz_iload (pc := 277) dX12_term1_277 rfl ?_
                            have hb_261 : J_261 164 43 = 0 := h_268
                            have hb_249 := w_261.2.2.1 hb_261
                            have hb_237 := w_249.2.2.1 hb_249
                            have hb_220 := w_237.2.2.1 hb_237
                            have hb_208 := w_220.2.2.1 hb_220
                            have hb_195 := w_208.2.2.1 hb_208
                            have hv_195 := h_195 hb_195
                            have hv_220 := h_220 hb_220
                            have hv_249 := h_249 hb_249
                            refine tz_cV (pc := 279) (m_tu3 hl n _ _ _ _ _ (by omega) hz_195 hz_220 hz_249 800 126 10 s m_249 (q_261).1.1.1 (by omega) ⟨by omega, ((congrFun ((q_261).c 170 rfl) _).trans hk9)⟩ (q_261).2.2.2.2 ⟨fun _ => ⟨hv_195.1, by omega⟩, fun _ => ⟨hv_220.1, by omega⟩, fun _ => ⟨hv_249.1, by omega⟩⟩) vl_X12_107 dX12_term1_279 o_164 rfl rfl (Nat.le_of_ble_eq_true rfl) ⟨(show 2 + 1 ≤ 6 + 1 * (r9 + 1) by omega), (show 8 + (8 + 11) + 40 * (2) ≤ 40 * (6 + 1 * (r9 + 1)) by omega)⟩ rfl rfl (Nat.le_of_ble_eq_true rfl) (Nat.le_of_ble_eq_true rfl) (fun r9 J_279 hq9 => ?_)
                            obtain ⟨z_279, rfl, hz_279, m_279, g_279, h_279⟩ := hq9
                            have q_279 := MRT.t q_261 g_279 (by omega)
                            refine tz_goto (pc := 282) (tgt := 286) dX12_term1_282 (by decide) ?_
                            exact tz_iret (pc := 286) (z := z_279) dX12_term1_286 rfl (Nat.le_of_ble_eq_true rfl) (Nat.le_of_ble_eq_true rfl) ⟨Nat.le_refl _, Nat.le_add_right _ _⟩ ⟨_, rfl, (by omega), ⟨m_279, q_279, fun _ => h_279⟩⟩
            · refine tz_aload_n (pc := 48) dX12_term1_48 rfl rfl ?_
              refine tz_iload_n (pc := 49) dX12_term1_49 rfl rfl ?_
              refine tz_bipush (pc := 50) dX12_term1_50 (by decide) ?_
              refine tz_icmp_gt (pc := 52) (tgt := 59) dX12_term1_52 (by decide) (by omega) (by decide) (fun h_52 => ?_) (fun h_52 => ?_)
              · refine tz_iconst (pc := 59) dX12_term1_59 ?_
                refine tz_iconst (pc := 60) dX12_term1_60 ?_
                refine tz_cV (pc := 61) (m_wantsW hl n _ _ _ (by decide) (by decide) (q_31).2.1 (by decide)) vl_X12_276 dX12_term1_61 o_164 rfl rfl (Nat.le_of_ble_eq_true rfl) ⟨(show 0 + 1 ≤ 6 + 1 * (r9 + 1) by omega), (show 8 + (3 + 11) + 40 * (0) ≤ 40 * (6 + 1 * (r9 + 1)) by omega)⟩ rfl rfl (Nat.le_of_ble_eq_true rfl) (Nat.le_of_ble_eq_true rfl) (fun r9 J_61 hq9 => ?_)
                obtain ⟨z_61, rfl, hz_61, w_61, b_61, c_61, d_61⟩ := hq9
                have q_61 := MRT.w q_31 w_61
                obtain rfl : z_61 = 0 := by rcases b_61 with e9 | e9; exact e9; exact absurd rfl (c_61 e9).2.2
                have v_61 := d_61 rfl
                clear b_61 c_61 d_61
                refine tz_if_neF (pc := 64) (tgt := 69) (by decide) dX12_term1_64 (by decide) (by decide) ?_
                refine tz_iconst (pc := 67) dX12_term1_67 ?_
                exact tz_iret (pc := 68) (z := 0) dX12_term1_68 rfl (Nat.le_of_ble_eq_true rfl) (Nat.le_of_ble_eq_true rfl) ⟨Nat.le_refl _, Nat.le_add_right _ _⟩ ⟨_, rfl, (by decide), ⟨m, q_61, fun q9 => by omega⟩⟩
              · refine tz_iconst (pc := 55) dX12_term1_55 ?_
                refine tz_goto (pc := 56) (tgt := 60) dX12_term1_56 (by decide) ?_
                refine tz_iconst (pc := 60) dX12_term1_60 ?_
                refine tz_cV (pc := 61) (m_wantsW hl n _ _ _ (by decide) (by decide) (q_31).2.1 (by decide)) vl_X12_276 dX12_term1_61 o_164 rfl rfl (Nat.le_of_ble_eq_true rfl) ⟨(show 0 + 1 ≤ 6 + 1 * (r9 + 1) by omega), (show 8 + (3 + 11) + 40 * (0) ≤ 40 * (6 + 1 * (r9 + 1)) by omega)⟩ rfl rfl (Nat.le_of_ble_eq_true rfl) (Nat.le_of_ble_eq_true rfl) (fun r9 J_61 hq9 => ?_)
                obtain ⟨z_61, rfl, hz_61, w_61, b_61, c_61, d_61⟩ := hq9
                have q_61 := MRT.w q_31 w_61
                have o_61 : (z_61 = 0 ∧ ¬ J_61 164 43 = 0) ∨ (z_61 = 1 ∧ J_61 164 43 = 0) := by rcases b_61 with e9 | e9; exact Or.inl ⟨e9, d_61 e9⟩; exact Or.inr ⟨e9, (c_61 e9).2.1⟩
                clear b_61 c_61 d_61
                rcases o_61 with ⟨rfl, v_61⟩ | ⟨rfl, v_61⟩
                · refine tz_if_neF (pc := 64) (tgt := 69) (by decide) dX12_term1_64 (by decide) (by decide) ?_
                  refine tz_iconst (pc := 67) dX12_term1_67 ?_
                  exact tz_iret (pc := 68) (z := 0) dX12_term1_68 rfl (Nat.le_of_ble_eq_true rfl) (Nat.le_of_ble_eq_true rfl) ⟨Nat.le_refl _, Nat.le_add_right _ _⟩ ⟨_, rfl, (by decide), ⟨m, q_61, fun q9 => by omega⟩⟩
                · refine tz_if_neT (pc := 64) (tgt := 69) (by decide) dX12_term1_64 (by decide) (by decide) ?_
                  refine tz_aload_n (pc := 69) dX12_term1_69 rfl rfl ?_
                  refine tz_cV (pc := 70) (m_goW hl n _ (q_61).2.1) vl_X12_280 dX12_term1_70 o_164 rfl rfl (Nat.le_of_ble_eq_true rfl) ⟨(show 2 + 1 ≤ 6 + 1 * (r9 + 1) by omega), (show 8 + (2 + 11) + 40 * (2) ≤ 40 * (6 + 1 * (r9 + 1)) by omega)⟩ rfl rfl (Nat.le_of_ble_eq_true rfl) (Nat.le_of_ble_eq_true rfl) (fun r9 J_70 hq9 => ?_)
                  obtain ⟨rfl, w_70, b_70⟩ := hq9
                  have q_70 := MRT.w q_61 w_70
                  refine tz_aload_n (pc := 73) dX12_term1_73 rfl rfl ?_
                  refine tz_iconst (pc := 74) dX12_term1_74 ?_
                  refine tz_bipush (pc := 75) dX12_term1_75 (by decide) ?_
                  refine tz_cV (pc := 77) (m_number hl n _ _ _ (by decide) (by decide) (q_70).2.1 (by decide)) vl_X12_290 dX12_term1_77 o_164 rfl rfl (Nat.le_of_ble_eq_true rfl) ⟨(show 3 + 1 ≤ 6 + 1 * (r9 + 1) by omega), (show 8 + (4 + 11) + 40 * (3) ≤ 40 * (6 + 1 * (r9 + 1)) by omega)⟩ rfl rfl (Nat.le_of_ble_eq_true rfl) (Nat.le_of_ble_eq_true rfl) (fun r9 J_77 hq9 => ?_)
                  obtain ⟨z_77, rfl, hz_77, w_77, b_77, d_77⟩ := hq9
                  have q_77 := MRT.w q_70 w_77
                  refine tz_istore_n (pc := 80) (L2 := [_, _, _, _, _, _, _]) dX12_term1_80 rfl (by decide) rfl ?_
                  refine tz_aload_n (pc := 81) dX12_term1_81 rfl rfl ?_
                  refine tz_fI (pc := 82) (kz := 43) (v := (J_77 164 43)) dX12_term1_82 fl_X12_273 i_164_43 rfl rfl (fun r_82 => ?_)
                  refine tz_if_ne (pc := 85) (tgt := 96) dX12_term1_85 (by decide) (by omega) (fun h_85 => ?_) (fun h_85 => ?_)
                  · refine tz_iconst (pc := 96) dX12_term1_96 ?_
                    exact tz_iret (pc := 97) (z := 0) dX12_term1_97 rfl (Nat.le_of_ble_eq_true rfl) (Nat.le_of_ble_eq_true rfl) ⟨Nat.le_refl _, Nat.le_add_right _ _⟩ ⟨_, rfl, (by decide), ⟨m, q_77, fun q9 => by omega⟩⟩
                  · refine tz_aload_n (pc := 88) dX12_term1_88 rfl rfl ?_
                    refine tz_iload_n (pc := 89) dX12_term1_89 rfl rfl ?_
                    refine tz_cV (pc := 90) (m_varTermU hl n _ _ (by omega) 800 126 10 s m (q_77).1.1.1 (by omega) (q_77).2.2.2.2) vl_X12_180 dX12_term1_90 o_164 rfl rfl (Nat.le_of_ble_eq_true rfl) ⟨(show 3 + 1 ≤ 6 + 1 * (r9 + 1) by omega), (show 8 + (2 + 11) + 40 * (3) ≤ 40 * (6 + 1 * (r9 + 1)) by omega)⟩ rfl rfl (Nat.le_of_ble_eq_true rfl) (Nat.le_of_ble_eq_true rfl) (fun r9 J_90 hq9 => ?_)
                    obtain ⟨z_90, rfl, hz_90, m_90, g_90, h_90⟩ := hq9
                    have q_90 := MRT.t q_77 g_90 (by omega)
                    refine tz_goto (pc := 93) (tgt := 97) dX12_term1_93 (by decide) ?_
                    exact tz_iret (pc := 97) (z := z_90) dX12_term1_97 rfl (Nat.le_of_ble_eq_true rfl) (Nat.le_of_ble_eq_true rfl) ⟨Nat.le_refl _, Nat.le_add_right _ _⟩ ⟨_, rfl, (by omega), ⟨m_90, q_90, fun _ => h_90⟩⟩

theorem m_term1 {l : Launch} {G : tb_G} (hl : l.stackTraces = false) (n : Nat) (J : zJ) (s m : Int) (hM : MS J 800 126 10 s m) (hP : RSP J) (hu : J 164 21 = 0 ∨ 0 < m) (h44 : J 164 44 = s) : tz_Ok l G M_X12_term1 14 0 0 [.ref 164, zi 1] n J (zqi (fun z J' => ∃ m', MRT J' J s m m' ∧ TV J' z m')) zN := m_term1R hl n 8 J 1 (by decide) s m hM hP hu h44 (by decide) (by decide)
