section
set_option maxHeartbeats 4000000 in
set_option maxRecDepth 100000 in
theorem m_term1R {l : Launch} {G : tb_G} (hl : l.stackTraces = false) (n : Nat) : ∀ (r9 : Nat) (J : zJ) (x : Int) (hr_x : -2147483648 ≤ x ∧ x < 2147483648) (s m : Int) (hM : MS J 800 126 10 s m) (hP : RSP J) (hu : J 164 21 = 0 ∨ 0 < m) (h44 : J 164 44 = s) (hx : 1 ≤ x ∧ x ≤ 7), ((7 - x).toNat) < r9 → tz_Ok l G M_X12_term1 (6 + 1 * r9) 0 0 [.ref 164, zi x] n J (zqi (fun z J' => ∃ m', MRT J' J s m m' ∧ TV J' z m')) zN := by
  intro r9
  induction r9 with
  | zero => intro J x hr_x s m hM hP hu h44 hx hm9; exact absurd hm9 (Nat.not_lt_zero _)
  | succ r9 ih =>
    intro J x hr_x s m hM hP hu h44 hx hm9
    refine tz_Ok.of hl (by decide +kernel) rfl (tb_c1 rfl) (Nat.le_of_ble_eq_true rfl) ?_
    show tz_At l G M_X12_term1 (tb_rm (6 + 1 * (r9 + 1)) 0 0) none (tb_ZM G 0 0 (zQ n 0 (zqi (fun z J' => ∃ m', MRT J' J s m m' ∧ TV J' z m'))) (zX n 0 zN)) 0 0 n J 0 [some (.ref 164), some (zi x), none, none, none, none, none] []
    have hT := hM.told
    have g0 := MRT.rf hM hP hu
    clear hu
    refine tz_aload_n (pc := 0) dX12_term1_0 rfl rfl ?_
    refine tz_fI (pc := 1) (kz := 43) (v := (J 164 43)) dX12_term1_1 fl_X12_273 i_164_43 rfl rfl (fun r_1 => ?_)
    refine tz_if_ne (pc := 4) (tgt := 37) dX12_term1_4 (by decide) (by omega) (fun h_4 => ?_) (fun h_4 => ?_)
    · refine tz_iconst (pc := 37) dX12_term1_37 ?_
      exact tz_iret (pc := 38) (z := 0) dX12_term1_38 rfl (Nat.le_of_ble_eq_true rfl) (Nat.le_of_ble_eq_true rfl) ⟨Nat.le_refl _, Nat.le_add_right _ _⟩ ⟨_, rfl, (by decide), ⟨m, g0, fun q9 => absurd q9 h_4⟩⟩
    · refine tz_aload_n (pc := 7) dX12_term1_7 rfl rfl ?_
      refine tz_aload_n (pc := 8) dX12_term1_8 rfl rfl ?_
      refine tz_fI (pc := 9) (kz := 38) (v := (J 164 38)) dX12_term1_9 fl_X12_261 i_164_38 rfl rfl (fun r_9 => ?_)
      refine tz_iconst (pc := 12) dX12_term1_12 ?_
      refine tz_icmp_eq (pc := 13) (tgt := 25) dX12_term1_13 (by decide) (by omega) (by decide) (fun h_13 => ?_) (fun h_13 => ?_)
      · refine tz_iconst (pc := 25) dX12_term1_25 ?_
        refine tz_goto (pc := 26) (tgt := 30) dX12_term1_26 (by decide) ?_
        refine tz_iconst (pc := 30) dX12_term1_30 ?_
        refine tz_cV (pc := 31) (m_wantsW hl n _ _ _ (by decide) (by decide) (g0).2.1 (by decide)) vl_X12_276 dX12_term1_31 o_164 rfl rfl (Nat.le_of_ble_eq_true rfl) ⟨(show 0 + 1 ≤ 6 + 1 * (r9 + 1) by omega), (show 8 + (3 + 11) + 40 * (0) ≤ 40 * (6 + 1 * (r9 + 1)) by omega)⟩ rfl rfl (Nat.le_of_ble_eq_true rfl) (Nat.le_of_ble_eq_true rfl) (fun r9 J_31 hq9 => ?_)
        obtain ⟨z_31, rfl, hz_31, w_31, b_31, c_31, d_31⟩ := hq9
        have q_31 := MRT.w g0 w_31
        have o_31 : (z_31 = 0 ∧ ¬ J_31 164 43 = 0) ∨ (z_31 = 1 ∧ J_31 164 43 = 0) := by rcases b_31 with e9 | e9; exact Or.inl ⟨e9, d_31 e9⟩; exact Or.inr ⟨e9, (c_31 e9).2.1⟩
        clear b_31 c_31 d_31
        rcases o_31 with ⟨rfl, v_31⟩ | ⟨rfl, v_31⟩
        · refine tz_if_neF (pc := 34) (tgt := 39) (by decide) dX12_term1_34 (by decide) (by decide) ?_
          refine tz_iconst (pc := 37) dX12_term1_37 ?_
          exact tz_iret (pc := 38) (z := 0) dX12_term1_38 rfl (Nat.le_of_ble_eq_true rfl) (Nat.le_of_ble_eq_true rfl) ⟨Nat.le_refl _, Nat.le_add_right _ _⟩ ⟨_, rfl, (by decide), ⟨m, q_31, fun q9 => by omega⟩⟩
        · refine tz_if_neT (pc := 34) (tgt := 39) (by decide) dX12_term1_34 (by decide) (by decide) ?_
          refine tz_aload_n (pc := 39) dX12_term1_39 rfl rfl ?_
          refine tz_fI (pc := 40) (kz := 42) (v := (J_31 164 42)) dX12_term1_40 fl_X12_258 i_164_42 rfl rfl (fun r_40 => ?_)
          refine tz_bipush (pc := 43) dX12_term1_43 (by decide) ?_
          refine tz_icmp_ne (pc := 45) (tgt := 98) dX12_term1_45 (by decide) (by omega) (by decide) (fun h_45 => ?_) (fun h_45 => ?_)
          · refine tz_aload_n (pc := 98) dX12_term1_98 rfl rfl ?_
            refine tz_aload_n (pc := 99) dX12_term1_99 rfl rfl ?_
            refine tz_aload_n (pc := 100) dX12_term1_100 rfl rfl ?_
            refine tz_fI (pc := 101) (kz := 36) (v := (J_31 164 36)) dX12_term1_101 fl_X12_246 i_164_36 rfl rfl (fun r_101 => ?_)
            have y_104 := (q_31).2.1
            have x_104 := y_104.2.1
            refine tz_cV (pc := 104) (m_byteAt hl n _ _ (by omega) (by omega) y_104.1.1.2) vl_X12_240 dX12_term1_104 o_164 rfl rfl (Nat.le_of_ble_eq_true rfl) ⟨(show 0 + 1 ≤ 6 + 1 * (r9 + 1) by omega), (show 8 + (2 + 11) + 40 * (0) ≤ 40 * (6 + 1 * (r9 + 1)) by omega)⟩ rfl rfl (Nat.le_of_ble_eq_true rfl) (Nat.le_of_ble_eq_true rfl) (fun r9 J_104 hq9 => ?_)
            obtain ⟨z_104, rfl, hz_104, rfl, -, -⟩ := hq9
            clear y_104
            have s_107 : J_31 164 44 = s := ((q_31).f 44 rfl).trans h44
            refine tz_cV (pc := 107) (m_symOf hl n _ _ (by omega) (by rw [s_107]; omega)) vl_X12_293 dX12_term1_107 o_164 rfl rfl (Nat.le_of_ble_eq_true rfl) ⟨(show 0 + 1 ≤ 6 + 1 * (r9 + 1) by omega), (show 8 + (3 + 11) + 40 * (0) ≤ 40 * (6 + 1 * (r9 + 1)) by omega)⟩ rfl rfl (Nat.le_of_ble_eq_true rfl) (Nat.le_of_ble_eq_true rfl) (fun r9 J_107 hq9 => ?_)
            obtain ⟨z_107, rfl, hz_107, rfl, hs_107⟩ := hq9
            rw [s_107] at hs_107
            refine tz_istore_n (pc := 110) (L2 := [_, _, _, _, _, _, _]) dX12_term1_110 rfl (by decide) rfl ?_
            refine tz_aload_n (pc := 111) dX12_term1_111 rfl rfl ?_
            refine tz_aload_n (pc := 112) dX12_term1_112 rfl rfl ?_
            refine tz_fI (pc := 113) (kz := 41) (v := (J_31 164 41)) dX12_term1_113 fl_X12_252 i_164_41 rfl rfl (fun r_113 => ?_)
            refine tz_iconst (pc := 116) dX12_term1_116 ?_
            refine tz_icmp_ne (pc := 117) (tgt := 130) dX12_term1_117 (by decide) (by omega) (by decide) (fun h_117 => ?_) (fun h_117 => ?_)
            · refine tz_iconst (pc := 130) dX12_term1_130 ?_
              refine tz_iconst (pc := 131) dX12_term1_131 ?_
              refine tz_cV (pc := 132) (m_wantsW hl n _ _ _ (by decide) (by decide) (q_31).2.1 (by decide)) vl_X12_276 dX12_term1_132 o_164 rfl rfl (Nat.le_of_ble_eq_true rfl) ⟨(show 0 + 1 ≤ 6 + 1 * (r9 + 1) by omega), (show 8 + (3 + 11) + 40 * (0) ≤ 40 * (6 + 1 * (r9 + 1)) by omega)⟩ rfl rfl (Nat.le_of_ble_eq_true rfl) (Nat.le_of_ble_eq_true rfl) (fun r9 J_132 hq9 => ?_)
              obtain ⟨z_132, rfl, hz_132, w_132, b_132, c_132, d_132⟩ := hq9
              have q_132 := MRT.w q_31 w_132
              obtain rfl : z_132 = 0 := by rcases b_132 with e9 | e9; exact e9; exact absurd rfl (c_132 e9).2.2
              have v_132 := d_132 rfl
              clear b_132 c_132 d_132
              refine tz_if_eqT (pc := 135) (tgt := 156) (by decide) dX12_term1_135 (by decide) (by decide) ?_
              refine tz_iconst (pc := 156) dX12_term1_156 ?_
              exact tz_iret (pc := 157) (z := 0) dX12_term1_157 rfl (Nat.le_of_ble_eq_true rfl) (Nat.le_of_ble_eq_true rfl) ⟨Nat.le_refl _, Nat.le_add_right _ _⟩ ⟨_, rfl, (by decide), ⟨m, q_132, fun q9 => by omega⟩⟩
            · refine tz_iload_n (pc := 120) dX12_term1_120 rfl rfl ?_
              refine tz_bipush (pc := 121) dX12_term1_121 (by decide) ?_
              refine tz_icmp_gt (pc := 123) (tgt := 130) dX12_term1_123 (by decide) (by omega) (by decide) (fun h_123 => ?_) (fun h_123 => ?_)
              · refine tz_iconst (pc := 130) dX12_term1_130 ?_
                refine tz_iconst (pc := 131) dX12_term1_131 ?_
                refine tz_cV (pc := 132) (m_wantsW hl n _ _ _ (by decide) (by decide) (q_31).2.1 (by decide)) vl_X12_276 dX12_term1_132 o_164 rfl rfl (Nat.le_of_ble_eq_true rfl) ⟨(show 0 + 1 ≤ 6 + 1 * (r9 + 1) by omega), (show 8 + (3 + 11) + 40 * (0) ≤ 40 * (6 + 1 * (r9 + 1)) by omega)⟩ rfl rfl (Nat.le_of_ble_eq_true rfl) (Nat.le_of_ble_eq_true rfl) (fun r9 J_132 hq9 => ?_)
                obtain ⟨z_132, rfl, hz_132, w_132, b_132, c_132, d_132⟩ := hq9
                have q_132 := MRT.w q_31 w_132
                obtain rfl : z_132 = 0 := by rcases b_132 with e9 | e9; exact e9; exact absurd rfl (c_132 e9).2.2
                have v_132 := d_132 rfl
                clear b_132 c_132 d_132
                refine tz_if_eqT (pc := 135) (tgt := 156) (by decide) dX12_term1_135 (by decide) (by decide) ?_
                refine tz_iconst (pc := 156) dX12_term1_156 ?_
                exact tz_iret (pc := 157) (z := 0) dX12_term1_157 rfl (Nat.le_of_ble_eq_true rfl) (Nat.le_of_ble_eq_true rfl) ⟨Nat.le_refl _, Nat.le_add_right _ _⟩ ⟨_, rfl, (by decide), ⟨m, q_132, fun q9 => by omega⟩⟩
              · refine tz_iconst (pc := 126) dX12_term1_126 ?_
                refine tz_goto (pc := 127) (tgt := 131) dX12_term1_127 (by decide) ?_
                refine tz_iconst (pc := 131) dX12_term1_131 ?_
                refine tz_cV (pc := 132) (m_wantsW hl n _ _ _ (by decide) (by decide) (q_31).2.1 (by decide)) vl_X12_276 dX12_term1_132 o_164 rfl rfl (Nat.le_of_ble_eq_true rfl) ⟨(show 0 + 1 ≤ 6 + 1 * (r9 + 1) by omega), (show 8 + (3 + 11) + 40 * (0) ≤ 40 * (6 + 1 * (r9 + 1)) by omega)⟩ rfl rfl (Nat.le_of_ble_eq_true rfl) (Nat.le_of_ble_eq_true rfl) (fun r9 J_132 hq9 => ?_)
                obtain ⟨z_132, rfl, hz_132, w_132, b_132, c_132, d_132⟩ := hq9
                have q_132 := MRT.w q_31 w_132
                have o_132 : (z_132 = 0 ∧ ¬ J_132 164 43 = 0) ∨ (z_132 = 1 ∧ J_132 164 43 = 0) := by rcases b_132 with e9 | e9; exact Or.inl ⟨e9, d_132 e9⟩; exact Or.inr ⟨e9, (c_132 e9).2.1⟩
                clear b_132 c_132 d_132
                rcases o_132 with ⟨rfl, v_132⟩ | ⟨rfl, v_132⟩
                · refine tz_if_eqT (pc := 135) (tgt := 156) (by decide) dX12_term1_135 (by decide) (by decide) ?_
                  refine tz_iconst (pc := 156) dX12_term1_156 ?_
                  exact tz_iret (pc := 157) (z := 0) dX12_term1_157 rfl (Nat.le_of_ble_eq_true rfl) (Nat.le_of_ble_eq_true rfl) ⟨Nat.le_refl _, Nat.le_add_right _ _⟩ ⟨_, rfl, (by decide), ⟨m, q_132, fun q9 => by omega⟩⟩
                · refine tz_if_eqF (pc := 135) (tgt := 156) (by decide) dX12_term1_135 (by decide) (by decide) ?_
                  refine tz_aload_n (pc := 138) dX12_term1_138 rfl rfl ?_
                  refine tz_iload_n (pc := 139) dX12_term1_139 rfl rfl ?_
                  refine tz_iconst (pc := 140) dX12_term1_140 ?_
                  refine tz_icmp_eq (pc := 141) (tgt := 148) dX12_term1_141 (by decide) (by omega) (by decide) (fun h_141 => ?_) (fun h_141 => ?_)
                  · refine tz_iconst (pc := 148) dX12_term1_148 ?_
                    refine tz_iconst (pc := 149) dX12_term1_149 ?_
                    refine tz_cV (pc := 150) (m_wantsW hl n _ _ _ (by decide) (by decide) (q_132).2.1 (by decide)) vl_X12_276 dX12_term1_150 o_164 rfl rfl (Nat.le_of_ble_eq_true rfl) ⟨(show 0 + 1 ≤ 6 + 1 * (r9 + 1) by omega), (show 8 + (3 + 11) + 40 * (0) ≤ 40 * (6 + 1 * (r9 + 1)) by omega)⟩ rfl rfl (Nat.le_of_ble_eq_true rfl) (Nat.le_of_ble_eq_true rfl) (fun r9 J_150 hq9 => ?_)
                    obtain ⟨z_150, rfl, hz_150, w_150, b_150, c_150, d_150⟩ := hq9
                    have q_150 := MRT.w q_132 w_150
                    obtain rfl : z_150 = 0 := by rcases b_150 with e9 | e9; exact e9; exact absurd rfl (c_150 e9).2.2
                    have v_150 := d_150 rfl
                    clear b_150 c_150 d_150
                    refine tz_if_neF (pc := 153) (tgt := 158) (by decide) dX12_term1_153 (by decide) (by decide) ?_
                    refine tz_iconst (pc := 156) dX12_term1_156 ?_
                    exact tz_iret (pc := 157) (z := 0) dX12_term1_157 rfl (Nat.le_of_ble_eq_true rfl) (Nat.le_of_ble_eq_true rfl) ⟨Nat.le_refl _, Nat.le_add_right _ _⟩ ⟨_, rfl, (by decide), ⟨m, q_150, fun q9 => by omega⟩⟩
                  · refine tz_iconst (pc := 144) dX12_term1_144 ?_
                    refine tz_goto (pc := 145) (tgt := 149) dX12_term1_145 (by decide) ?_
                    refine tz_iconst (pc := 149) dX12_term1_149 ?_
                    refine tz_cV (pc := 150) (m_wantsW hl n _ _ _ (by decide) (by decide) (q_132).2.1 (by decide)) vl_X12_276 dX12_term1_150 o_164 rfl rfl (Nat.le_of_ble_eq_true rfl) ⟨(show 0 + 1 ≤ 6 + 1 * (r9 + 1) by omega), (show 8 + (3 + 11) + 40 * (0) ≤ 40 * (6 + 1 * (r9 + 1)) by omega)⟩ rfl rfl (Nat.le_of_ble_eq_true rfl) (Nat.le_of_ble_eq_true rfl) (fun r9 J_150 hq9 => ?_)
                    obtain ⟨z_150, rfl, hz_150, w_150, b_150, c_150, d_150⟩ := hq9
                    have q_150 := MRT.w q_132 w_150
                    have o_150 : (z_150 = 0 ∧ ¬ J_150 164 43 = 0) ∨ (z_150 = 1 ∧ J_150 164 43 = 0) := by rcases b_150 with e9 | e9; exact Or.inl ⟨e9, d_150 e9⟩; exact Or.inr ⟨e9, (c_150 e9).2.1⟩
                    clear b_150 c_150 d_150
                    rcases o_150 with ⟨rfl, v_150⟩ | ⟨rfl, v_150⟩
                    · refine tz_if_neF (pc := 153) (tgt := 158) (by decide) dX12_term1_153 (by decide) (by decide) ?_
                      refine tz_iconst (pc := 156) dX12_term1_156 ?_
                      exact tz_iret (pc := 157) (z := 0) dX12_term1_157 rfl (Nat.le_of_ble_eq_true rfl) (Nat.le_of_ble_eq_true rfl) ⟨Nat.le_refl _, Nat.le_add_right _ _⟩ ⟨_, rfl, (by decide), ⟨m, q_150, fun q9 => by omega⟩⟩
                    · refine tz_if_neT (pc := 153) (tgt := 158) (by decide) dX12_term1_153 (by decide) (by decide) ?_
                      refine tz_aload_n (pc := 158) dX12_term1_158 rfl rfl ?_
                      refine tz_cV (pc := 159) (m_goW hl n _ (q_150).2.1) vl_X12_280 dX12_term1_159 o_164 rfl rfl (Nat.le_of_ble_eq_true rfl) ⟨(show 2 + 1 ≤ 6 + 1 * (r9 + 1) by omega), (show 8 + (2 + 11) + 40 * (2) ≤ 40 * (6 + 1 * (r9 + 1)) by omega)⟩ rfl rfl (Nat.le_of_ble_eq_true rfl) (Nat.le_of_ble_eq_true rfl) (fun r9 J_159 hq9 => ?_)
                      obtain ⟨rfl, w_159, b_159⟩ := hq9
                      have q_159 := MRT.w q_150 w_159
                      refine tz_aload_n (pc := 162) dX12_term1_162 rfl rfl ?_
                      refine tz_fR (pc := 163) dX12_term1_163 fl_X12_25 r_164_5 ?_
                      refine tz_bipush (pc := 166) dX12_term1_166 (by decide) ?_
                      refine tz_iload_n (pc := 168) dX12_term1_168 rfl rfl ?_
                      refine tz_iadd (pc := 169) (v := 10 + z_107) dX12_term1_169 rfl ?_
                      refine tz_aL (pc := 170) (z := (10 + z_107)) (v := (J 170 (10 + z_107))) dX12_term1_170 a_170 rfl (by omega) (Eq.trans (congrFun (w_159.1.1 170 rfl) (10 + z_107)) (Eq.trans (congrFun (w_150.1.1 170 rfl) (10 + z_107)) (Eq.trans (congrFun (w_132.1.1 170 rfl) (10 + z_107)) (Eq.trans (congrFun (w_31.1.1 170 rfl) (10 + z_107)) rfl)))) (fun r_170 => ?_)
                      have hA9 := hM.2.2.2.2.2.1.2 z_107 (by omega) (by omega)
                      have hA8 : 0 ≤ J 170 (10 + z_107) ∧ J 170 (10 + z_107) ≤ 3 := hA9
                      rcases (show J 170 (10 + z_107) = 0 ∨ J 170 (10 + z_107) = 1 ∨ J 170 (10 + z_107) = 2 ∨ J 170 (10 + z_107) = 3 by omega) with hk9 | hk9 | hk9 | hk9
                      · rw [hk9]
                        refine tz_istore_n (pc := 171) (L2 := [_, _, _, _, _, _, _]) dX12_term1_171 rfl (by decide) rfl ?_
                        refine tz_iconst (pc := 172) dX12_term1_172 ?_
                        refine tz_istore (pc := 173) (L2 := [_, _, _, _, _, _, _]) dX12_term1_173 (by decide) rfl ?_
                        refine tz_iconst (pc := 175) dX12_term1_175 ?_
                        refine tz_istore (pc := 176) (L2 := [_, _, _, _, _, _, _]) dX12_term1_176 (by decide) rfl ?_
                        refine tz_iconst (pc := 178) dX12_term1_178 ?_
                        refine tz_istore (pc := 179) (L2 := [_, _, _, _, _, _, _]) dX12_term1_179 (by decide) rfl ?_
                        refine tz_iload_n (pc := 181) dX12_term1_181 rfl rfl ?_
                        refine tz_if_leT (pc := 182) (tgt := 264) (by decide) dX12_term1_182 (by decide) (by decide) ?_
                        refine tz_aload_n (pc := 264) dX12_term1_264 rfl rfl ?_
                        refine tz_fI (pc := 265) (kz := 43) (v := (J_159 164 43)) dX12_term1_265 fl_X12_273 i_164_43 rfl rfl (fun r_265 => ?_)
                        refine tz_if_ne (pc := 268) (tgt := 285) dX12_term1_268 (by decide) (by omega) (fun h_268 => ?_) (fun h_268 => ?_)
                        · refine tz_iconst (pc := 285) dX12_term1_285 ?_
                          exact tz_iret (pc := 286) (z := 0) dX12_term1_286 rfl (Nat.le_of_ble_eq_true rfl) (Nat.le_of_ble_eq_true rfl) ⟨Nat.le_refl _, Nat.le_add_right _ _⟩ ⟨_, rfl, (by decide), ⟨m, q_159, fun q9 => by omega⟩⟩
                        · refine tz_aload_n (pc := 271) dX12_term1_271 rfl rfl ?_
                          refine tz_iload_n (pc := 272) dX12_term1_272 rfl rfl ?_
                          refine tz_iload (pc := 273) dX12_term1_273 rfl ?_
                          refine tz_iload (pc := 275) dX12_term1_275 rfl ?_
                          refine tz_iload (pc := 277) dX12_term1_277 rfl ?_
                          refine tz_cV (pc := 279) (m_tu0 hl n _ _ _ _ _ (by omega) (by decide) (by decide) (by decide) 800 126 10 s m (q_159).1.1.1 (by omega) ⟨by omega, ((congrFun ((q_159).c 170 rfl) _).trans hk9)⟩ (q_159).2.2.2.2 ⟨fun g9 => absurd g9 (by decide), fun g9 => absurd g9 (by decide), fun g9 => absurd g9 (by decide)⟩) vl_X12_107 dX12_term1_279 o_164 rfl rfl (Nat.le_of_ble_eq_true rfl) ⟨(show 2 + 1 ≤ 6 + 1 * (r9 + 1) by omega), (show 8 + (8 + 11) + 40 * (2) ≤ 40 * (6 + 1 * (r9 + 1)) by omega)⟩ rfl rfl (Nat.le_of_ble_eq_true rfl) (Nat.le_of_ble_eq_true rfl) (fun r9 J_279 hq9 => ?_)
                          obtain ⟨z_279, rfl, hz_279, m_279, g_279, h_279⟩ := hq9
                          have q_279 := MRT.t q_159 g_279 (by omega)
                          refine tz_goto (pc := 282) (tgt := 286) dX12_term1_282 (by decide) ?_
                          exact tz_iret (pc := 286) (z := z_279) dX12_term1_286 rfl (Nat.le_of_ble_eq_true rfl) (Nat.le_of_ble_eq_true rfl) ⟨Nat.le_refl _, Nat.le_add_right _ _⟩ ⟨_, rfl, (by omega), ⟨m_279, q_279, fun _ => h_279⟩⟩
                      · rw [hk9]
                        refine tz_istore_n (pc := 171) (L2 := [_, _, _, _, _, _, _]) dX12_term1_171 rfl (by decide) rfl ?_
                        refine tz_iconst (pc := 172) dX12_term1_172 ?_
                        refine tz_istore (pc := 173) (L2 := [_, _, _, _, _, _, _]) dX12_term1_173 (by decide) rfl ?_
                        refine tz_iconst (pc := 175) dX12_term1_175 ?_
                        refine tz_istore (pc := 176) (L2 := [_, _, _, _, _, _, _]) dX12_term1_176 (by decide) rfl ?_
                        refine tz_iconst (pc := 178) dX12_term1_178 ?_
                        refine tz_istore (pc := 179) (L2 := [_, _, _, _, _, _, _]) dX12_term1_179 (by decide) rfl ?_
                        refine tz_iload_n (pc := 181) dX12_term1_181 rfl rfl ?_
                        refine tz_if_leF (pc := 182) (tgt := 264) (by decide) dX12_term1_182 (by decide) (by decide) ?_
                        refine tz_aload_n (pc := 185) dX12_term1_185 rfl rfl ?_
                        refine tz_bipush (pc := 186) dX12_term1_186 (by decide) ?_
                        refine tz_cV (pc := 188) (m_sign hl n _ _ (by decide) (q_159).2.1 (by decide)) vl_X12_296 dX12_term1_188 o_164 rfl rfl (Nat.le_of_ble_eq_true rfl) ⟨(show 3 + 1 ≤ 6 + 1 * (r9 + 1) by omega), (show 8 + (2 + 11) + 40 * (3) ≤ 40 * (6 + 1 * (r9 + 1)) by omega)⟩ rfl rfl (Nat.le_of_ble_eq_true rfl) (Nat.le_of_ble_eq_true rfl) (fun r9 J_188 hq9 => ?_)
                        obtain ⟨rfl, w_188, b_188⟩ := hq9
                        have q_188 := MRT.w q_159 w_188
                        refine tz_aload_n (pc := 191) dX12_term1_191 rfl rfl ?_
                        refine tz_iload_n (pc := 192) dX12_term1_192 rfl rfl ?_
                        refine tz_iconst (pc := 193) dX12_term1_193 ?_
                        refine tz_iadd (pc := 194) (v := x + 1) dX12_term1_194 rfl ?_
                        refine tz_cV (pc := 195) (ih _ _ (by omega) s m (q_188).1.1.1 (q_188).2.1 (q_188).2.2.2.2 (((q_188).f 44 rfl).trans h44) (by omega) (by omega)) vl_X12_298 dX12_term1_195 o_164 rfl rfl (Nat.le_of_ble_eq_true rfl) ⟨(show (6 + 1 * r9) + 1 ≤ 6 + 1 * (r9 + 1) by omega), (show 8 + (7 + 11) + 40 * ((6 + 1 * r9)) ≤ 40 * (6 + 1 * (r9 + 1)) by omega)⟩ rfl rfl (Nat.le_of_ble_eq_true rfl) (Nat.le_of_ble_eq_true rfl) (fun r9 J_195 hq9 => ?_)
                        obtain ⟨z_195, rfl, hz_195, m_195, w_195, h_195⟩ := hq9
                        have q_195 := MRT.tr q_188 w_195
                        have l_195 := w_195.1.1.2
                        refine tz_istore (pc := 198) (L2 := [_, _, _, _, _, _, _]) dX12_term1_198 (by decide) rfl ?_
                        refine tz_iload_n (pc := 200) dX12_term1_200 rfl rfl ?_
                        refine tz_iconst (pc := 201) dX12_term1_201 ?_
                        refine tz_icmp_leT (pc := 202) (tgt := 211) (by decide) dX12_term1_202 (by decide) (by decide) (by decide) ?_
                        refine tz_iload_n (pc := 211) dX12_term1_211 rfl rfl ?_
                        refine tz_iconst (pc := 212) dX12_term1_212 ?_
                        refine tz_icmp_leT (pc := 213) (tgt := 226) (by decide) dX12_term1_213 (by decide) (by decide) (by decide) ?_
                        refine tz_iconst (pc := 226) dX12_term1_226 ?_
                        refine tz_istore (pc := 227) (L2 := [_, _, _, _, _, _, _]) dX12_term1_227 (by decide) rfl ?_
                        refine tz_iload_n (pc := 229) dX12_term1_229 rfl rfl ?_
                        refine tz_iconst (pc := 230) dX12_term1_230 ?_
                        refine tz_icmp_leT (pc := 231) (tgt := 240) (by decide) dX12_term1_231 (by decide) (by decide) (by decide) ?_
                        refine tz_iload_n (pc := 240) dX12_term1_240 rfl rfl ?_
                        refine tz_iconst (pc := 241) dX12_term1_241 ?_
                        refine tz_icmp_leT (pc := 242) (tgt := 255) (by decide) dX12_term1_242 (by decide) (by decide) (by decide) ?_
                        refine tz_iconst (pc := 255) dX12_term1_255 ?_
                        refine tz_istore (pc := 256) (L2 := [_, _, _, _, _, _, _]) dX12_term1_256 (by decide) rfl ?_
                        refine tz_aload_n (pc := 258) dX12_term1_258 rfl rfl ?_
                        refine tz_bipush (pc := 259) dX12_term1_259 (by decide) ?_
                        refine tz_cV (pc := 261) (m_sign hl n _ _ (by decide) (q_195).2.1 (by decide)) vl_X12_296 dX12_term1_261 o_164 rfl rfl (Nat.le_of_ble_eq_true rfl) ⟨(show 3 + 1 ≤ 6 + 1 * (r9 + 1) by omega), (show 8 + (2 + 11) + 40 * (3) ≤ 40 * (6 + 1 * (r9 + 1)) by omega)⟩ rfl rfl (Nat.le_of_ble_eq_true rfl) (Nat.le_of_ble_eq_true rfl) (fun r9 J_261 hq9 => ?_)
                        obtain ⟨rfl, w_261, b_261⟩ := hq9
                        have q_261 := MRT.w q_195 w_261
                        refine tz_aload_n (pc := 264) dX12_term1_264 rfl rfl ?_
                        refine tz_fI (pc := 265) (kz := 43) (v := (J_261 164 43)) dX12_term1_265 fl_X12_273 i_164_43 rfl rfl (fun r_265 => ?_)
                        refine tz_if_ne (pc := 268) (tgt := 285) dX12_term1_268 (by decide) (by omega) (fun h_268 => ?_) (fun h_268 => ?_)
                        · refine tz_iconst (pc := 285) dX12_term1_285 ?_
                          exact tz_iret (pc := 286) (z := 0) dX12_term1_286 rfl (Nat.le_of_ble_eq_true rfl) (Nat.le_of_ble_eq_true rfl) ⟨Nat.le_refl _, Nat.le_add_right _ _⟩ ⟨_, rfl, (by decide), ⟨m_195, q_261, fun q9 => by omega⟩⟩
                        · refine tz_aload_n (pc := 271) dX12_term1_271 rfl rfl ?_
                          refine tz_iload_n (pc := 272) dX12_term1_272 rfl rfl ?_
                          refine tz_iload (pc := 273) dX12_term1_273 rfl ?_
                          refine tz_iload (pc := 275) dX12_term1_275 rfl ?_
                          refine tz_iload (pc := 277) dX12_term1_277 rfl ?_
                          have hb_261 : J_261 164 43 = 0 := h_268
                          have hb_195 := w_261.2.2.1 hb_261
                          have hv_195 := h_195 hb_195
                          refine tz_cV (pc := 279) (m_tu1 hl n _ _ _ _ _ (by omega) hz_195 (by decide) (by decide) 800 126 10 s m_195 (q_261).1.1.1 (by omega) ⟨by omega, ((congrFun ((q_261).c 170 rfl) _).trans hk9)⟩ (q_261).2.2.2.2 ⟨fun _ => ⟨hv_195.1, by omega⟩, fun g9 => absurd g9 (by decide), fun g9 => absurd g9 (by decide)⟩) vl_X12_107 dX12_term1_279 o_164 rfl rfl (Nat.le_of_ble_eq_true rfl) ⟨(show 2 + 1 ≤ 6 + 1 * (r9 + 1) by omega), (show 8 + (8 + 11) + 40 * (2) ≤ 40 * (6 + 1 * (r9 + 1)) by omega)⟩ rfl rfl (Nat.le_of_ble_eq_true rfl) (Nat.le_of_ble_eq_true rfl) (fun r9 J_279 hq9 => ?_)
                          obtain ⟨z_279, rfl, hz_279, m_279, g_279, h_279⟩ := hq9
                          have q_279 := MRT.t q_261 g_279 (by omega)
                          refine tz_goto (pc := 282) (tgt := 286) dX12_term1_282 (by decide) ?_
                          exact tz_iret (pc := 286) (z := z_279) dX12_term1_286 rfl (Nat.le_of_ble_eq_true rfl) (Nat.le_of_ble_eq_true rfl) ⟨Nat.le_refl _, Nat.le_add_right _ _⟩ ⟨_, rfl, (by omega), ⟨m_279, q_279, fun _ => h_279⟩⟩
                      · rw [hk9]
                        refine tz_istore_n (pc := 171) (L2 := [_, _, _, _, _, _, _]) dX12_term1_171 rfl (by decide) rfl ?_
                        refine tz_iconst (pc := 172) dX12_term1_172 ?_
                        refine tz_istore (pc := 173) (L2 := [_, _, _, _, _, _, _]) dX12_term1_173 (by decide) rfl ?_
                        refine tz_iconst (pc := 175) dX12_term1_175 ?_
                        refine tz_istore (pc := 176) (L2 := [_, _, _, _, _, _, _]) dX12_term1_176 (by decide) rfl ?_
                        refine tz_iconst (pc := 178) dX12_term1_178 ?_
                        refine tz_istore (pc := 179) (L2 := [_, _, _, _, _, _, _]) dX12_term1_179 (by decide) rfl ?_
                        refine tz_iload_n (pc := 181) dX12_term1_181 rfl rfl ?_
                        refine tz_if_leF (pc := 182) (tgt := 264) (by decide) dX12_term1_182 (by decide) (by decide) ?_
                        refine tz_aload_n (pc := 185) dX12_term1_185 rfl rfl ?_
                        refine tz_bipush (pc := 186) dX12_term1_186 (by decide) ?_
                        refine tz_cV (pc := 188) (m_sign hl n _ _ (by decide) (q_159).2.1 (by decide)) vl_X12_296 dX12_term1_188 o_164 rfl rfl (Nat.le_of_ble_eq_true rfl) ⟨(show 3 + 1 ≤ 6 + 1 * (r9 + 1) by omega), (show 8 + (2 + 11) + 40 * (3) ≤ 40 * (6 + 1 * (r9 + 1)) by omega)⟩ rfl rfl (Nat.le_of_ble_eq_true rfl) (Nat.le_of_ble_eq_true rfl) (fun r9 J_188 hq9 => ?_)
                        obtain ⟨rfl, w_188, b_188⟩ := hq9
                        have q_188 := MRT.w q_159 w_188
                        refine tz_aload_n (pc := 191) dX12_term1_191 rfl rfl ?_
                        refine tz_iload_n (pc := 192) dX12_term1_192 rfl rfl ?_
                        refine tz_iconst (pc := 193) dX12_term1_193 ?_
                        refine tz_iadd (pc := 194) (v := x + 1) dX12_term1_194 rfl ?_
                        refine tz_cV (pc := 195) (ih _ _ (by omega) s m (q_188).1.1.1 (q_188).2.1 (q_188).2.2.2.2 (((q_188).f 44 rfl).trans h44) (by omega) (by omega)) vl_X12_298 dX12_term1_195 o_164 rfl rfl (Nat.le_of_ble_eq_true rfl) ⟨(show (6 + 1 * r9) + 1 ≤ 6 + 1 * (r9 + 1) by omega), (show 8 + (7 + 11) + 40 * ((6 + 1 * r9)) ≤ 40 * (6 + 1 * (r9 + 1)) by omega)⟩ rfl rfl (Nat.le_of_ble_eq_true rfl) (Nat.le_of_ble_eq_true rfl) (fun r9 J_195 hq9 => ?_)
                        obtain ⟨z_195, rfl, hz_195, m_195, w_195, h_195⟩ := hq9
                        have q_195 := MRT.tr q_188 w_195
                        have l_195 := w_195.1.1.2
                        refine tz_istore (pc := 198) (L2 := [_, _, _, _, _, _, _]) dX12_term1_198 (by decide) rfl ?_
                        refine tz_iload_n (pc := 200) dX12_term1_200 rfl rfl ?_
                        refine tz_iconst (pc := 201) dX12_term1_201 ?_
                        refine tz_icmp_leF (pc := 202) (tgt := 211) (by decide) dX12_term1_202 (by decide) (by decide) (by decide) ?_
                        refine tz_aload_n (pc := 205) dX12_term1_205 rfl rfl ?_
                        refine tz_bipush (pc := 206) dX12_term1_206 (by decide) ?_
                        refine tz_cV (pc := 208) (m_sign hl n _ _ (by decide) (q_195).2.1 (by decide)) vl_X12_296 dX12_term1_208 o_164 rfl rfl (Nat.le_of_ble_eq_true rfl) ⟨(show 3 + 1 ≤ 6 + 1 * (r9 + 1) by omega), (show 8 + (2 + 11) + 40 * (3) ≤ 40 * (6 + 1 * (r9 + 1)) by omega)⟩ rfl rfl (Nat.le_of_ble_eq_true rfl) (Nat.le_of_ble_eq_true rfl) (fun r9 J_208 hq9 => ?_)
                        obtain ⟨rfl, w_208, b_208⟩ := hq9
                        have q_208 := MRT.w q_195 w_208
                        refine tz_iload_n (pc := 211) dX12_term1_211 rfl rfl ?_
                        refine tz_iconst (pc := 212) dX12_term1_212 ?_
                        refine tz_icmp_leF (pc := 213) (tgt := 226) (by decide) dX12_term1_213 (by decide) (by decide) (by decide) ?_
                        refine tz_aload_n (pc := 216) dX12_term1_216 rfl rfl ?_
                        refine tz_iload_n (pc := 217) dX12_term1_217 rfl rfl ?_
                        refine tz_iconst (pc := 218) dX12_term1_218 ?_
                        refine tz_iadd (pc := 219) (v := x + 1) dX12_term1_219 rfl ?_
                        refine tz_cV (pc := 220) (ih _ _ (by omega) s m_195 (q_208).1.1.1 (q_208).2.1 (q_208).2.2.2.2 (((q_208).f 44 rfl).trans h44) (by omega) (by omega)) vl_X12_298 dX12_term1_220 o_164 rfl rfl (Nat.le_of_ble_eq_true rfl) ⟨(show (6 + 1 * r9) + 1 ≤ 6 + 1 * (r9 + 1) by omega), (show 8 + (7 + 11) + 40 * ((6 + 1 * r9)) ≤ 40 * (6 + 1 * (r9 + 1)) by omega)⟩ rfl rfl (Nat.le_of_ble_eq_true rfl) (Nat.le_of_ble_eq_true rfl) (fun r9 J_220 hq9 => ?_)
                        obtain ⟨z_220, rfl, hz_220, m_220, w_220, h_220⟩ := hq9
                        have q_220 := MRT.tr q_208 w_220
                        have l_220 := w_220.1.1.2
                        refine tz_goto (pc := 223) (tgt := 227) dX12_term1_223 (by decide) ?_
                        refine tz_istore (pc := 227) (L2 := [_, _, _, _, _, _, _]) dX12_term1_227 (by decide) rfl ?_
                        refine tz_iload_n (pc := 229) dX12_term1_229 rfl rfl ?_
                        refine tz_iconst (pc := 230) dX12_term1_230 ?_
                        refine tz_icmp_leT (pc := 231) (tgt := 240) (by decide) dX12_term1_231 (by decide) (by decide) (by decide) ?_
                        refine tz_iload_n (pc := 240) dX12_term1_240 rfl rfl ?_
                        refine tz_iconst (pc := 241) dX12_term1_241 ?_
                        refine tz_icmp_leT (pc := 242) (tgt := 255) (by decide) dX12_term1_242 (by decide) (by decide) (by decide) ?_
                        refine tz_iconst (pc := 255) dX12_term1_255 ?_
                        refine tz_istore (pc := 256) (L2 := [_, _, _, _, _, _, _]) dX12_term1_256 (by decide) rfl ?_
                        refine tz_aload_n (pc := 258) dX12_term1_258 rfl rfl ?_
                        refine tz_bipush (pc := 259) dX12_term1_259 (by decide) ?_
                        refine tz_cV (pc := 261) (m_sign hl n _ _ (by decide) (q_220).2.1 (by decide)) vl_X12_296 dX12_term1_261 o_164 rfl rfl (Nat.le_of_ble_eq_true rfl) ⟨(show 3 + 1 ≤ 6 + 1 * (r9 + 1) by omega), (show 8 + (2 + 11) + 40 * (3) ≤ 40 * (6 + 1 * (r9 + 1)) by omega)⟩ rfl rfl (Nat.le_of_ble_eq_true rfl) (Nat.le_of_ble_eq_true rfl) (fun r9 J_261 hq9 => ?_)
                        obtain ⟨rfl, w_261, b_261⟩ := hq9
                        have q_261 := MRT.w q_220 w_261
                        refine tz_aload_n (pc := 264) dX12_term1_264 rfl rfl ?_
                        refine tz_fI (pc := 265) (kz := 43) (v := (J_261 164 43)) dX12_term1_265 fl_X12_273 i_164_43 rfl rfl (fun r_265 => ?_)
                        refine tz_if_ne (pc := 268) (tgt := 285) dX12_term1_268 (by decide) (by omega) (fun h_268 => ?_) (fun h_268 => ?_)
                        · refine tz_iconst (pc := 285) dX12_term1_285 ?_
                          exact tz_iret (pc := 286) (z := 0) dX12_term1_286 rfl (Nat.le_of_ble_eq_true rfl) (Nat.le_of_ble_eq_true rfl) ⟨Nat.le_refl _, Nat.le_add_right _ _⟩ ⟨_, rfl, (by decide), ⟨m_220, q_261, fun q9 => by omega⟩⟩
                        · refine tz_aload_n (pc := 271) dX12_term1_271 rfl rfl ?_
                          refine tz_iload_n (pc := 272) dX12_term1_272 rfl rfl ?_
                          refine tz_iload (pc := 273) dX12_term1_273 rfl ?_
                          refine tz_iload (pc := 275) dX12_term1_275 rfl ?_
                          refine tz_iload (pc := 277) dX12_term1_277 rfl ?_
                          have hb_261 : J_261 164 43 = 0 := h_268
                          have hb_220 := w_261.2.2.1 hb_261
                          have hb_208 := w_220.2.2.1 hb_220
                          have hb_195 := w_208.2.2.1 hb_208
                          have hv_195 := h_195 hb_195
                          have hv_220 := h_220 hb_220
                          refine tz_cV (pc := 279) (m_tu2 hl n _ _ _ _ _ (by omega) hz_195 hz_220 (by decide) 800 126 10 s m_220 (q_261).1.1.1 (by omega) ⟨by omega, ((congrFun ((q_261).c 170 rfl) _).trans hk9)⟩ (q_261).2.2.2.2 ⟨fun _ => ⟨hv_195.1, by omega⟩, fun _ => ⟨hv_220.1, by omega⟩, fun g9 => absurd g9 (by decide)⟩) vl_X12_107 dX12_term1_279 o_164 rfl rfl (Nat.le_of_ble_eq_true rfl) ⟨(show 2 + 1 ≤ 6 + 1 * (r9 + 1) by omega), (show 8 + (8 + 11) + 40 * (2) ≤ 40 * (6 + 1 * (r9 + 1)) by omega)⟩ rfl rfl (Nat.le_of_ble_eq_true rfl) (Nat.le_of_ble_eq_true rfl) (fun r9 J_279 hq9 => ?_)
                          obtain ⟨z_279, rfl, hz_279, m_279, g_279, h_279⟩ := hq9
                          have q_279 := MRT.t q_261 g_279 (by omega)
                          refine tz_goto (pc := 282) (tgt := 286) dX12_term1_282 (by decide) ?_
                          exact tz_iret (pc := 286) (z := z_279) dX12_term1_286 rfl (Nat.le_of_ble_eq_true rfl) (Nat.le_of_ble_eq_true rfl) ⟨Nat.le_refl _, Nat.le_add_right _ _⟩ ⟨_, rfl, (by omega), ⟨m_279, q_279, fun _ => h_279⟩⟩
                      · rw [hk9]
                        refine tz_istore_n (pc := 171) (L2 := [_, _, _, _, _, _, _]) dX12_term1_171 rfl (by decide) rfl ?_
                        refine tz_iconst (pc := 172) dX12_term1_172 ?_
                        refine tz_istore (pc := 173) (L2 := [_, _, _, _, _, _, _]) dX12_term1_173 (by decide) rfl ?_
                        refine tz_iconst (pc := 175) dX12_term1_175 ?_
                        refine tz_istore (pc := 176) (L2 := [_, _, _, _, _, _, _]) dX12_term1_176 (by decide) rfl ?_
                        refine tz_iconst (pc := 178) dX12_term1_178 ?_
                        refine tz_istore (pc := 179) (L2 := [_, _, _, _, _, _, _]) dX12_term1_179 (by decide) rfl ?_
                        refine tz_iload_n (pc := 181) dX12_term1_181 rfl rfl ?_
                        refine tz_if_leF (pc := 182) (tgt := 264) (by decide) dX12_term1_182 (by decide) (by decide) ?_
                        refine tz_aload_n (pc := 185) dX12_term1_185 rfl rfl ?_
                        refine tz_bipush (pc := 186) dX12_term1_186 (by decide) ?_
                        refine tz_cV (pc := 188) (m_sign hl n _ _ (by decide) (q_159).2.1 (by decide)) vl_X12_296 dX12_term1_188 o_164 rfl rfl (Nat.le_of_ble_eq_true rfl) ⟨(show 3 + 1 ≤ 6 + 1 * (r9 + 1) by omega), (show 8 + (2 + 11) + 40 * (3) ≤ 40 * (6 + 1 * (r9 + 1)) by omega)⟩ rfl rfl (Nat.le_of_ble_eq_true rfl) (Nat.le_of_ble_eq_true rfl) (fun r9 J_188 hq9 => ?_)
                        obtain ⟨rfl, w_188, b_188⟩ := hq9
                        have q_188 := MRT.w q_159 w_188
                        refine tz_aload_n (pc := 191) dX12_term1_191 rfl rfl ?_
                        refine tz_iload_n (pc := 192) dX12_term1_192 rfl rfl ?_
                        refine tz_iconst (pc := 193) dX12_term1_193 ?_
                        refine tz_iadd (pc := 194) (v := x + 1) dX12_term1_194 rfl ?_
                        refine tz_cV (pc := 195) (ih _ _ (by omega) s m (q_188).1.1.1 (q_188).2.1 (q_188).2.2.2.2 (((q_188).f 44 rfl).trans h44) (by omega) (by omega)) vl_X12_298 dX12_term1_195 o_164 rfl rfl (Nat.le_of_ble_eq_true rfl) ⟨(show (6 + 1 * r9) + 1 ≤ 6 + 1 * (r9 + 1) by omega), (show 8 + (7 + 11) + 40 * ((6 + 1 * r9)) ≤ 40 * (6 + 1 * (r9 + 1)) by omega)⟩ rfl rfl (Nat.le_of_ble_eq_true rfl) (Nat.le_of_ble_eq_true rfl) (fun r9 J_195 hq9 => ?_)
                        obtain ⟨z_195, rfl, hz_195, m_195, w_195, h_195⟩ := hq9
                        have q_195 := MRT.tr q_188 w_195
                        have l_195 := w_195.1.1.2
                        refine tz_istore (pc := 198) (L2 := [_, _, _, _, _, _, _]) dX12_term1_198 (by decide) rfl ?_
                        refine tz_iload_n (pc := 200) dX12_term1_200 rfl rfl ?_
                        refine tz_iconst (pc := 201) dX12_term1_201 ?_
                        refine tz_icmp_leF (pc := 202) (tgt := 211) (by decide) dX12_term1_202 (by decide) (by decide) (by decide) ?_
                        refine tz_aload_n (pc := 205) dX12_term1_205 rfl rfl ?_
                        refine tz_bipush (pc := 206) dX12_term1_206 (by decide) ?_
                        refine tz_cV (pc := 208) (m_sign hl n _ _ (by decide) (q_195).2.1 (by decide)) vl_X12_296 dX12_term1_208 o_164 rfl rfl (Nat.le_of_ble_eq_true rfl) ⟨(show 3 + 1 ≤ 6 + 1 * (r9 + 1) by omega), (show 8 + (2 + 11) + 40 * (3) ≤ 40 * (6 + 1 * (r9 + 1)) by omega)⟩ rfl rfl (Nat.le_of_ble_eq_true rfl) (Nat.le_of_ble_eq_true rfl) (fun r9 J_208 hq9 => ?_)
                        obtain ⟨rfl, w_208, b_208⟩ := hq9
                        have q_208 := MRT.w q_195 w_208
                        refine tz_iload_n (pc := 211) dX12_term1_211 rfl rfl ?_
                        refine tz_iconst (pc := 212) dX12_term1_212 ?_
                        refine tz_icmp_leF (pc := 213) (tgt := 226) (by decide) dX12_term1_213 (by decide) (by decide) (by decide) ?_
                        refine tz_aload_n (pc := 216) dX12_term1_216 rfl rfl ?_
                        refine tz_iload_n (pc := 217) dX12_term1_217 rfl rfl ?_
                        refine tz_iconst (pc := 218) dX12_term1_218 ?_
                        refine tz_iadd (pc := 219) (v := x + 1) dX12_term1_219 rfl ?_
                        refine tz_cV (pc := 220) (ih _ _ (by omega) s m_195 (q_208).1.1.1 (q_208).2.1 (q_208).2.2.2.2 (((q_208).f 44 rfl).trans h44) (by omega) (by omega)) vl_X12_298 dX12_term1_220 o_164 rfl rfl (Nat.le_of_ble_eq_true rfl) ⟨(show (6 + 1 * r9) + 1 ≤ 6 + 1 * (r9 + 1) by omega), (show 8 + (7 + 11) + 40 * ((6 + 1 * r9)) ≤ 40 * (6 + 1 * (r9 + 1)) by omega)⟩ rfl rfl (Nat.le_of_ble_eq_true rfl) (Nat.le_of_ble_eq_true rfl) (fun r9 J_220 hq9 => ?_)
                        obtain ⟨z_220, rfl, hz_220, m_220, w_220, h_220⟩ := hq9
                        have q_220 := MRT.tr q_208 w_220
                        have l_220 := w_220.1.1.2
                        refine tz_goto (pc := 223) (tgt := 227) dX12_term1_223 (by decide) ?_
                        refine tz_istore (pc := 227) (L2 := [_, _, _, _, _, _, _]) dX12_term1_227 (by decide) rfl ?_
                        refine tz_iload_n (pc := 229) dX12_term1_229 rfl rfl ?_
                        refine tz_iconst (pc := 230) dX12_term1_230 ?_
                        refine tz_icmp_leF (pc := 231) (tgt := 240) (by decide) dX12_term1_231 (by decide) (by decide) (by decide) ?_
                        refine tz_aload_n (pc := 234) dX12_term1_234 rfl rfl ?_
                        refine tz_bipush (pc := 235) dX12_term1_235 (by decide) ?_
                        refine tz_cV (pc := 237) (m_sign hl n _ _ (by decide) (q_220).2.1 (by decide)) vl_X12_296 dX12_term1_237 o_164 rfl rfl (Nat.le_of_ble_eq_true rfl) ⟨(show 3 + 1 ≤ 6 + 1 * (r9 + 1) by omega), (show 8 + (2 + 11) + 40 * (3) ≤ 40 * (6 + 1 * (r9 + 1)) by omega)⟩ rfl rfl (Nat.le_of_ble_eq_true rfl) (Nat.le_of_ble_eq_true rfl) (fun r9 J_237 hq9 => ?_)
                        obtain ⟨rfl, w_237, b_237⟩ := hq9
                        have q_237 := MRT.w q_220 w_237
                        refine tz_iload_n (pc := 240) dX12_term1_240 rfl rfl ?_
                        refine tz_iconst (pc := 241) dX12_term1_241 ?_
                        refine tz_icmp_leF (pc := 242) (tgt := 255) (by decide) dX12_term1_242 (by decide) (by decide) (by decide) ?_
                        refine tz_aload_n (pc := 245) dX12_term1_245 rfl rfl ?_
                        refine tz_iload_n (pc := 246) dX12_term1_246 rfl rfl ?_
                        refine tz_iconst (pc := 247) dX12_term1_247 ?_
                        refine tz_iadd (pc := 248) (v := x + 1) dX12_term1_248 rfl ?_
                        refine tz_cV (pc := 249) (ih _ _ (by omega) s m_220 (q_237).1.1.1 (q_237).2.1 (q_237).2.2.2.2 (((q_237).f 44 rfl).trans h44) (by omega) (by omega)) vl_X12_298 dX12_term1_249 o_164 rfl rfl (Nat.le_of_ble_eq_true rfl) ⟨(show (6 + 1 * r9) + 1 ≤ 6 + 1 * (r9 + 1) by omega), (show 8 + (7 + 11) + 40 * ((6 + 1 * r9)) ≤ 40 * (6 + 1 * (r9 + 1)) by omega)⟩ rfl rfl (Nat.le_of_ble_eq_true rfl) (Nat.le_of_ble_eq_true rfl) (fun r9 J_249 hq9 => ?_)
                        obtain ⟨z_249, rfl, hz_249, m_249, w_249, h_249⟩ := hq9
                        have q_249 := MRT.tr q_237 w_249
                        have l_249 := w_249.1.1.2
                        refine tz_goto (pc := 252) (tgt := 256) dX12_term1_252 (by decide) ?_
                        refine tz_istore (pc := 256) (L2 := [_, _, _, _, _, _, _]) dX12_term1_256 (by decide) rfl ?_
                        refine tz_aload_n (pc := 258) dX12_term1_258 rfl rfl ?_
                        refine tz_bipush (pc := 259) dX12_term1_259 (by decide) ?_
                        refine tz_cV (pc := 261) (m_sign hl n _ _ (by decide) (q_249).2.1 (by decide)) vl_X12_296 dX12_term1_261 o_164 rfl rfl (Nat.le_of_ble_eq_true rfl) ⟨(show 3 + 1 ≤ 6 + 1 * (r9 + 1) by omega), (show 8 + (2 + 11) + 40 * (3) ≤ 40 * (6 + 1 * (r9 + 1)) by omega)⟩ rfl rfl (Nat.le_of_ble_eq_true rfl) (Nat.le_of_ble_eq_true rfl) (fun r9 J_261 hq9 => ?_)
                        obtain ⟨rfl, w_261, b_261⟩ := hq9
                        have q_261 := MRT.w q_249 w_261
                        refine tz_aload_n (pc := 264) dX12_term1_264 rfl rfl ?_
                        refine tz_fI (pc := 265) (kz := 43) (v := (J_261 164 43)) dX12_term1_265 fl_X12_273 i_164_43 rfl rfl (fun r_265 => ?_)
                        refine tz_if_ne (pc := 268) (tgt := 285) dX12_term1_268 (by decide) (by omega) (fun h_268 => ?_) (fun h_268 => ?_)
                        · refine tz_iconst (pc := 285) dX12_term1_285 ?_
                          exact tz_iret (pc := 286) (z := 0) dX12_term1_286 rfl (Nat.le_of_ble_eq_true rfl) (Nat.le_of_ble_eq_true rfl) ⟨Nat.le_refl _, Nat.le_add_right _ _⟩ ⟨_, rfl, (by decide), ⟨m_249, q_261, fun q9 => by omega⟩⟩
                        · refine tz_aload_n (pc := 271) dX12_term1_271 rfl rfl ?_
                          refine tz_iload_n (pc := 272) dX12_term1_272 rfl rfl ?_
                          refine tz_iload (pc := 273) dX12_term1_273 rfl ?_
                          refine tz_iload (pc := 275) dX12_term1_275 rfl ?_
                          refine tz_iload (pc := 277) dX12_term1_277 rfl ?_
                          have hb_261 : J_261 164 43 = 0 := h_268
                          have hb_249 := w_261.2.2.1 hb_261
                          have hb_237 := w_249.2.2.1 hb_249
                          have hb_220 := w_237.2.2.1 hb_237
                          have hb_208 := w_220.2.2.1 hb_220
                          have hb_195 := w_208.2.2.1 hb_208
                          have hv_195 := h_195 hb_195
                          have hv_220 := h_220 hb_220
                          have hv_249 := h_249 hb_249
                          refine tz_cV (pc := 279) (m_tu3 hl n _ _ _ _ _ (by omega) hz_195 hz_220 hz_249 800 126 10 s m_249 (q_261).1.1.1 (by omega) ⟨by omega, ((congrFun ((q_261).c 170 rfl) _).trans hk9)⟩ (q_261).2.2.2.2 ⟨fun _ => ⟨hv_195.1, by omega⟩, fun _ => ⟨hv_220.1, by omega⟩, fun _ => ⟨hv_249.1, by omega⟩⟩) vl_X12_107 dX12_term1_279 o_164 rfl rfl (Nat.le_of_ble_eq_true rfl) ⟨(show 2 + 1 ≤ 6 + 1 * (r9 + 1) by omega), (show 8 + (8 + 11) + 40 * (2) ≤ 40 * (6 + 1 * (r9 + 1)) by omega)⟩ rfl rfl (Nat.le_of_ble_eq_true rfl) (Nat.le_of_ble_eq_true rfl) (fun r9 J_279 hq9 => ?_)
                          obtain ⟨z_279, rfl, hz_279, m_279, g_279, h_279⟩ := hq9
                          have q_279 := MRT.t q_261 g_279 (by omega)
                          refine tz_goto (pc := 282) (tgt := 286) dX12_term1_282 (by decide) ?_
                          exact tz_iret (pc := 286) (z := z_279) dX12_term1_286 rfl (Nat.le_of_ble_eq_true rfl) (Nat.le_of_ble_eq_true rfl) ⟨Nat.le_refl _, Nat.le_add_right _ _⟩ ⟨_, rfl, (by omega), ⟨m_279, q_279, fun _ => h_279⟩⟩
          · refine tz_aload_n (pc := 48) dX12_term1_48 rfl rfl ?_
            refine tz_iload_n (pc := 49) dX12_term1_49 rfl rfl ?_
            refine tz_bipush (pc := 50) dX12_term1_50 (by decide) ?_
            refine tz_icmp_gt (pc := 52) (tgt := 59) dX12_term1_52 (by decide) (by omega) (by decide) (fun h_52 => ?_) (fun h_52 => ?_)
            · refine tz_iconst (pc := 59) dX12_term1_59 ?_
              refine tz_iconst (pc := 60) dX12_term1_60 ?_
              refine tz_cV (pc := 61) (m_wantsW hl n _ _ _ (by decide) (by decide) (q_31).2.1 (by decide)) vl_X12_276 dX12_term1_61 o_164 rfl rfl (Nat.le_of_ble_eq_true rfl) ⟨(show 0 + 1 ≤ 6 + 1 * (r9 + 1) by omega), (show 8 + (3 + 11) + 40 * (0) ≤ 40 * (6 + 1 * (r9 + 1)) by omega)⟩ rfl rfl (Nat.le_of_ble_eq_true rfl) (Nat.le_of_ble_eq_true rfl) (fun r9 J_61 hq9 => ?_)
              obtain ⟨z_61, rfl, hz_61, w_61, b_61, c_61, d_61⟩ := hq9
              have q_61 := MRT.w q_31 w_61
              obtain rfl : z_61 = 0 := by rcases b_61 with e9 | e9; exact e9; exact absurd rfl (c_61 e9).2.2
              have v_61 := d_61 rfl
              clear b_61 c_61 d_61
              refine tz_if_neF (pc := 64) (tgt := 69) (by decide) dX12_term1_64 (by decide) (by decide) ?_
              refine tz_iconst (pc := 67) dX12_term1_67 ?_
              exact tz_iret (pc := 68) (z := 0) dX12_term1_68 rfl (Nat.le_of_ble_eq_true rfl) (Nat.le_of_ble_eq_true rfl) ⟨Nat.le_refl _, Nat.le_add_right _ _⟩ ⟨_, rfl, (by decide), ⟨m, q_61, fun q9 => by omega⟩⟩
            · refine tz_iconst (pc := 55) dX12_term1_55 ?_
              refine tz_goto (pc := 56) (tgt := 60) dX12_term1_56 (by decide) ?_
              refine tz_iconst (pc := 60) dX12_term1_60 ?_
              refine tz_cV (pc := 61) (m_wantsW hl n _ _ _ (by decide) (by decide) (q_31).2.1 (by decide)) vl_X12_276 dX12_term1_61 o_164 rfl rfl (Nat.le_of_ble_eq_true rfl) ⟨(show 0 + 1 ≤ 6 + 1 * (r9 + 1) by omega), (show 8 + (3 + 11) + 40 * (0) ≤ 40 * (6 + 1 * (r9 + 1)) by omega)⟩ rfl rfl (Nat.le_of_ble_eq_true rfl) (Nat.le_of_ble_eq_true rfl) (fun r9 J_61 hq9 => ?_)
              obtain ⟨z_61, rfl, hz_61, w_61, b_61, c_61, d_61⟩ := hq9
              have q_61 := MRT.w q_31 w_61
              have o_61 : (z_61 = 0 ∧ ¬ J_61 164 43 = 0) ∨ (z_61 = 1 ∧ J_61 164 43 = 0) := by rcases b_61 with e9 | e9; exact Or.inl ⟨e9, d_61 e9⟩; exact Or.inr ⟨e9, (c_61 e9).2.1⟩
              clear b_61 c_61 d_61
              rcases o_61 with ⟨rfl, v_61⟩ | ⟨rfl, v_61⟩
              · refine tz_if_neF (pc := 64) (tgt := 69) (by decide) dX12_term1_64 (by decide) (by decide) ?_
                refine tz_iconst (pc := 67) dX12_term1_67 ?_
                exact tz_iret (pc := 68) (z := 0) dX12_term1_68 rfl (Nat.le_of_ble_eq_true rfl) (Nat.le_of_ble_eq_true rfl) ⟨Nat.le_refl _, Nat.le_add_right _ _⟩ ⟨_, rfl, (by decide), ⟨m, q_61, fun q9 => by omega⟩⟩
              · refine tz_if_neT (pc := 64) (tgt := 69) (by decide) dX12_term1_64 (by decide) (by decide) ?_
                refine tz_aload_n (pc := 69) dX12_term1_69 rfl rfl ?_
                refine tz_cV (pc := 70) (m_goW hl n _ (q_61).2.1) vl_X12_280 dX12_term1_70 o_164 rfl rfl (Nat.le_of_ble_eq_true rfl) ⟨(show 2 + 1 ≤ 6 + 1 * (r9 + 1) by omega), (show 8 + (2 + 11) + 40 * (2) ≤ 40 * (6 + 1 * (r9 + 1)) by omega)⟩ rfl rfl (Nat.le_of_ble_eq_true rfl) (Nat.le_of_ble_eq_true rfl) (fun r9 J_70 hq9 => ?_)
                obtain ⟨rfl, w_70, b_70⟩ := hq9
                have q_70 := MRT.w q_61 w_70
                refine tz_aload_n (pc := 73) dX12_term1_73 rfl rfl ?_
                refine tz_iconst (pc := 74) dX12_term1_74 ?_
                refine tz_bipush (pc := 75) dX12_term1_75 (by decide) ?_
                refine tz_cV (pc := 77) (m_number hl n _ _ _ (by decide) (by decide) (q_70).2.1 (by decide)) vl_X12_290 dX12_term1_77 o_164 rfl rfl (Nat.le_of_ble_eq_true rfl) ⟨(show 3 + 1 ≤ 6 + 1 * (r9 + 1) by omega), (show 8 + (4 + 11) + 40 * (3) ≤ 40 * (6 + 1 * (r9 + 1)) by omega)⟩ rfl rfl (Nat.le_of_ble_eq_true rfl) (Nat.le_of_ble_eq_true rfl) (fun r9 J_77 hq9 => ?_)
                obtain ⟨z_77, rfl, hz_77, w_77, b_77, d_77⟩ := hq9
                have q_77 := MRT.w q_70 w_77
                refine tz_istore_n (pc := 80) (L2 := [_, _, _, _, _, _, _]) dX12_term1_80 rfl (by decide) rfl ?_
                refine tz_aload_n (pc := 81) dX12_term1_81 rfl rfl ?_
                refine tz_fI (pc := 82) (kz := 43) (v := (J_77 164 43)) dX12_term1_82 fl_X12_273 i_164_43 rfl rfl (fun r_82 => ?_)
                refine tz_if_ne (pc := 85) (tgt := 96) dX12_term1_85 (by decide) (by omega) (fun h_85 => ?_) (fun h_85 => ?_)
                · refine tz_iconst (pc := 96) dX12_term1_96 ?_
                  exact tz_iret (pc := 97) (z := 0) dX12_term1_97 rfl (Nat.le_of_ble_eq_true rfl) (Nat.le_of_ble_eq_true rfl) ⟨Nat.le_refl _, Nat.le_add_right _ _⟩ ⟨_, rfl, (by decide), ⟨m, q_77, fun q9 => by omega⟩⟩
                · refine tz_aload_n (pc := 88) dX12_term1_88 rfl rfl ?_
                  refine tz_iload_n (pc := 89) dX12_term1_89 rfl rfl ?_
                  refine tz_cV (pc := 90) (m_varTermU hl n _ _ (by omega) 800 126 10 s m (q_77).1.1.1 (by omega) (q_77).2.2.2.2) vl_X12_180 dX12_term1_90 o_164 rfl rfl (Nat.le_of_ble_eq_true rfl) ⟨(show 3 + 1 ≤ 6 + 1 * (r9 + 1) by omega), (show 8 + (2 + 11) + 40 * (3) ≤ 40 * (6 + 1 * (r9 + 1)) by omega)⟩ rfl rfl (Nat.le_of_ble_eq_true rfl) (Nat.le_of_ble_eq_true rfl) (fun r9 J_90 hq9 => ?_)
                  obtain ⟨z_90, rfl, hz_90, m_90, g_90, h_90⟩ := hq9
                  have q_90 := MRT.t q_77 g_90 (by omega)
                  refine tz_goto (pc := 93) (tgt := 97) dX12_term1_93 (by decide) ?_
                  exact tz_iret (pc := 97) (z := z_90) dX12_term1_97 rfl (Nat.le_of_ble_eq_true rfl) (Nat.le_of_ble_eq_true rfl) ⟨Nat.le_refl _, Nat.le_add_right _ _⟩ ⟨_, rfl, (by omega), ⟨m_90, q_90, fun _ => h_90⟩⟩
      · refine tz_aload_n (pc := 16) dX12_term1_16 rfl rfl ?_
        refine tz_fI (pc := 17) (kz := 42) (v := (J 164 42)) dX12_term1_17 fl_X12_258 i_164_42 rfl rfl (fun r_17 => ?_)
        refine tz_bipush (pc := 20) dX12_term1_20 (by decide) ?_
        refine tz_icmp_ne (pc := 22) (tgt := 29) dX12_term1_22 (by decide) (by omega) (by decide) (fun h_22 => ?_) (fun h_22 => ?_)
        · refine tz_iconst (pc := 29) dX12_term1_29 ?_
          refine tz_iconst (pc := 30) dX12_term1_30 ?_
          refine tz_cV (pc := 31) (m_wantsW hl n _ _ _ (by decide) (by decide) (g0).2.1 (by decide)) vl_X12_276 dX12_term1_31 o_164 rfl rfl (Nat.le_of_ble_eq_true rfl) ⟨(show 0 + 1 ≤ 6 + 1 * (r9 + 1) by omega), (show 8 + (3 + 11) + 40 * (0) ≤ 40 * (6 + 1 * (r9 + 1)) by omega)⟩ rfl rfl (Nat.le_of_ble_eq_true rfl) (Nat.le_of_ble_eq_true rfl) (fun r9 J_31 hq9 => ?_)
          obtain ⟨z_31, rfl, hz_31, w_31, b_31, c_31, d_31⟩ := hq9
          have q_31 := MRT.w g0 w_31
          obtain rfl : z_31 = 0 := by rcases b_31 with e9 | e9; exact e9; exact absurd rfl (c_31 e9).2.2
          have v_31 := d_31 rfl
          clear b_31 c_31 d_31
          refine tz_if_neF (pc := 34) (tgt := 39) (by decide) dX12_term1_34 (by decide) (by decide) ?_
          refine tz_iconst (pc := 37) dX12_term1_37 ?_
          exact tz_iret (pc := 38) (z := 0) dX12_term1_38 rfl (Nat.le_of_ble_eq_true rfl) (Nat.le_of_ble_eq_true rfl) ⟨Nat.le_refl _, Nat.le_add_right _ _⟩ ⟨_, rfl, (by decide), ⟨m, q_31, fun q9 => by omega⟩⟩
        · refine tz_iconst (pc := 25) dX12_term1_25 ?_
          refine tz_goto (pc := 26) (tgt := 30) dX12_term1_26 (by decide) ?_
          refine tz_iconst (pc := 30) dX12_term1_30 ?_
          refine tz_cV (pc := 31) (m_wantsW hl n _ _ _ (by decide) (by decide) (g0).2.1 (by decide)) vl_X12_276 dX12_term1_31 o_164 rfl rfl (Nat.le_of_ble_eq_true rfl) ⟨(show 0 + 1 ≤ 6 + 1 * (r9 + 1) by omega), (show 8 + (3 + 11) + 40 * (0) ≤ 40 * (6 + 1 * (r9 + 1)) by omega)⟩ rfl rfl (Nat.le_of_ble_eq_true rfl) (Nat.le_of_ble_eq_true rfl) (fun r9 J_31 hq9 => ?_)
          obtain ⟨z_31, rfl, hz_31, w_31, b_31, c_31, d_31⟩ := hq9
          have q_31 := MRT.w g0 w_31
          have o_31 : (z_31 = 0 ∧ ¬ J_31 164 43 = 0) ∨ (z_31 = 1 ∧ J_31 164 43 = 0) := by rcases b_31 with e9 | e9; exact Or.inl ⟨e9, d_31 e9⟩; exact Or.inr ⟨e9, (c_31 e9).2.1⟩
          clear b_31 c_31 d_31
          rcases o_31 with ⟨rfl, v_31⟩ | ⟨rfl, v_31⟩
          · refine tz_if_neF (pc := 34) (tgt := 39) (by decide) dX12_term1_34 (by decide) (by decide) ?_
            refine tz_iconst (pc := 37) dX12_term1_37 ?_
            exact tz_iret (pc := 38) (z := 0) dX12_term1_38 rfl (Nat.le_of_ble_eq_true rfl) (Nat.le_of_ble_eq_true rfl) ⟨Nat.le_refl _, Nat.le_add_right _ _⟩ ⟨_, rfl, (by decide), ⟨m, q_31, fun q9 => by omega⟩⟩
          · refine tz_if_neT (pc := 34) (tgt := 39) (by decide) dX12_term1_34 (by decide) (by decide) ?_
            refine tz_aload_n (pc := 39) dX12_term1_39 rfl rfl ?_
            refine tz_fI (pc := 40) (kz := 42) (v := (J_31 164 42)) dX12_term1_40 fl_X12_258 i_164_42 rfl rfl (fun r_40 => ?_)
            refine tz_bipush (pc := 43) dX12_term1_43 (by decide) ?_
            refine tz_icmp_ne (pc := 45) (tgt := 98) dX12_term1_45 (by decide) (by omega) (by decide) (fun h_45 => ?_) (fun h_45 => ?_)
            · refine tz_aload_n (pc := 98) dX12_term1_98 rfl rfl ?_
              refine tz_aload_n (pc := 99) dX12_term1_99 rfl rfl ?_
              refine tz_aload_n (pc := 100) dX12_term1_100 rfl rfl ?_
              refine tz_fI (pc := 101) (kz := 36) (v := (J_31 164 36)) dX12_term1_101 fl_X12_246 i_164_36 rfl rfl (fun r_101 => ?_)
              have y_104 := (q_31).2.1
              have x_104 := y_104.2.1
              refine tz_cV (pc := 104) (m_byteAt hl n _ _ (by omega) (by omega) y_104.1.1.2) vl_X12_240 dX12_term1_104 o_164 rfl rfl (Nat.le_of_ble_eq_true rfl) ⟨(show 0 + 1 ≤ 6 + 1 * (r9 + 1) by omega), (show 8 + (2 + 11) + 40 * (0) ≤ 40 * (6 + 1 * (r9 + 1)) by omega)⟩ rfl rfl (Nat.le_of_ble_eq_true rfl) (Nat.le_of_ble_eq_true rfl) (fun r9 J_104 hq9 => ?_)
              obtain ⟨z_104, rfl, hz_104, rfl, -, -⟩ := hq9
              clear y_104
              have s_107 : J_31 164 44 = s := ((q_31).f 44 rfl).trans h44
              refine tz_cV (pc := 107) (m_symOf hl n _ _ (by omega) (by rw [s_107]; omega)) vl_X12_293 dX12_term1_107 o_164 rfl rfl (Nat.le_of_ble_eq_true rfl) ⟨(show 0 + 1 ≤ 6 + 1 * (r9 + 1) by omega), (show 8 + (3 + 11) + 40 * (0) ≤ 40 * (6 + 1 * (r9 + 1)) by omega)⟩ rfl rfl (Nat.le_of_ble_eq_true rfl) (Nat.le_of_ble_eq_true rfl) (fun r9 J_107 hq9 => ?_)
              obtain ⟨z_107, rfl, hz_107, rfl, hs_107⟩ := hq9
              rw [s_107] at hs_107
              refine tz_istore_n (pc := 110) (L2 := [_, _, _, _, _, _, _]) dX12_term1_110 rfl (by decide) rfl ?_
              refine tz_aload_n (pc := 111) dX12_term1_111 rfl rfl ?_
              refine tz_aload_n (pc := 112) dX12_term1_112 rfl rfl ?_
              refine tz_fI (pc := 113) (kz := 41) (v := (J_31 164 41)) dX12_term1_113 fl_X12_252 i_164_41 rfl rfl (fun r_113 => ?_)
              refine tz_iconst (pc := 116) dX12_term1_116 ?_
              refine tz_icmp_ne (pc := 117) (tgt := 130) dX12_term1_117 (by decide) (by omega) (by decide) (fun h_117 => ?_) (fun h_117 => ?_)
              · refine tz_iconst (pc := 130) dX12_term1_130 ?_
                refine tz_iconst (pc := 131) dX12_term1_131 ?_
                refine tz_cV (pc := 132) (m_wantsW hl n _ _ _ (by decide) (by decide) (q_31).2.1 (by decide)) vl_X12_276 dX12_term1_132 o_164 rfl rfl (Nat.le_of_ble_eq_true rfl) ⟨(show 0 + 1 ≤ 6 + 1 * (r9 + 1) by omega), (show 8 + (3 + 11) + 40 * (0) ≤ 40 * (6 + 1 * (r9 + 1)) by omega)⟩ rfl rfl (Nat.le_of_ble_eq_true rfl) (Nat.le_of_ble_eq_true rfl) (fun r9 J_132 hq9 => ?_)
                obtain ⟨z_132, rfl, hz_132, w_132, b_132, c_132, d_132⟩ := hq9
                have q_132 := MRT.w q_31 w_132
                obtain rfl : z_132 = 0 := by rcases b_132 with e9 | e9; exact e9; exact absurd rfl (c_132 e9).2.2
                have v_132 := d_132 rfl
                clear b_132 c_132 d_132
                refine tz_if_eqT (pc := 135) (tgt := 156) (by decide) dX12_term1_135 (by decide) (by decide) ?_
                refine tz_iconst (pc := 156) dX12_term1_156 ?_
                exact tz_iret (pc := 157) (z := 0) dX12_term1_157 rfl (Nat.le_of_ble_eq_true rfl) (Nat.le_of_ble_eq_true rfl) ⟨Nat.le_refl _, Nat.le_add_right _ _⟩ ⟨_, rfl, (by decide), ⟨m, q_132, fun q9 => by omega⟩⟩
              · refine tz_iload_n (pc := 120) dX12_term1_120 rfl rfl ?_
                refine tz_bipush (pc := 121) dX12_term1_121 (by decide) ?_
                refine tz_icmp_gt (pc := 123) (tgt := 130) dX12_term1_123 (by decide) (by omega) (by decide) (fun h_123 => ?_) (fun h_123 => ?_)
                · refine tz_iconst (pc := 130) dX12_term1_130 ?_
                  refine tz_iconst (pc := 131) dX12_term1_131 ?_
                  refine tz_cV (pc := 132) (m_wantsW hl n _ _ _ (by decide) (by decide) (q_31).2.1 (by decide)) vl_X12_276 dX12_term1_132 o_164 rfl rfl (Nat.le_of_ble_eq_true rfl) ⟨(show 0 + 1 ≤ 6 + 1 * (r9 + 1) by omega), (show 8 + (3 + 11) + 40 * (0) ≤ 40 * (6 + 1 * (r9 + 1)) by omega)⟩ rfl rfl (Nat.le_of_ble_eq_true rfl) (Nat.le_of_ble_eq_true rfl) (fun r9 J_132 hq9 => ?_)
                  obtain ⟨z_132, rfl, hz_132, w_132, b_132, c_132, d_132⟩ := hq9
                  have q_132 := MRT.w q_31 w_132
                  obtain rfl : z_132 = 0 := by rcases b_132 with e9 | e9; exact e9; exact absurd rfl (c_132 e9).2.2
                  have v_132 := d_132 rfl
                  clear b_132 c_132 d_132
                  refine tz_if_eqT (pc := 135) (tgt := 156) (by decide) dX12_term1_135 (by decide) (by decide) ?_
                  refine tz_iconst (pc := 156) dX12_term1_156 ?_
                  exact tz_iret (pc := 157) (z := 0) dX12_term1_157 rfl (Nat.le_of_ble_eq_true rfl) (Nat.le_of_ble_eq_true rfl) ⟨Nat.le_refl _, Nat.le_add_right _ _⟩ ⟨_, rfl, (by decide), ⟨m, q_132, fun q9 => by omega⟩⟩
                · refine tz_iconst (pc := 126) dX12_term1_126 ?_
                  refine tz_goto (pc := 127) (tgt := 131) dX12_term1_127 (by decide) ?_
                  refine tz_iconst (pc := 131) dX12_term1_131 ?_
                  refine tz_cV (pc := 132) (m_wantsW hl n _ _ _ (by decide) (by decide) (q_31).2.1 (by decide)) vl_X12_276 dX12_term1_132 o_164 rfl rfl (Nat.le_of_ble_eq_true rfl) ⟨(show 0 + 1 ≤ 6 + 1 * (r9 + 1) by omega), (show 8 + (3 + 11) + 40 * (0) ≤ 40 * (6 + 1 * (r9 + 1)) by omega)⟩ rfl rfl (Nat.le_of_ble_eq_true rfl) (Nat.le_of_ble_eq_true rfl) (fun r9 J_132 hq9 => ?_)
                  obtain ⟨z_132, rfl, hz_132, w_132, b_132, c_132, d_132⟩ := hq9
                  have q_132 := MRT.w q_31 w_132
                  have o_132 : (z_132 = 0 ∧ ¬ J_132 164 43 = 0) ∨ (z_132 = 1 ∧ J_132 164 43 = 0) := by rcases b_132 with e9 | e9; exact Or.inl ⟨e9, d_132 e9⟩; exact Or.inr ⟨e9, (c_132 e9).2.1⟩
                  clear b_132 c_132 d_132
                  rcases o_132 with ⟨rfl, v_132⟩ | ⟨rfl, v_132⟩
                  · refine tz_if_eqT (pc := 135) (tgt := 156) (by decide) dX12_term1_135 (by decide) (by decide) ?_
                    refine tz_iconst (pc := 156) dX12_term1_156 ?_
                    exact tz_iret (pc := 157) (z := 0) dX12_term1_157 rfl (Nat.le_of_ble_eq_true rfl) (Nat.le_of_ble_eq_true rfl) ⟨Nat.le_refl _, Nat.le_add_right _ _⟩ ⟨_, rfl, (by decide), ⟨m, q_132, fun q9 => by omega⟩⟩
                  · refine tz_if_eqF (pc := 135) (tgt := 156) (by decide) dX12_term1_135 (by decide) (by decide) ?_
                    refine tz_aload_n (pc := 138) dX12_term1_138 rfl rfl ?_
                    refine tz_iload_n (pc := 139) dX12_term1_139 rfl rfl ?_
                    refine tz_iconst (pc := 140) dX12_term1_140 ?_
                    refine tz_icmp_eq (pc := 141) (tgt := 148) dX12_term1_141 (by decide) (by omega) (by decide) (fun h_141 => ?_) (fun h_141 => ?_)
                    · refine tz_iconst (pc := 148) dX12_term1_148 ?_
                      refine tz_iconst (pc := 149) dX12_term1_149 ?_
                      refine tz_cV (pc := 150) (m_wantsW hl n _ _ _ (by decide) (by decide) (q_132).2.1 (by decide)) vl_X12_276 dX12_term1_150 o_164 rfl rfl (Nat.le_of_ble_eq_true rfl) ⟨(show 0 + 1 ≤ 6 + 1 * (r9 + 1) by omega), (show 8 + (3 + 11) + 40 * (0) ≤ 40 * (6 + 1 * (r9 + 1)) by omega)⟩ rfl rfl (Nat.le_of_ble_eq_true rfl) (Nat.le_of_ble_eq_true rfl) (fun r9 J_150 hq9 => ?_)
                      obtain ⟨z_150, rfl, hz_150, w_150, b_150, c_150, d_150⟩ := hq9
                      have q_150 := MRT.w q_132 w_150
                      obtain rfl : z_150 = 0 := by rcases b_150 with e9 | e9; exact e9; exact absurd rfl (c_150 e9).2.2
                      have v_150 := d_150 rfl
                      clear b_150 c_150 d_150
                      refine tz_if_neF (pc := 153) (tgt := 158) (by decide) dX12_term1_153 (by decide) (by decide) ?_
                      refine tz_iconst (pc := 156) dX12_term1_156 ?_
                      exact tz_iret (pc := 157) (z := 0) dX12_term1_157 rfl (Nat.le_of_ble_eq_true rfl) (Nat.le_of_ble_eq_true rfl) ⟨Nat.le_refl _, Nat.le_add_right _ _⟩ ⟨_, rfl, (by decide), ⟨m, q_150, fun q9 => by omega⟩⟩
                    · refine tz_iconst (pc := 144) dX12_term1_144 ?_
                      refine tz_goto (pc := 145) (tgt := 149) dX12_term1_145 (by decide) ?_
                      refine tz_iconst (pc := 149) dX12_term1_149 ?_
                      refine tz_cV (pc := 150) (m_wantsW hl n _ _ _ (by decide) (by decide) (q_132).2.1 (by decide)) vl_X12_276 dX12_term1_150 o_164 rfl rfl (Nat.le_of_ble_eq_true rfl) ⟨(show 0 + 1 ≤ 6 + 1 * (r9 + 1) by omega), (show 8 + (3 + 11) + 40 * (0) ≤ 40 * (6 + 1 * (r9 + 1)) by omega)⟩ rfl rfl (Nat.le_of_ble_eq_true rfl) (Nat.le_of_ble_eq_true rfl) (fun r9 J_150 hq9 => ?_)
                      obtain ⟨z_150, rfl, hz_150, w_150, b_150, c_150, d_150⟩ := hq9
                      have q_150 := MRT.w q_132 w_150
                      have o_150 : (z_150 = 0 ∧ ¬ J_150 164 43 = 0) ∨ (z_150 = 1 ∧ J_150 164 43 = 0) := by rcases b_150 with e9 | e9; exact Or.inl ⟨e9, d_150 e9⟩; exact Or.inr ⟨e9, (c_150 e9).2.1⟩
                      clear b_150 c_150 d_150
                      rcases o_150 with ⟨rfl, v_150⟩ | ⟨rfl, v_150⟩
                      · refine tz_if_neF (pc := 153) (tgt := 158) (by decide) dX12_term1_153 (by decide) (by decide) ?_
                        refine tz_iconst (pc := 156) dX12_term1_156 ?_
                        exact tz_iret (pc := 157) (z := 0) dX12_term1_157 rfl (Nat.le_of_ble_eq_true rfl) (Nat.le_of_ble_eq_true rfl) ⟨Nat.le_refl _, Nat.le_add_right _ _⟩ ⟨_, rfl, (by decide), ⟨m, q_150, fun q9 => by omega⟩⟩
                      · refine tz_if_neT (pc := 153) (tgt := 158) (by decide) dX12_term1_153 (by decide) (by decide) ?_
                        refine tz_aload_n (pc := 158) dX12_term1_158 rfl rfl ?_
                        refine tz_cV (pc := 159) (m_goW hl n _ (q_150).2.1) vl_X12_280 dX12_term1_159 o_164 rfl rfl (Nat.le_of_ble_eq_true rfl) ⟨(show 2 + 1 ≤ 6 + 1 * (r9 + 1) by omega), (show 8 + (2 + 11) + 40 * (2) ≤ 40 * (6 + 1 * (r9 + 1)) by omega)⟩ rfl rfl (Nat.le_of_ble_eq_true rfl) (Nat.le_of_ble_eq_true rfl) (fun r9 J_159 hq9 => ?_)
                        obtain ⟨rfl, w_159, b_159⟩ := hq9
                        have q_159 := MRT.w q_150 w_159
                        refine tz_aload_n (pc := 162) dX12_term1_162 rfl rfl ?_
                        refine tz_fR (pc := 163) dX12_term1_163 fl_X12_25 r_164_5 ?_
                        refine tz_bipush (pc := 166) dX12_term1_166 (by decide) ?_
                        refine tz_iload_n (pc := 168) dX12_term1_168 rfl rfl ?_
                        refine tz_iadd (pc := 169) (v := 10 + z_107) dX12_term1_169 rfl ?_
                        refine tz_aL (pc := 170) (z := (10 + z_107)) (v := (J 170 (10 + z_107))) dX12_term1_170 a_170 rfl (by omega) (Eq.trans (congrFun (w_159.1.1 170 rfl) (10 + z_107)) (Eq.trans (congrFun (w_150.1.1 170 rfl) (10 + z_107)) (Eq.trans (congrFun (w_132.1.1 170 rfl) (10 + z_107)) (Eq.trans (congrFun (w_31.1.1 170 rfl) (10 + z_107)) rfl)))) (fun r_170 => ?_)
                        have hA9 := hM.2.2.2.2.2.1.2 z_107 (by omega) (by omega)
                        have hA8 : 0 ≤ J 170 (10 + z_107) ∧ J 170 (10 + z_107) ≤ 3 := hA9
                        rcases (show J 170 (10 + z_107) = 0 ∨ J 170 (10 + z_107) = 1 ∨ J 170 (10 + z_107) = 2 ∨ J 170 (10 + z_107) = 3 by omega) with hk9 | hk9 | hk9 | hk9
                        · rw [hk9]
                          refine tz_istore_n (pc := 171) (L2 := [_, _, _, _, _, _, _]) dX12_term1_171 rfl (by decide) rfl ?_
                          refine tz_iconst (pc := 172) dX12_term1_172 ?_
                          refine tz_istore (pc := 173) (L2 := [_, _, _, _, _, _, _]) dX12_term1_173 (by decide) rfl ?_
                          refine tz_iconst (pc := 175) dX12_term1_175 ?_
                          refine tz_istore (pc := 176) (L2 := [_, _, _, _, _, _, _]) dX12_term1_176 (by decide) rfl ?_
                          refine tz_iconst (pc := 178) dX12_term1_178 ?_
                          refine tz_istore (pc := 179) (L2 := [_, _, _, _, _, _, _]) dX12_term1_179 (by decide) rfl ?_
                          refine tz_iload_n (pc := 181) dX12_term1_181 rfl rfl ?_
                          refine tz_if_leT (pc := 182) (tgt := 264) (by decide) dX12_term1_182 (by decide) (by decide) ?_
                          refine tz_aload_n (pc := 264) dX12_term1_264 rfl rfl ?_
                          refine tz_fI (pc := 265) (kz := 43) (v := (J_159 164 43)) dX12_term1_265 fl_X12_273 i_164_43 rfl rfl (fun r_265 => ?_)
                          refine tz_if_ne (pc := 268) (tgt := 285) dX12_term1_268 (by decide) (by omega) (fun h_268 => ?_) (fun h_268 => ?_)
                          · refine tz_iconst (pc := 285) dX12_term1_285 ?_
                            exact tz_iret (pc := 286) (z := 0) dX12_term1_286 rfl (Nat.le_of_ble_eq_true rfl) (Nat.le_of_ble_eq_true rfl) ⟨Nat.le_refl _, Nat.le_add_right _ _⟩ ⟨_, rfl, (by decide), ⟨m, q_159, fun q9 => by omega⟩⟩
                          · refine tz_aload_n (pc := 271) dX12_term1_271 rfl rfl ?_
                            refine tz_iload_n (pc := 272) dX12_term1_272 rfl rfl ?_
                            refine tz_iload (pc := 273) dX12_term1_273 rfl ?_
                            refine tz_iload (pc := 275) dX12_term1_275 rfl ?_
                            refine tz_iload (pc := 277) dX12_term1_277 rfl ?_
                            refine tz_cV (pc := 279) (m_tu0 hl n _ _ _ _ _ (by omega) (by decide) (by decide) (by decide) 800 126 10 s m (q_159).1.1.1 (by omega) ⟨by omega, ((congrFun ((q_159).c 170 rfl) _).trans hk9)⟩ (q_159).2.2.2.2 ⟨fun g9 => absurd g9 (by decide), fun g9 => absurd g9 (by decide), fun g9 => absurd g9 (by decide)⟩) vl_X12_107 dX12_term1_279 o_164 rfl rfl (Nat.le_of_ble_eq_true rfl) ⟨(show 2 + 1 ≤ 6 + 1 * (r9 + 1) by omega), (show 8 + (8 + 11) + 40 * (2) ≤ 40 * (6 + 1 * (r9 + 1)) by omega)⟩ rfl rfl (Nat.le_of_ble_eq_true rfl) (Nat.le_of_ble_eq_true rfl) (fun r9 J_279 hq9 => ?_)
                            obtain ⟨z_279, rfl, hz_279, m_279, g_279, h_279⟩ := hq9
                            have q_279 := MRT.t q_159 g_279 (by omega)
                            refine tz_goto (pc := 282) (tgt := 286) dX12_term1_282 (by decide) ?_
                            exact tz_iret (pc := 286) (z := z_279) dX12_term1_286 rfl (Nat.le_of_ble_eq_true rfl) (Nat.le_of_ble_eq_true rfl) ⟨Nat.le_refl _, Nat.le_add_right _ _⟩ ⟨_, rfl, (by omega), ⟨m_279, q_279, fun _ => h_279⟩⟩
                        · rw [hk9]
                          refine tz_istore_n (pc := 171) (L2 := [_, _, _, _, _, _, _]) dX12_term1_171 rfl (by decide) rfl ?_
                          refine tz_iconst (pc := 172) dX12_term1_172 ?_
                          refine tz_istore (pc := 173) (L2 := [_, _, _, _, _, _, _]) dX12_term1_173 (by decide) rfl ?_
                          refine tz_iconst (pc := 175) dX12_term1_175 ?_
                          refine tz_istore (pc := 176) (L2 := [_, _, _, _, _, _, _]) dX12_term1_176 (by decide) rfl ?_
                          refine tz_iconst (pc := 178) dX12_term1_178 ?_
                          refine tz_istore (pc := 179) (L2 := [_, _, _, _, _, _, _]) dX12_term1_179 (by decide) rfl ?_
                          refine tz_iload_n (pc := 181) dX12_term1_181 rfl rfl ?_
                          refine tz_if_leF (pc := 182) (tgt := 264) (by decide) dX12_term1_182 (by decide) (by decide) ?_
                          refine tz_aload_n (pc := 185) dX12_term1_185 rfl rfl ?_
                          refine tz_bipush (pc := 186) dX12_term1_186 (by decide) ?_
                          refine tz_cV (pc := 188) (m_sign hl n _ _ (by decide) (q_159).2.1 (by decide)) vl_X12_296 dX12_term1_188 o_164 rfl rfl (Nat.le_of_ble_eq_true rfl) ⟨(show 3 + 1 ≤ 6 + 1 * (r9 + 1) by omega), (show 8 + (2 + 11) + 40 * (3) ≤ 40 * (6 + 1 * (r9 + 1)) by omega)⟩ rfl rfl (Nat.le_of_ble_eq_true rfl) (Nat.le_of_ble_eq_true rfl) (fun r9 J_188 hq9 => ?_)
                          obtain ⟨rfl, w_188, b_188⟩ := hq9
                          have q_188 := MRT.w q_159 w_188
                          refine tz_aload_n (pc := 191) dX12_term1_191 rfl rfl ?_
                          refine tz_iload_n (pc := 192) dX12_term1_192 rfl rfl ?_
                          refine tz_iconst (pc := 193) dX12_term1_193 ?_
                          refine tz_iadd (pc := 194) (v := x + 1) dX12_term1_194 rfl ?_
                          refine tz_cV (pc := 195) (ih _ _ (by omega) s m (q_188).1.1.1 (q_188).2.1 (q_188).2.2.2.2 (((q_188).f 44 rfl).trans h44) (by omega) (by omega)) vl_X12_298 dX12_term1_195 o_164 rfl rfl (Nat.le_of_ble_eq_true rfl) ⟨(show (6 + 1 * r9) + 1 ≤ 6 + 1 * (r9 + 1) by omega), (show 8 + (7 + 11) + 40 * ((6 + 1 * r9)) ≤ 40 * (6 + 1 * (r9 + 1)) by omega)⟩ rfl rfl (Nat.le_of_ble_eq_true rfl) (Nat.le_of_ble_eq_true rfl) (fun r9 J_195 hq9 => ?_)
                          obtain ⟨z_195, rfl, hz_195, m_195, w_195, h_195⟩ := hq9
                          have q_195 := MRT.tr q_188 w_195
                          have l_195 := w_195.1.1.2
                          refine tz_istore (pc := 198) (L2 := [_, _, _, _, _, _, _]) dX12_term1_198 (by decide) rfl ?_
                          refine tz_iload_n (pc := 200) dX12_term1_200 rfl rfl ?_
                          refine tz_iconst (pc := 201) dX12_term1_201 ?_
                          refine tz_icmp_leT (pc := 202) (tgt := 211) (by decide) dX12_term1_202 (by decide) (by decide) (by decide) ?_
                          refine tz_iload_n (pc := 211) dX12_term1_211 rfl rfl ?_
                          refine tz_iconst (pc := 212) dX12_term1_212 ?_
                          refine tz_icmp_leT (pc := 213) (tgt := 226) (by decide) dX12_term1_213 (by decide) (by decide) (by decide) ?_
                          refine tz_iconst (pc := 226) dX12_term1_226 ?_
                          refine tz_istore (pc := 227) (L2 := [_, _, _, _, _, _, _]) dX12_term1_227 (by decide) rfl ?_
                          refine tz_iload_n (pc := 229) dX12_term1_229 rfl rfl ?_
                          refine tz_iconst (pc := 230) dX12_term1_230 ?_
                          refine tz_icmp_leT (pc := 231) (tgt := 240) (by decide) dX12_term1_231 (by decide) (by decide) (by decide) ?_
                          refine tz_iload_n (pc := 240) dX12_term1_240 rfl rfl ?_
                          refine tz_iconst (pc := 241) dX12_term1_241 ?_
                          refine tz_icmp_leT (pc := 242) (tgt := 255) (by decide) dX12_term1_242 (by decide) (by decide) (by decide) ?_
                          refine tz_iconst (pc := 255) dX12_term1_255 ?_
                          refine tz_istore (pc := 256) (L2 := [_, _, _, _, _, _, _]) dX12_term1_256 (by decide) rfl ?_
                          refine tz_aload_n (pc := 258) dX12_term1_258 rfl rfl ?_
                          refine tz_bipush (pc := 259) dX12_term1_259 (by decide) ?_
                          refine tz_cV (pc := 261) (m_sign hl n _ _ (by decide) (q_195).2.1 (by decide)) vl_X12_296 dX12_term1_261 o_164 rfl rfl (Nat.le_of_ble_eq_true rfl) ⟨(show 3 + 1 ≤ 6 + 1 * (r9 + 1) by omega), (show 8 + (2 + 11) + 40 * (3) ≤ 40 * (6 + 1 * (r9 + 1)) by omega)⟩ rfl rfl (Nat.le_of_ble_eq_true rfl) (Nat.le_of_ble_eq_true rfl) (fun r9 J_261 hq9 => ?_)
                          obtain ⟨rfl, w_261, b_261⟩ := hq9
                          have q_261 := MRT.w q_195 w_261
                          refine tz_aload_n (pc := 264) dX12_term1_264 rfl rfl ?_
                          refine tz_fI (pc := 265) (kz := 43) (v := (J_261 164 43)) dX12_term1_265 fl_X12_273 i_164_43 rfl rfl (fun r_265 => ?_)
                          refine tz_if_ne (pc := 268) (tgt := 285) dX12_term1_268 (by decide) (by omega) (fun h_268 => ?_) (fun h_268 => ?_)
                          · refine tz_iconst (pc := 285) dX12_term1_285 ?_
                            exact tz_iret (pc := 286) (z := 0) dX12_term1_286 rfl (Nat.le_of_ble_eq_true rfl) (Nat.le_of_ble_eq_true rfl) ⟨Nat.le_refl _, Nat.le_add_right _ _⟩ ⟨_, rfl, (by decide), ⟨m_195, q_261, fun q9 => by omega⟩⟩
                          · refine tz_aload_n (pc := 271) dX12_term1_271 rfl rfl ?_
                            refine tz_iload_n (pc := 272) dX12_term1_272 rfl rfl ?_
                            refine tz_iload (pc := 273) dX12_term1_273 rfl ?_
                            refine tz_iload (pc := 275) dX12_term1_275 rfl ?_
                            refine tz_iload (pc := 277) dX12_term1_277 rfl ?_
                            have hb_261 : J_261 164 43 = 0 := h_268
                            have hb_195 := w_261.2.2.1 hb_261
                            have hv_195 := h_195 hb_195
                            refine tz_cV (pc := 279) (m_tu1 hl n _ _ _ _ _ (by omega) hz_195 (by decide) (by decide) 800 126 10 s m_195 (q_261).1.1.1 (by omega) ⟨by omega, ((congrFun ((q_261).c 170 rfl) _).trans hk9)⟩ (q_261).2.2.2.2 ⟨fun _ => ⟨hv_195.1, by omega⟩, fun g9 => absurd g9 (by decide), fun g9 => absurd g9 (by decide)⟩) vl_X12_107 dX12_term1_279 o_164 rfl rfl (Nat.le_of_ble_eq_true rfl) ⟨(show 2 + 1 ≤ 6 + 1 * (r9 + 1) by omega), (show 8 + (8 + 11) + 40 * (2) ≤ 40 * (6 + 1 * (r9 + 1)) by omega)⟩ rfl rfl (Nat.le_of_ble_eq_true rfl) (Nat.le_of_ble_eq_true rfl) (fun r9 J_279 hq9 => ?_)
                            obtain ⟨z_279, rfl, hz_279, m_279, g_279, h_279⟩ := hq9
                            have q_279 := MRT.t q_261 g_279 (by omega)
                            refine tz_goto (pc := 282) (tgt := 286) dX12_term1_282 (by decide) ?_
                            exact tz_iret (pc := 286) (z := z_279) dX12_term1_286 rfl (Nat.le_of_ble_eq_true rfl) (Nat.le_of_ble_eq_true rfl) ⟨Nat.le_refl _, Nat.le_add_right _ _⟩ ⟨_, rfl, (by omega), ⟨m_279, q_279, fun _ => h_279⟩⟩
                        · rw [hk9]
                          refine tz_istore_n (pc := 171) (L2 := [_, _, _, _, _, _, _]) dX12_term1_171 rfl (by decide) rfl ?_
                          refine tz_iconst (pc := 172) dX12_term1_172 ?_
                          refine tz_istore (pc := 173) (L2 := [_, _, _, _, _, _, _]) dX12_term1_173 (by decide) rfl ?_
                          refine tz_iconst (pc := 175) dX12_term1_175 ?_
                          refine tz_istore (pc := 176) (L2 := [_, _, _, _, _, _, _]) dX12_term1_176 (by decide) rfl ?_
                          refine tz_iconst (pc := 178) dX12_term1_178 ?_
                          refine tz_istore (pc := 179) (L2 := [_, _, _, _, _, _, _]) dX12_term1_179 (by decide) rfl ?_
                          refine tz_iload_n (pc := 181) dX12_term1_181 rfl rfl ?_
                          refine tz_if_leF (pc := 182) (tgt := 264) (by decide) dX12_term1_182 (by decide) (by decide) ?_
                          refine tz_aload_n (pc := 185) dX12_term1_185 rfl rfl ?_
                          refine tz_bipush (pc := 186) dX12_term1_186 (by decide) ?_
                          refine tz_cV (pc := 188) (m_sign hl n _ _ (by decide) (q_159).2.1 (by decide)) vl_X12_296 dX12_term1_188 o_164 rfl rfl (Nat.le_of_ble_eq_true rfl) ⟨(show 3 + 1 ≤ 6 + 1 * (r9 + 1) by omega), (show 8 + (2 + 11) + 40 * (3) ≤ 40 * (6 + 1 * (r9 + 1)) by omega)⟩ rfl rfl (Nat.le_of_ble_eq_true rfl) (Nat.le_of_ble_eq_true rfl) (fun r9 J_188 hq9 => ?_)
                          obtain ⟨rfl, w_188, b_188⟩ := hq9
                          have q_188 := MRT.w q_159 w_188
                          refine tz_aload_n (pc := 191) dX12_term1_191 rfl rfl ?_
                          refine tz_iload_n (pc := 192) dX12_term1_192 rfl rfl ?_
                          refine tz_iconst (pc := 193) dX12_term1_193 ?_
                          refine tz_iadd (pc := 194) (v := x + 1) dX12_term1_194 rfl ?_
                          refine tz_cV (pc := 195) (ih _ _ (by omega) s m (q_188).1.1.1 (q_188).2.1 (q_188).2.2.2.2 (((q_188).f 44 rfl).trans h44) (by omega) (by omega)) vl_X12_298 dX12_term1_195 o_164 rfl rfl (Nat.le_of_ble_eq_true rfl) ⟨(show (6 + 1 * r9) + 1 ≤ 6 + 1 * (r9 + 1) by omega), (show 8 + (7 + 11) + 40 * ((6 + 1 * r9)) ≤ 40 * (6 + 1 * (r9 + 1)) by omega)⟩ rfl rfl (Nat.le_of_ble_eq_true rfl) (Nat.le_of_ble_eq_true rfl) (fun r9 J_195 hq9 => ?_)
                          obtain ⟨z_195, rfl, hz_195, m_195, w_195, h_195⟩ := hq9
                          have q_195 := MRT.tr q_188 w_195
                          have l_195 := w_195.1.1.2
                          refine tz_istore (pc := 198) (L2 := [_, _, _, _, _, _, _]) dX12_term1_198 (by decide) rfl ?_
                          refine tz_iload_n (pc := 200) dX12_term1_200 rfl rfl ?_
                          refine tz_iconst (pc := 201) dX12_term1_201 ?_
                          refine tz_icmp_leF (pc := 202) (tgt := 211) (by decide) dX12_term1_202 (by decide) (by decide) (by decide) ?_
                          refine tz_aload_n (pc := 205) dX12_term1_205 rfl rfl ?_
                          refine tz_bipush (pc := 206) dX12_term1_206 (by decide) ?_
                          refine tz_cV (pc := 208) (m_sign hl n _ _ (by decide) (q_195).2.1 (by decide)) vl_X12_296 dX12_term1_208 o_164 rfl rfl (Nat.le_of_ble_eq_true rfl) ⟨(show 3 + 1 ≤ 6 + 1 * (r9 + 1) by omega), (show 8 + (2 + 11) + 40 * (3) ≤ 40 * (6 + 1 * (r9 + 1)) by omega)⟩ rfl rfl (Nat.le_of_ble_eq_true rfl) (Nat.le_of_ble_eq_true rfl) (fun r9 J_208 hq9 => ?_)
                          obtain ⟨rfl, w_208, b_208⟩ := hq9
                          have q_208 := MRT.w q_195 w_208
                          refine tz_iload_n (pc := 211) dX12_term1_211 rfl rfl ?_
                          refine tz_iconst (pc := 212) dX12_term1_212 ?_
                          refine tz_icmp_leF (pc := 213) (tgt := 226) (by decide) dX12_term1_213 (by decide) (by decide) (by decide) ?_
                          refine tz_aload_n (pc := 216) dX12_term1_216 rfl rfl ?_
                          refine tz_iload_n (pc := 217) dX12_term1_217 rfl rfl ?_
                          refine tz_iconst (pc := 218) dX12_term1_218 ?_
                          refine tz_iadd (pc := 219) (v := x + 1) dX12_term1_219 rfl ?_
                          refine tz_cV (pc := 220) (ih _ _ (by omega) s m_195 (q_208).1.1.1 (q_208).2.1 (q_208).2.2.2.2 (((q_208).f 44 rfl).trans h44) (by omega) (by omega)) vl_X12_298 dX12_term1_220 o_164 rfl rfl (Nat.le_of_ble_eq_true rfl) ⟨(show (6 + 1 * r9) + 1 ≤ 6 + 1 * (r9 + 1) by omega), (show 8 + (7 + 11) + 40 * ((6 + 1 * r9)) ≤ 40 * (6 + 1 * (r9 + 1)) by omega)⟩ rfl rfl (Nat.le_of_ble_eq_true rfl) (Nat.le_of_ble_eq_true rfl) (fun r9 J_220 hq9 => ?_)
                          obtain ⟨z_220, rfl, hz_220, m_220, w_220, h_220⟩ := hq9
                          have q_220 := MRT.tr q_208 w_220
                          have l_220 := w_220.1.1.2
                          refine tz_goto (pc := 223) (tgt := 227) dX12_term1_223 (by decide) ?_
                          refine tz_istore (pc := 227) (L2 := [_, _, _, _, _, _, _]) dX12_term1_227 (by decide) rfl ?_
                          refine tz_iload_n (pc := 229) dX12_term1_229 rfl rfl ?_
                          refine tz_iconst (pc := 230) dX12_term1_230 ?_
                          refine tz_icmp_leT (pc := 231) (tgt := 240) (by decide) dX12_term1_231 (by decide) (by decide) (by decide) ?_
                          refine tz_iload_n (pc := 240) dX12_term1_240 rfl rfl ?_
                          refine tz_iconst (pc := 241) dX12_term1_241 ?_
                          refine tz_icmp_leT (pc := 242) (tgt := 255) (by decide) dX12_term1_242 (by decide) (by decide) (by decide) ?_
                          refine tz_iconst (pc := 255) dX12_term1_255 ?_
                          refine tz_istore (pc := 256) (L2 := [_, _, _, _, _, _, _]) dX12_term1_256 (by decide) rfl ?_
                          refine tz_aload_n (pc := 258) dX12_term1_258 rfl rfl ?_
                          refine tz_bipush (pc := 259) dX12_term1_259 (by decide) ?_
                          refine tz_cV (pc := 261) (m_sign hl n _ _ (by decide) (q_220).2.1 (by decide)) vl_X12_296 dX12_term1_261 o_164 rfl rfl (Nat.le_of_ble_eq_true rfl) ⟨(show 3 + 1 ≤ 6 + 1 * (r9 + 1) by omega), (show 8 + (2 + 11) + 40 * (3) ≤ 40 * (6 + 1 * (r9 + 1)) by omega)⟩ rfl rfl (Nat.le_of_ble_eq_true rfl) (Nat.le_of_ble_eq_true rfl) (fun r9 J_261 hq9 => ?_)
                          obtain ⟨rfl, w_261, b_261⟩ := hq9
                          have q_261 := MRT.w q_220 w_261
                          refine tz_aload_n (pc := 264) dX12_term1_264 rfl rfl ?_
                          refine tz_fI (pc := 265) (kz := 43) (v := (J_261 164 43)) dX12_term1_265 fl_X12_273 i_164_43 rfl rfl (fun r_265 => ?_)
                          refine tz_if_ne (pc := 268) (tgt := 285) dX12_term1_268 (by decide) (by omega) (fun h_268 => ?_) (fun h_268 => ?_)
                          · refine tz_iconst (pc := 285) dX12_term1_285 ?_
                            exact tz_iret (pc := 286) (z := 0) dX12_term1_286 rfl (Nat.le_of_ble_eq_true rfl) (Nat.le_of_ble_eq_true rfl) ⟨Nat.le_refl _, Nat.le_add_right _ _⟩ ⟨_, rfl, (by decide), ⟨m_220, q_261, fun q9 => by omega⟩⟩
                          · refine tz_aload_n (pc := 271) dX12_term1_271 rfl rfl ?_
                            refine tz_iload_n (pc := 272) dX12_term1_272 rfl rfl ?_
                            refine tz_iload (pc := 273) dX12_term1_273 rfl ?_
                            refine tz_iload (pc := 275) dX12_term1_275 rfl ?_
                            refine tz_iload (pc := 277) dX12_term1_277 rfl ?_
                            have hb_261 : J_261 164 43 = 0 := h_268
                            have hb_220 := w_261.2.2.1 hb_261
                            have hb_208 := w_220.2.2.1 hb_220
                            have hb_195 := w_208.2.2.1 hb_208
                            have hv_195 := h_195 hb_195
                            have hv_220 := h_220 hb_220
                            refine tz_cV (pc := 279) (m_tu2 hl n _ _ _ _ _ (by omega) hz_195 hz_220 (by decide) 800 126 10 s m_220 (q_261).1.1.1 (by omega) ⟨by omega, ((congrFun ((q_261).c 170 rfl) _).trans hk9)⟩ (q_261).2.2.2.2 ⟨fun _ => ⟨hv_195.1, by omega⟩, fun _ => ⟨hv_220.1, by omega⟩, fun g9 => absurd g9 (by decide)⟩) vl_X12_107 dX12_term1_279 o_164 rfl rfl (Nat.le_of_ble_eq_true rfl) ⟨(show 2 + 1 ≤ 6 + 1 * (r9 + 1) by omega), (show 8 + (8 + 11) + 40 * (2) ≤ 40 * (6 + 1 * (r9 + 1)) by omega)⟩ rfl rfl (Nat.le_of_ble_eq_true rfl) (Nat.le_of_ble_eq_true rfl) (fun r9 J_279 hq9 => ?_)
                            obtain ⟨z_279, rfl, hz_279, m_279, g_279, h_279⟩ := hq9
                            have q_279 := MRT.t q_261 g_279 (by omega)
                            refine tz_goto (pc := 282) (tgt := 286) dX12_term1_282 (by decide) ?_
                            exact tz_iret (pc := 286) (z := z_279) dX12_term1_286 rfl (Nat.le_of_ble_eq_true rfl) (Nat.le_of_ble_eq_true rfl) ⟨Nat.le_refl _, Nat.le_add_right _ _⟩ ⟨_, rfl, (by omega), ⟨m_279, q_279, fun _ => h_279⟩⟩
                        · rw [hk9]
                          refine tz_istore_n (pc := 171) (L2 := [_, _, _, _, _, _, _]) dX12_term1_171 rfl (by decide) rfl ?_
                          refine tz_iconst (pc := 172) dX12_term1_172 ?_
                          refine tz_istore (pc := 173) (L2 := [_, _, _, _, _, _, _]) dX12_term1_173 (by decide) rfl ?_
                          refine tz_iconst (pc := 175) dX12_term1_175 ?_
                          refine tz_istore (pc := 176) (L2 := [_, _, _, _, _, _, _]) dX12_term1_176 (by decide) rfl ?_
                          refine tz_iconst (pc := 178) dX12_term1_178 ?_
                          refine tz_istore (pc := 179) (L2 := [_, _, _, _, _, _, _]) dX12_term1_179 (by decide) rfl ?_
                          refine tz_iload_n (pc := 181) dX12_term1_181 rfl rfl ?_
                          refine tz_if_leF (pc := 182) (tgt := 264) (by decide) dX12_term1_182 (by decide) (by decide) ?_
                          refine tz_aload_n (pc := 185) dX12_term1_185 rfl rfl ?_
                          refine tz_bipush (pc := 186) dX12_term1_186 (by decide) ?_
                          refine tz_cV (pc := 188) (m_sign hl n _ _ (by decide) (q_159).2.1 (by decide)) vl_X12_296 dX12_term1_188 o_164 rfl rfl (Nat.le_of_ble_eq_true rfl) ⟨(show 3 + 1 ≤ 6 + 1 * (r9 + 1) by omega), (show 8 + (2 + 11) + 40 * (3) ≤ 40 * (6 + 1 * (r9 + 1)) by omega)⟩ rfl rfl (Nat.le_of_ble_eq_true rfl) (Nat.le_of_ble_eq_true rfl) (fun r9 J_188 hq9 => ?_)
                          obtain ⟨rfl, w_188, b_188⟩ := hq9
                          have q_188 := MRT.w q_159 w_188
                          refine tz_aload_n (pc := 191) dX12_term1_191 rfl rfl ?_
                          refine tz_iload_n (pc := 192) dX12_term1_192 rfl rfl ?_
                          refine tz_iconst (pc := 193) dX12_term1_193 ?_
                          refine tz_iadd (pc := 194) (v := x + 1) dX12_term1_194 rfl ?_
                          refine tz_cV (pc := 195) (ih _ _ (by omega) s m (q_188).1.1.1 (q_188).2.1 (q_188).2.2.2.2 (((q_188).f 44 rfl).trans h44) (by omega) (by omega)) vl_X12_298 dX12_term1_195 o_164 rfl rfl (Nat.le_of_ble_eq_true rfl) ⟨(show (6 + 1 * r9) + 1 ≤ 6 + 1 * (r9 + 1) by omega), (show 8 + (7 + 11) + 40 * ((6 + 1 * r9)) ≤ 40 * (6 + 1 * (r9 + 1)) by omega)⟩ rfl rfl (Nat.le_of_ble_eq_true rfl) (Nat.le_of_ble_eq_true rfl) (fun r9 J_195 hq9 => ?_)
                          obtain ⟨z_195, rfl, hz_195, m_195, w_195, h_195⟩ := hq9
                          have q_195 := MRT.tr q_188 w_195
                          have l_195 := w_195.1.1.2
                          refine tz_istore (pc := 198) (L2 := [_, _, _, _, _, _, _]) dX12_term1_198 (by decide) rfl ?_
                          refine tz_iload_n (pc := 200) dX12_term1_200 rfl rfl ?_
                          refine tz_iconst (pc := 201) dX12_term1_201 ?_
                          refine tz_icmp_leF (pc := 202) (tgt := 211) (by decide) dX12_term1_202 (by decide) (by decide) (by decide) ?_
                          refine tz_aload_n (pc := 205) dX12_term1_205 rfl rfl ?_
                          refine tz_bipush (pc := 206) dX12_term1_206 (by decide) ?_
                          refine tz_cV (pc := 208) (m_sign hl n _ _ (by decide) (q_195).2.1 (by decide)) vl_X12_296 dX12_term1_208 o_164 rfl rfl (Nat.le_of_ble_eq_true rfl) ⟨(show 3 + 1 ≤ 6 + 1 * (r9 + 1) by omega), (show 8 + (2 + 11) + 40 * (3) ≤ 40 * (6 + 1 * (r9 + 1)) by omega)⟩ rfl rfl (Nat.le_of_ble_eq_true rfl) (Nat.le_of_ble_eq_true rfl) (fun r9 J_208 hq9 => ?_)
                          obtain ⟨rfl, w_208, b_208⟩ := hq9
                          have q_208 := MRT.w q_195 w_208
                          refine tz_iload_n (pc := 211) dX12_term1_211 rfl rfl ?_
                          refine tz_iconst (pc := 212) dX12_term1_212 ?_
                          refine tz_icmp_leF (pc := 213) (tgt := 226) (by decide) dX12_term1_213 (by decide) (by decide) (by decide) ?_
                          refine tz_aload_n (pc := 216) dX12_term1_216 rfl rfl ?_
                          refine tz_iload_n (pc := 217) dX12_term1_217 rfl rfl ?_
                          refine tz_iconst (pc := 218) dX12_term1_218 ?_
                          refine tz_iadd (pc := 219) (v := x + 1) dX12_term1_219 rfl ?_
                          refine tz_cV (pc := 220) (ih _ _ (by omega) s m_195 (q_208).1.1.1 (q_208).2.1 (q_208).2.2.2.2 (((q_208).f 44 rfl).trans h44) (by omega) (by omega)) vl_X12_298 dX12_term1_220 o_164 rfl rfl (Nat.le_of_ble_eq_true rfl) ⟨(show (6 + 1 * r9) + 1 ≤ 6 + 1 * (r9 + 1) by omega), (show 8 + (7 + 11) + 40 * ((6 + 1 * r9)) ≤ 40 * (6 + 1 * (r9 + 1)) by omega)⟩ rfl rfl (Nat.le_of_ble_eq_true rfl) (Nat.le_of_ble_eq_true rfl) (fun r9 J_220 hq9 => ?_)
                          obtain ⟨z_220, rfl, hz_220, m_220, w_220, h_220⟩ := hq9
                          have q_220 := MRT.tr q_208 w_220
                          have l_220 := w_220.1.1.2
                          refine tz_goto (pc := 223) (tgt := 227) dX12_term1_223 (by decide) ?_
                          refine tz_istore (pc := 227) (L2 := [_, _, _, _, _, _, _]) dX12_term1_227 (by decide) rfl ?_
                          refine tz_iload_n (pc := 229) dX12_term1_229 rfl rfl ?_
                          refine tz_iconst (pc := 230) dX12_term1_230 ?_
                          refine tz_icmp_leF (pc := 231) (tgt := 240) (by decide) dX12_term1_231 (by decide) (by decide) (by decide) ?_
                          refine tz_aload_n (pc := 234) dX12_term1_234 rfl rfl ?_
                          refine tz_bipush (pc := 235) dX12_term1_235 (by decide) ?_
                          refine tz_cV (pc := 237) (m_sign hl n _ _ (by decide) (q_220).2.1 (by decide)) vl_X12_296 dX12_term1_237 o_164 rfl rfl (Nat.le_of_ble_eq_true rfl) ⟨(show 3 + 1 ≤ 6 + 1 * (r9 + 1) by omega), (show 8 + (2 + 11) + 40 * (3) ≤ 40 * (6 + 1 * (r9 + 1)) by omega)⟩ rfl rfl (Nat.le_of_ble_eq_true rfl) (Nat.le_of_ble_eq_true rfl) (fun r9 J_237 hq9 => ?_)
                          obtain ⟨rfl, w_237, b_237⟩ := hq9
                          have q_237 := MRT.w q_220 w_237
                          refine tz_iload_n (pc := 240) dX12_term1_240 rfl rfl ?_
                          refine tz_iconst (pc := 241) dX12_term1_241 ?_
                          refine tz_icmp_leF (pc := 242) (tgt := 255) (by decide) dX12_term1_242 (by decide) (by decide) (by decide) ?_
                          refine tz_aload_n (pc := 245) dX12_term1_245 rfl rfl ?_
                          refine tz_iload_n (pc := 246) dX12_term1_246 rfl rfl ?_
                          refine tz_iconst (pc := 247) dX12_term1_247 ?_
                          refine tz_iadd (pc := 248) (v := x + 1) dX12_term1_248 rfl ?_
                          refine tz_cV (pc := 249) (ih _ _ (by omega) s m_220 (q_237).1.1.1 (q_237).2.1 (q_237).2.2.2.2 (((q_237).f 44 rfl).trans h44) (by omega) (by omega)) vl_X12_298 dX12_term1_249 o_164 rfl rfl (Nat.le_of_ble_eq_true rfl) ⟨(show (6 + 1 * r9) + 1 ≤ 6 + 1 * (r9 + 1) by omega), (show 8 + (7 + 11) + 40 * ((6 + 1 * r9)) ≤ 40 * (6 + 1 * (r9 + 1)) by omega)⟩ rfl rfl (Nat.le_of_ble_eq_true rfl) (Nat.le_of_ble_eq_true rfl) (fun r9 J_249 hq9 => ?_)
                          obtain ⟨z_249, rfl, hz_249, m_249, w_249, h_249⟩ := hq9
                          have q_249 := MRT.tr q_237 w_249
                          have l_249 := w_249.1.1.2
                          refine tz_goto (pc := 252) (tgt := 256) dX12_term1_252 (by decide) ?_
                          refine tz_istore (pc := 256) (L2 := [_, _, _, _, _, _, _]) dX12_term1_256 (by decide) rfl ?_
                          refine tz_aload_n (pc := 258) dX12_term1_258 rfl rfl ?_
                          refine tz_bipush (pc := 259) dX12_term1_259 (by decide) ?_
                          refine tz_cV (pc := 261) (m_sign hl n _ _ (by decide) (q_249).2.1 (by decide)) vl_X12_296 dX12_term1_261 o_164 rfl rfl (Nat.le_of_ble_eq_true rfl) ⟨(show 3 + 1 ≤ 6 + 1 * (r9 + 1) by omega), (show 8 + (2 + 11) + 40 * (3) ≤ 40 * (6 + 1 * (r9 + 1)) by omega)⟩ rfl rfl (Nat.le_of_ble_eq_true rfl) (Nat.le_of_ble_eq_true rfl) (fun r9 J_261 hq9 => ?_)
                          obtain ⟨rfl, w_261, b_261⟩ := hq9
                          have q_261 := MRT.w q_249 w_261
                          refine tz_aload_n (pc := 264) dX12_term1_264 rfl rfl ?_
                          refine tz_fI (pc := 265) (kz := 43) (v := (J_261 164 43)) dX12_term1_265 fl_X12_273 i_164_43 rfl rfl (fun r_265 => ?_)
                          refine tz_if_ne (pc := 268) (tgt := 285) dX12_term1_268 (by decide) (by omega) (fun h_268 => ?_) (fun h_268 => ?_)
                          · refine tz_iconst (pc := 285) dX12_term1_285 ?_
                            exact tz_iret (pc := 286) (z := 0) dX12_term1_286 rfl (Nat.le_of_ble_eq_true rfl) (Nat.le_of_ble_eq_true rfl) ⟨Nat.le_refl _, Nat.le_add_right _ _⟩ ⟨_, rfl, (by decide), ⟨m_249, q_261, fun q9 => by omega⟩⟩
                          · refine tz_aload_n (pc := 271) dX12_term1_271 rfl rfl ?_
                            refine tz_iload_n (pc := 272) dX12_term1_272 rfl rfl ?_
                            refine tz_iload (pc := 273) dX12_term1_273 rfl ?_
                            refine tz_iload (pc := 275) dX12_term1_275 rfl ?_
                            refine tz_iload (pc := 277) dX12_term1_277 rfl ?_
                            have hb_261 : J_261 164 43 = 0 := h_268
                            have hb_249 := w_261.2.2.1 hb_261
                            have hb_237 := w_249.2.2.1 hb_249
                            have hb_220 := w_237.2.2.1 hb_237
                            have hb_208 := w_220.2.2.1 hb_220
                            have hb_195 := w_208.2.2.1 hb_208
                            have hv_195 := h_195 hb_195
                            have hv_220 := h_220 hb_220
                            have hv_249 := h_249 hb_249
                            refine tz_cV (pc := 279) (m_tu3 hl n _ _ _ _ _ (by omega) hz_195 hz_220 hz_249 800 126 10 s m_249 (q_261).1.1.1 (by omega) ⟨by omega, ((congrFun ((q_261).c 170 rfl) _).trans hk9)⟩ (q_261).2.2.2.2 ⟨fun _ => ⟨hv_195.1, by omega⟩, fun _ => ⟨hv_220.1, by omega⟩, fun _ => ⟨hv_249.1, by omega⟩⟩) vl_X12_107 dX12_term1_279 o_164 rfl rfl (Nat.le_of_ble_eq_true rfl) ⟨(show 2 + 1 ≤ 6 + 1 * (r9 + 1) by omega), (show 8 + (8 + 11) + 40 * (2) ≤ 40 * (6 + 1 * (r9 + 1)) by omega)⟩ rfl rfl (Nat.le_of_ble_eq_true rfl) (Nat.le_of_ble_eq_true rfl) (fun r9 J_279 hq9 => ?_)
                            obtain ⟨z_279, rfl, hz_279, m_279, g_279, h_279⟩ := hq9
                            have q_279 := MRT.t q_261 g_279 (by omega)
                            refine tz_goto (pc := 282) (tgt := 286) dX12_term1_282 (by decide) ?_
                            exact tz_iret (pc := 286) (z := z_279) dX12_term1_286 rfl (Nat.le_of_ble_eq_true rfl) (Nat.le_of_ble_eq_true rfl) ⟨Nat.le_refl _, Nat.le_add_right _ _⟩ ⟨_, rfl, (by omega), ⟨m_279, q_279, fun _ => h_279⟩⟩
            · refine tz_aload_n (pc := 48) dX12_term1_48 rfl rfl ?_
              refine tz_iload_n (pc := 49) dX12_term1_49 rfl rfl ?_
              refine tz_bipush (pc := 50) dX12_term1_50 (by decide) ?_
              refine tz_icmp_gt (pc := 52) (tgt := 59) dX12_term1_52 (by decide) (by omega) (by decide) (fun h_52 => ?_) (fun h_52 => ?_)
              · refine tz_iconst (pc := 59) dX12_term1_59 ?_
                refine tz_iconst (pc := 60) dX12_term1_60 ?_
                refine tz_cV (pc := 61) (m_wantsW hl n _ _ _ (by decide) (by decide) (q_31).2.1 (by decide)) vl_X12_276 dX12_term1_61 o_164 rfl rfl (Nat.le_of_ble_eq_true rfl) ⟨(show 0 + 1 ≤ 6 + 1 * (r9 + 1) by omega), (show 8 + (3 + 11) + 40 * (0) ≤ 40 * (6 + 1 * (r9 + 1)) by omega)⟩ rfl rfl (Nat.le_of_ble_eq_true rfl) (Nat.le_of_ble_eq_true rfl) (fun r9 J_61 hq9 => ?_)
                obtain ⟨z_61, rfl, hz_61, w_61, b_61, c_61, d_61⟩ := hq9
                have q_61 := MRT.w q_31 w_61
                obtain rfl : z_61 = 0 := by rcases b_61 with e9 | e9; exact e9; exact absurd rfl (c_61 e9).2.2
                have v_61 := d_61 rfl
                clear b_61 c_61 d_61
                refine tz_if_neF (pc := 64) (tgt := 69) (by decide) dX12_term1_64 (by decide) (by decide) ?_
                refine tz_iconst (pc := 67) dX12_term1_67 ?_
                exact tz_iret (pc := 68) (z := 0) dX12_term1_68 rfl (Nat.le_of_ble_eq_true rfl) (Nat.le_of_ble_eq_true rfl) ⟨Nat.le_refl _, Nat.le_add_right _ _⟩ ⟨_, rfl, (by decide), ⟨m, q_61, fun q9 => by omega⟩⟩
              · refine tz_iconst (pc := 55) dX12_term1_55 ?_
                refine tz_goto (pc := 56) (tgt := 60) dX12_term1_56 (by decide) ?_
                refine tz_iconst (pc := 60) dX12_term1_60 ?_
                refine tz_cV (pc := 61) (m_wantsW hl n _ _ _ (by decide) (by decide) (q_31).2.1 (by decide)) vl_X12_276 dX12_term1_61 o_164 rfl rfl (Nat.le_of_ble_eq_true rfl) ⟨(show 0 + 1 ≤ 6 + 1 * (r9 + 1) by omega), (show 8 + (3 + 11) + 40 * (0) ≤ 40 * (6 + 1 * (r9 + 1)) by omega)⟩ rfl rfl (Nat.le_of_ble_eq_true rfl) (Nat.le_of_ble_eq_true rfl) (fun r9 J_61 hq9 => ?_)
                obtain ⟨z_61, rfl, hz_61, w_61, b_61, c_61, d_61⟩ := hq9
                have q_61 := MRT.w q_31 w_61
                have o_61 : (z_61 = 0 ∧ ¬ J_61 164 43 = 0) ∨ (z_61 = 1 ∧ J_61 164 43 = 0) := by rcases b_61 with e9 | e9; exact Or.inl ⟨e9, d_61 e9⟩; exact Or.inr ⟨e9, (c_61 e9).2.1⟩
                clear b_61 c_61 d_61
                rcases o_61 with ⟨rfl, v_61⟩ | ⟨rfl, v_61⟩
                · refine tz_if_neF (pc := 64) (tgt := 69) (by decide) dX12_term1_64 (by decide) (by decide) ?_
                  refine tz_iconst (pc := 67) dX12_term1_67 ?_
                  exact tz_iret (pc := 68) (z := 0) dX12_term1_68 rfl (Nat.le_of_ble_eq_true rfl) (Nat.le_of_ble_eq_true rfl) ⟨Nat.le_refl _, Nat.le_add_right _ _⟩ ⟨_, rfl, (by decide), ⟨m, q_61, fun q9 => by omega⟩⟩
                · refine tz_if_neT (pc := 64) (tgt := 69) (by decide) dX12_term1_64 (by decide) (by decide) ?_
                  refine tz_aload_n (pc := 69) dX12_term1_69 rfl rfl ?_
                  refine tz_cV (pc := 70) (m_goW hl n _ (q_61).2.1) vl_X12_280 dX12_term1_70 o_164 rfl rfl (Nat.le_of_ble_eq_true rfl) ⟨(show 2 + 1 ≤ 6 + 1 * (r9 + 1) by omega), (show 8 + (2 + 11) + 40 * (2) ≤ 40 * (6 + 1 * (r9 + 1)) by omega)⟩ rfl rfl (Nat.le_of_ble_eq_true rfl) (Nat.le_of_ble_eq_true rfl) (fun r9 J_70 hq9 => ?_)
                  obtain ⟨rfl, w_70, b_70⟩ := hq9
                  have q_70 := MRT.w q_61 w_70
                  refine tz_aload_n (pc := 73) dX12_term1_73 rfl rfl ?_
                  refine tz_iconst (pc := 74) dX12_term1_74 ?_
                  refine tz_bipush (pc := 75) dX12_term1_75 (by decide) ?_
                  refine tz_cV (pc := 77) (m_number hl n _ _ _ (by decide) (by decide) (q_70).2.1 (by decide)) vl_X12_290 dX12_term1_77 o_164 rfl rfl (Nat.le_of_ble_eq_true rfl) ⟨(show 3 + 1 ≤ 6 + 1 * (r9 + 1) by omega), (show 8 + (4 + 11) + 40 * (3) ≤ 40 * (6 + 1 * (r9 + 1)) by omega)⟩ rfl rfl (Nat.le_of_ble_eq_true rfl) (Nat.le_of_ble_eq_true rfl) (fun r9 J_77 hq9 => ?_)
                  obtain ⟨z_77, rfl, hz_77, w_77, b_77, d_77⟩ := hq9
                  have q_77 := MRT.w q_70 w_77
                  refine tz_istore_n (pc := 80) (L2 := [_, _, _, _, _, _, _]) dX12_term1_80 rfl (by decide) rfl ?_
                  refine tz_aload_n (pc := 81) dX12_term1_81 rfl rfl ?_
                  refine tz_fI (pc := 82) (kz := 43) (v := (J_77 164 43)) dX12_term1_82 fl_X12_273 i_164_43 rfl rfl (fun r_82 => ?_)
                  refine tz_if_ne (pc := 85) (tgt := 96) dX12_term1_85 (by decide) (by omega) (fun h_85 => ?_) (fun h_85 => ?_)
                  · refine tz_iconst (pc := 96) dX12_term1_96 ?_
                    exact tz_iret (pc := 97) (z := 0) dX12_term1_97 rfl (Nat.le_of_ble_eq_true rfl) (Nat.le_of_ble_eq_true rfl) ⟨Nat.le_refl _, Nat.le_add_right _ _⟩ ⟨_, rfl, (by decide), ⟨m, q_77, fun q9 => by omega⟩⟩
                  · refine tz_aload_n (pc := 88) dX12_term1_88 rfl rfl ?_
                    refine tz_iload_n (pc := 89) dX12_term1_89 rfl rfl ?_
                    refine tz_cV (pc := 90) (m_varTermU hl n _ _ (by omega) 800 126 10 s m (q_77).1.1.1 (by omega) (q_77).2.2.2.2) vl_X12_180 dX12_term1_90 o_164 rfl rfl (Nat.le_of_ble_eq_true rfl) ⟨(show 3 + 1 ≤ 6 + 1 * (r9 + 1) by omega), (show 8 + (2 + 11) + 40 * (3) ≤ 40 * (6 + 1 * (r9 + 1)) by omega)⟩ rfl rfl (Nat.le_of_ble_eq_true rfl) (Nat.le_of_ble_eq_true rfl) (fun r9 J_90 hq9 => ?_)
                    obtain ⟨z_90, rfl, hz_90, m_90, g_90, h_90⟩ := hq9
                    have q_90 := MRT.t q_77 g_90 (by omega)
                    refine tz_goto (pc := 93) (tgt := 97) dX12_term1_93 (by decide) ?_
                    exact tz_iret (pc := 97) (z := z_90) dX12_term1_97 rfl (Nat.le_of_ble_eq_true rfl) (Nat.le_of_ble_eq_true rfl) ⟨Nat.le_refl _, Nat.le_add_right _ _⟩ ⟨_, rfl, (by omega), ⟨m_90, q_90, fun _ => h_90⟩⟩

theorem m_term1 {l : Launch} {G : tb_G} (hl : l.stackTraces = false) (n : Nat) (J : zJ) (s m : Int) (hM : MS J 800 126 10 s m) (hP : RSP J) (hu : J 164 21 = 0 ∨ 0 < m) (h44 : J 164 44 = s) : tz_Ok l G M_X12_term1 14 0 0 [.ref 164, zi 1] n J (zqi (fun z J' => ∃ m', MRT J' J s m m' ∧ TV J' z m')) zN := m_term1R hl n 8 J 1 (by decide) s m hM hP hu h44 (by decide) (by decide)
end
section
/-! ===== rows ===== -/
def ME (f : Int → Int) (m : Int) : Prop := (0 ≤ f 26 ∧ f 26 ≤ 12) ∧ ∀ k, 0 ≤ k → k < f 26 → 0 ≤ f (27 + k) ∧ f (27 + k) < m
def MB (f : Int → Int) (m : Int) : Prop := ∀ v, 1 ≤ v → v ≤ 8 → 0 ≤ f v ∧ f v ≤ m
/-- a row of the reference is sound with m terms -/
def ML (f : Int → Int) (m : Int) : Prop := MR f m ∧ MM f m ∧ ME f m ∧ MB f m
theorem ME.of {f' f : Int → Int} {m : Int} (h : ME f m) (e : ∀ k, 26 ≤ k → k < 39 → f' k = f k) : ME f' m := by
  unfold ME
  rw [e 26 (by decide) (by decide)]
  refine ⟨h.1, fun k a c => ?_⟩
  have h1 := h.1
  rw [e (27 + k) (by omega) (by omega)]
  exact h.2 k a c
theorem MB.of {f' f : Int → Int} {m : Int} (h : MB f m) (e : ∀ k, 1 ≤ k → k ≤ 8 → f' k = f k) : MB f' m := fun v a c => by
  rw [e v a c]
  exact h v a c
theorem ME.mono {f : Int → Int} {m m' : Int} (h : ME f m) (q : m ≤ m') : ME f m' := ⟨h.1, fun k a c => by have := h.2 k a c; omega⟩
theorem MB.mono {f : Int → Int} {m m' : Int} (h : MB f m) (q : m ≤ m') : MB f m' := fun k a c => by have := h k a c; omega
theorem ML.mono {f : Int → Int} {m m' : Int} (h : ML f m) (q : m ≤ m') : ML f m' := ⟨h.1.mono q, h.2.1.mono q, h.2.2.1.mono q, h.2.2.2.mono q⟩
theorem ML.of {f' f : Int → Int} {m : Int} (h : ML f m) (e : ∀ k, 1 ≤ k → k < 59 → f' k = f k) : ML f' m := ⟨h.1.of (fun k a c => e k (by omega) (by omega)), h.2.1.of (fun k a c => e k (by omega) (by omega)), h.2.2.1.of (fun k a c => e k (by omega) (by omega)), h.2.2.2.of (fun k a c => e k (by omega) (by omega))⟩
def zrl (J : zJ) (r u t : Int) : zJ := zup (zup (zup J 165 (r + 10 + 2 * J 165 (r + 9)) u) 165 (r + 10 + 2 * J 165 (r + 9) + 1) t) 165 (r + 9) (J 165 (r + 9) + 1)
def zen (J : zJ) (r t : Int) : zJ := zup (zup J 165 (r + 27 + J 165 (r + 26)) t) 165 (r + 26) (J 165 (r + 26) + 1)
theorem zrl_at {J : zJ} {r u t : Int} (k : Int) : zrl J r u t 165 k = if k = r + 9 then J 165 (r + 9) + 1 else if k = r + 10 + 2 * J 165 (r + 9) + 1 then t else if k = r + 10 + 2 * J 165 (r + 9) then u else J 165 k := rfl
theorem zen_at {J : zJ} {r t : Int} (k : Int) : zen J r t 165 k = if k = r + 26 then J 165 (r + 26) + 1 else if k = r + 27 + J 165 (r + 26) then t else J 165 k := rfl
theorem zrl_of {J : zJ} {r u t : Int} : zOf (zbut [165]) (zrl J r u t) J := zOf.up rfl (zOf.up rfl (zOf.up rfl zOf.rf))
theorem zen_of {J : zJ} {r t : Int} : zOf (zbut [165]) (zen J r t) J := zOf.up rfl (zOf.up rfl zOf.rf)
theorem ML.rl {J : zJ} {r u t m : Int} (h : ML (fun k => J 165 (r + k)) m) (hK : J 165 (r + 9) < 8) (hu : 0 ≤ u ∧ u < m) (ht : 0 ≤ t ∧ t < m) : ML (fun k => zrl J r u t 165 (r + k)) m := by
  have h9 : 0 ≤ J 165 (r + 9) ∧ J 165 (r + 9) ≤ 8 := h.1.1
  have e : ∀ k, zrl J r u t 165 k = if k = r + 9 then J 165 (r + 9) + 1 else if k = r + 10 + 2 * J 165 (r + 9) + 1 then t else if k = r + 10 + 2 * J 165 (r + 9) then u else J 165 k := fun k => rfl
  have hs : ∀ k, 0 ≤ k → k < J 165 (r + 9) → (0 ≤ J 165 (r + (10 + 2 * k)) ∧ J 165 (r + (10 + 2 * k)) < m) ∧ 0 ≤ J 165 (r + (10 + 2 * k + 1)) ∧ J 165 (r + (10 + 2 * k + 1)) < m := h.1.2
  generalize zrl J r u t = J9 at e
  refine ⟨⟨?_, fun k a c => ?_⟩, h.2.1.of (fun k a c => ?_), h.2.2.1.of (fun k a c => ?_), h.2.2.2.of (fun k a c => ?_)⟩
  · show 0 ≤ J9 165 (r + 9) ∧ J9 165 (r + 9) ≤ 8
    rw [e, if_pos rfl]; omega
  · have c9 : k < J9 165 (r + 9) := c
    rw [e, if_pos rfl] at c9
    show (0 ≤ J9 165 (r + (10 + 2 * k)) ∧ J9 165 (r + (10 + 2 * k)) < m) ∧ 0 ≤ J9 165 (r + (10 + 2 * k + 1)) ∧ J9 165 (r + (10 + 2 * k + 1)) < m
    by_cases q : k = J 165 (r + 9)
    · rw [e (r + (10 + 2 * k)), if_neg (by omega), if_neg (by omega), if_pos (by omega), e (r + (10 + 2 * k + 1)), if_neg (by omega), if_pos (by omega)]
      exact ⟨hu, ht⟩
    · rw [e (r + (10 + 2 * k)), if_neg (by omega), if_neg (by omega), if_neg (by omega), e (r + (10 + 2 * k + 1)), if_neg (by omega), if_neg (by omega), if_neg (by omega)]
      exact hs k a (by omega)
  · show J9 165 (r + k) = J 165 (r + k)
    rw [e, if_neg (by omega), if_neg (by omega), if_neg (by omega)]
  · show J9 165 (r + k) = J 165 (r + k)
    rw [e, if_neg (by omega), if_neg (by omega), if_neg (by omega)]
  · show J9 165 (r + k) = J 165 (r + k)
    rw [e, if_neg (by omega), if_neg (by omega), if_neg (by omega)]
theorem ML.en {J : zJ} {r t m : Int} (h : ML (fun k => J 165 (r + k)) m) (hK : J 165 (r + 26) < 12) (ht : 0 ≤ t ∧ t < m) : ML (fun k => zen J r t 165 (r + k)) m := by
  have h9 : 0 ≤ J 165 (r + 26) ∧ J 165 (r + 26) ≤ 12 := h.2.2.1.1
  have e : ∀ k, zen J r t 165 k = if k = r + 26 then J 165 (r + 26) + 1 else if k = r + 27 + J 165 (r + 26) then t else J 165 k := fun k => rfl
  have hs : ∀ k, 0 ≤ k → k < J 165 (r + 26) → 0 ≤ J 165 (r + (27 + k)) ∧ J 165 (r + (27 + k)) < m := h.2.2.1.2
  generalize zen J r t = J9 at e
  refine ⟨h.1.of (fun k a c => ?_), h.2.1.of (fun k a c => ?_), ⟨?_, fun k a c => ?_⟩, h.2.2.2.of (fun k a c => ?_)⟩
  · show J9 165 (r + k) = J 165 (r + k)
    rw [e, if_neg (by omega), if_neg (by omega)]
  · show J9 165 (r + k) = J 165 (r + k)
    rw [e, if_neg (by omega), if_neg (by omega)]
  · show 0 ≤ J9 165 (r + 26) ∧ J9 165 (r + 26) ≤ 12
    rw [e, if_pos rfl]; omega
  · have c9 : k < J9 165 (r + 26) := c
    rw [e, if_pos rfl] at c9
    show 0 ≤ J9 165 (r + (27 + k)) ∧ J9 165 (r + (27 + k)) < m
    by_cases q : k = J 165 (r + 26)
    · rw [e, if_neg (by omega), if_pos (by omega)]
      exact ht
    · rw [e, if_neg (by omega), if_neg (by omega)]
      exact hs k a (by omega)
  · show J9 165 (r + k) = J 165 (r + k)
    rw [e, if_neg (by omega), if_neg (by omega)]
set_option maxHeartbeats 4000000 in
set_option maxRecDepth 100000 in
theorem m_rules1 {l : Launch} {G : tb_G} (hl : l.stackTraces = false) (n : Nat) (J : zJ) (u : Int) (t : Int) (hr_u : -2147483648 ≤ u ∧ u < 2147483648) (hr_t : -2147483648 ≤ t ∧ t < 2147483648) (r : Int) (h16 : J 164 16 = r) (hr : 0 ≤ r ∧ r ≤ 126) (hK : 0 ≤ J 165 (r + 9) ∧ J 165 (r + 9) < 8) : tz_Ok l G M_X12_rules1 0 0 0 [.ref 164, zi u, zi t] n J (zqv (fun J' => zrl J r u t = J')) zN := by
  refine tz_Ok.of hl (by decide +kernel) rfl (tb_c1 rfl) (Nat.le_of_ble_eq_true rfl) ?_
  show tz_At l G M_X12_rules1 (tb_rm 0 0 0) none (tb_ZM G 0 0 (zQ n 0 (zqv (fun J' => zrl J r u t = J'))) (zX n 0 zN)) 0 0 n J 0 [some (.ref 164), some (zi u), some (zi t), none] []
  refine tz_aload_n (pc := 0) dX12_rules1_0 rfl rfl ?_
  refine tz_fR (pc := 1) dX12_rules1_1 fl_X12_9 r_164_0 ?_
  refine tz_aload_n (pc := 4) dX12_rules1_4 rfl rfl ?_
  refine tz_fI (pc := 5) (kz := 16) (v := r) dX12_rules1_5 fl_X12_85 i_164_16 rfl h16 (fun r_5 => ?_)
  refine tz_bipush (pc := 8) dX12_rules1_8 (by decide) ?_
  refine tz_iadd (pc := 10) (v := r + 9) dX12_rules1_10 rfl ?_
  refine tz_aL (pc := 11) (z := (r + 9)) (v := (J 165 (r + 9))) dX12_rules1_11 a_165 rfl (by omega) rfl (fun r_11 => ?_)
  refine tz_istore_n (pc := 12) (L2 := [_, _, _, _]) dX12_rules1_12 rfl (by decide) rfl ?_
  refine tz_aload_n (pc := 13) dX12_rules1_13 rfl rfl ?_
  refine tz_fR (pc := 14) dX12_rules1_14 fl_X12_9 r_164_0 ?_
  refine tz_aload_n (pc := 17) dX12_rules1_17 rfl rfl ?_
  refine tz_fI (pc := 18) (kz := 16) (v := r) dX12_rules1_18 fl_X12_85 i_164_16 rfl h16 (fun r_18 => ?_)
  refine tz_bipush (pc := 21) dX12_rules1_21 (by decide) ?_
  refine tz_iadd (pc := 23) (v := r + 10) dX12_rules1_23 rfl ?_
  refine tz_iconst (pc := 24) dX12_rules1_24 ?_
  refine tz_iload_n (pc := 25) dX12_rules1_25 rfl rfl ?_
  refine tz_imul (pc := 26) (v := 2 * (J 165 (r + 9))) dX12_rules1_26 rfl ?_
  refine tz_iadd (pc := 27) (v := (r + 10) + (2 * (J 165 (r + 9)))) dX12_rules1_27 rfl ?_
  refine tz_iload_n (pc := 28) dX12_rules1_28 rfl rfl ?_
  refine tz_aS (pc := 29) (z := ((r + 10) + (2 * (J 165 (r + 9))))) dX12_rules1_29 a_165 rfl (by omega) (by omega) ?_
  refine tz_aload_n (pc := 30) dX12_rules1_30 rfl rfl ?_
  refine tz_fR (pc := 31) dX12_rules1_31 fl_X12_9 r_164_0 ?_
  refine tz_aload_n (pc := 34) dX12_rules1_34 rfl rfl ?_
  refine tz_fI (pc := 35) (kz := 16) (v := r) dX12_rules1_35 fl_X12_85 i_164_16 rfl h16 (fun r_35 => ?_)
  refine tz_bipush (pc := 38) dX12_rules1_38 (by decide) ?_
  refine tz_iadd (pc := 40) (v := r + 10) dX12_rules1_40 rfl ?_
  refine tz_iconst (pc := 41) dX12_rules1_41 ?_
  refine tz_iload_n (pc := 42) dX12_rules1_42 rfl rfl ?_
  refine tz_imul (pc := 43) (v := 2 * (J 165 (r + 9))) dX12_rules1_43 rfl ?_
  refine tz_iadd (pc := 44) (v := (r + 10) + (2 * (J 165 (r + 9)))) dX12_rules1_44 rfl ?_
  refine tz_iconst (pc := 45) dX12_rules1_45 ?_
  refine tz_iadd (pc := 46) (v := ((r + 10) + (2 * (J 165 (r + 9)))) + 1) dX12_rules1_46 rfl ?_
  refine tz_iload_n (pc := 47) dX12_rules1_47 rfl rfl ?_
  refine tz_aS (pc := 48) (z := (((r + 10) + (2 * (J 165 (r + 9)))) + 1)) dX12_rules1_48 a_165 rfl (by omega) (by omega) ?_
  refine tz_aload_n (pc := 49) dX12_rules1_49 rfl rfl ?_
  refine tz_fR (pc := 50) dX12_rules1_50 fl_X12_9 r_164_0 ?_
  refine tz_aload_n (pc := 53) dX12_rules1_53 rfl rfl ?_
  refine tz_fI (pc := 54) (kz := 16) (v := r) dX12_rules1_54 fl_X12_85 i_164_16 rfl h16 (fun r_54 => ?_)
  refine tz_bipush (pc := 57) dX12_rules1_57 (by decide) ?_
  refine tz_iadd (pc := 59) (v := r + 9) dX12_rules1_59 rfl ?_
  refine tz_dup2 (pc := 60) dX12_rules1_60 rfl rfl ?_
  refine tz_aL (pc := 61) (z := (r + 9)) (v := (J 165 (r + 9))) dX12_rules1_61 a_165 rfl (by omega) (Eq.trans (show zup _ 165 (((r + 10) + (2 * (J 165 (r + 9)))) + 1) t 165 (r + 9) = _ from zup_ne (by omega)) (Eq.trans (show zup _ 165 ((r + 10) + (2 * (J 165 (r + 9)))) u 165 (r + 9) = _ from zup_ne (by omega)) rfl)) (fun r_61 => ?_)
  refine tz_iconst (pc := 62) dX12_rules1_62 ?_
  refine tz_iadd (pc := 63) (v := (J 165 (r + 9)) + 1) dX12_rules1_63 rfl ?_
  refine tz_aS (pc := 64) (z := (r + 9)) dX12_rules1_64 a_165 rfl (by omega) (by omega) ?_
  exact tz_vret (pc := 65) dX12_rules1_65 rfl (Nat.le_of_ble_eq_true rfl) (Nat.le_of_ble_eq_true rfl) ⟨Nat.le_refl _, Nat.le_add_right _ _⟩ ⟨rfl, rfl⟩

set_option maxHeartbeats 4000000 in
set_option maxRecDepth 100000 in
theorem m_enters1 {l : Launch} {G : tb_G} (hl : l.stackTraces = false) (n : Nat) (J : zJ) (t : Int) (hr_t : -2147483648 ≤ t ∧ t < 2147483648) (r : Int) (h16 : J 164 16 = r) (hr : 0 ≤ r ∧ r ≤ 126) (hK : 0 ≤ J 165 (r + 26) ∧ J 165 (r + 26) < 12) : tz_Ok l G M_X12_enters1 0 0 0 [.ref 164, zi t] n J (zqv (fun J' => zen J r t = J')) zN := by
  refine tz_Ok.of hl (by decide +kernel) rfl (tb_c1 rfl) (Nat.le_of_ble_eq_true rfl) ?_
  show tz_At l G M_X12_enters1 (tb_rm 0 0 0) none (tb_ZM G 0 0 (zQ n 0 (zqv (fun J' => zen J r t = J'))) (zX n 0 zN)) 0 0 n J 0 [some (.ref 164), some (zi t)] []
  refine tz_aload_n (pc := 0) dX12_enters1_0 rfl rfl ?_
  refine tz_fR (pc := 1) dX12_enters1_1 fl_X12_9 r_164_0 ?_
  refine tz_aload_n (pc := 4) dX12_enters1_4 rfl rfl ?_
  refine tz_fI (pc := 5) (kz := 16) (v := r) dX12_enters1_5 fl_X12_85 i_164_16 rfl h16 (fun r_5 => ?_)
  refine tz_bipush (pc := 8) dX12_enters1_8 (by decide) ?_
  refine tz_iadd (pc := 10) (v := r + 27) dX12_enters1_10 rfl ?_
  refine tz_aload_n (pc := 11) dX12_enters1_11 rfl rfl ?_
  refine tz_fR (pc := 12) dX12_enters1_12 fl_X12_9 r_164_0 ?_
  refine tz_aload_n (pc := 15) dX12_enters1_15 rfl rfl ?_
  refine tz_fI (pc := 16) (kz := 16) (v := r) dX12_enters1_16 fl_X12_85 i_164_16 rfl h16 (fun r_16 => ?_)
  refine tz_bipush (pc := 19) dX12_enters1_19 (by decide) ?_
  refine tz_iadd (pc := 21) (v := r + 26) dX12_enters1_21 rfl ?_
  refine tz_aL (pc := 22) (z := (r + 26)) (v := (J 165 (r + 26))) dX12_enters1_22 a_165 rfl (by omega) rfl (fun r_22 => ?_)
  refine tz_iadd (pc := 23) (v := (r + 27) + (J 165 (r + 26))) dX12_enters1_23 rfl ?_
  refine tz_iload_n (pc := 24) dX12_enters1_24 rfl rfl ?_
  refine tz_aS (pc := 25) (z := ((r + 27) + (J 165 (r + 26)))) dX12_enters1_25 a_165 rfl (by omega) (by omega) ?_
  refine tz_aload_n (pc := 26) dX12_enters1_26 rfl rfl ?_
  refine tz_fR (pc := 27) dX12_enters1_27 fl_X12_9 r_164_0 ?_
  refine tz_aload_n (pc := 30) dX12_enters1_30 rfl rfl ?_
  refine tz_fI (pc := 31) (kz := 16) (v := r) dX12_enters1_31 fl_X12_85 i_164_16 rfl h16 (fun r_31 => ?_)
  refine tz_bipush (pc := 34) dX12_enters1_34 (by decide) ?_
  refine tz_iadd (pc := 36) (v := r + 26) dX12_enters1_36 rfl ?_
  refine tz_dup2 (pc := 37) dX12_enters1_37 rfl rfl ?_
  refine tz_aL (pc := 38) (z := (r + 26)) (v := (J 165 (r + 26))) dX12_enters1_38 a_165 rfl (by omega) (Eq.trans (show zup _ 165 ((r + 27) + (J 165 (r + 26))) t 165 (r + 26) = _ from zup_ne (by omega)) rfl) (fun r_38 => ?_)
  refine tz_iconst (pc := 39) dX12_enters1_39 ?_
  refine tz_iadd (pc := 40) (v := (J 165 (r + 26)) + 1) dX12_enters1_40 rfl ?_
  refine tz_aS (pc := 41) (z := (r + 26)) dX12_enters1_41 a_165 rfl (by omega) (by omega) ?_
  exact tz_vret (pc := 42) dX12_enters1_42 rfl (Nat.le_of_ble_eq_true rfl) (Nat.le_of_ble_eq_true rfl) ⟨Nat.le_refl _, Nat.le_add_right _ _⟩ ⟨rfl, rfl⟩

/-! ===== the clauses of a text ===== -/
def clF : List Int := [21, 44, 45, 35, 36, 38, 39, 40, 41, 42, 43, 20]
/-- what a clause leaves as it was -/
def CLf (J' J : zJ) : Prop := zOf (zbut [164, 165, 166, 167, 168, 169, 170, 171]) J' J ∧ (∀ k, (k < 126 ∨ 189 ≤ k) → J' 165 k = J 165 k) ∧ (∀ k, k < 800 → J' 166 k = J 166 k ∧ J' 168 k = J 168 k) ∧ (∀ k, k < 2400 → J' 167 k = J 167 k) ∧ (∀ k, k < 10 → J' 169 k = J 169 k ∧ J' 170 k = J 170 k ∧ J' 171 k = J 171 k) ∧ (∀ k, clF.contains k = false → J' 164 k = J 164 k)
theorem CLf.rf {J : zJ} : CLf J J := ⟨zOf.rf, fun _ _ => rfl, fun _ _ => ⟨rfl, rfl⟩, fun _ _ => rfl, fun _ _ => ⟨rfl, rfl, rfl⟩, fun _ _ => rfl⟩
theorem CLf.tr {J3 J2 J1 : zJ} (h : CLf J3 J2) (g : CLf J2 J1) : CLf J3 J1 := ⟨h.1.tr g.1, fun k q => (h.2.1 k q).trans (g.2.1 k q), fun k q => ⟨(h.2.2.1 k q).1.trans (g.2.2.1 k q).1, (h.2.2.1 k q).2.trans (g.2.2.1 k q).2⟩, fun k q => (h.2.2.2.1 k q).trans (g.2.2.2.1 k q), fun k q => ⟨(h.2.2.2.2.1 k q).1.trans (g.2.2.2.2.1 k q).1, (h.2.2.2.2.1 k q).2.1.trans (g.2.2.2.2.1 k q).2.1, (h.2.2.2.2.1 k q).2.2.trans (g.2.2.2.2.1 k q).2.2⟩, fun k q => (h.2.2.2.2.2 k q).trans (g.2.2.2.2.2 k q)⟩
theorem clF_no {k : Int} (h : clF.contains k = false) : (21 :: rtF).contains k = false ∧ ¬ k = 44 ∧ ¬ k = 45 ∧ rdF k = false ∧ ¬ k = 43 ∧ ¬ k = 20 := by
  simp [clF] at h
  simp [rtF, rdF]
  omega
theorem CLf.rt {J' J : zJ} {s m m' : Int} (g : MRT J' J s m m') : CLf J' J := by
  obtain ⟨f1, f2, f3, f4⟩ := g.1.2.2.1
  exact ⟨f4.mono (zbut_sub (fun c hc => by simp at hc ⊢; omega)), fun k q => f2 k (by omega) rfl, fun k q => f1.1 k (by omega), fun k q => f1.2 k (by omega), fun k q => ⟨by rw [f4 169 rfl], by rw [f4 170 rfl], by rw [f4 171 rfl]⟩, fun k q => f3 k (clF_no q).1⟩
theorem CLf.r5 {J' J : zJ} (f : zOf (zbut [165]) J' J) (h : ∀ k, (k < 126 ∨ 189 ≤ k) → J' 165 k = J 165 k) : CLf J' J := ⟨f.mono (zbut_sub (fun c hc => by simp at hc ⊢; omega)), h, fun k _ => ⟨by rw [f 166 rfl], by rw [f 168 rfl]⟩, fun k _ => by rw [f 167 rfl], fun k _ => ⟨by rw [f 169 rfl], by rw [f 170 rfl], by rw [f 171 rfl]⟩, fun k _ => by rw [f 164 rfl]⟩
theorem CLf.sy {J' J : zJ} (h : RSy J' J) (h0 : 0 ≤ J 164 44) : CLf J' J := ⟨h.1.1.mono (zbut_sub (fun c hc => by simp at hc ⊢; omega)), fun k _ => by rw [h.1.1 165 rfl], fun k _ => ⟨by rw [h.1.1 166 rfl], by rw [h.1.1 168 rfl]⟩, fun k _ => by rw [h.1.1 167 rfl], fun k q => h.2.2.2.2.2.2.1 k (by omega), fun k q => h.1.2 k (clF_no q).2.2.2.1 (clF_no q).2.2.2.2.1 (clF_no q).2.2.2.2.2 (clF_no q).2.1⟩
/-- the text's table, rows and reading are sound -/
def TI (J : zJ) (s m : Int) : Prop := MS J 800 126 10 s m ∧ J 164 44 = s ∧ RSP J ∧ (J 164 21 = 0 ∨ 0 < m) ∧ ML (fun k => J 165 (126 + k)) m ∧ J 165 166 = 0
def CL (J' J : zJ) : Prop := CLf J' J ∧ (∃ s m, TI J' s m) ∧ (J' 164 43 = 0 → J 164 43 = 0) ∧ rmu J' ≤ rmu J
theorem TI.rt {J' J : zJ} {s m m' : Int} (h : TI J s m) (g : MRT J' J s m m') : TI J' s m' := ⟨g.1.1.1, (g.f 44 rfl).trans h.2.1, g.2.1, g.2.2.2.2, (h.2.2.2.2.1.mono g.1.1.2).of (fun k a c => g.1.2.2.1.2.1 (126 + k) (by omega) rfl), (g.1.2.2.1.2.1 166 (by decide) rfl).trans h.2.2.2.2.2⟩
theorem CL.rt {J' J : zJ} {s m m' : Int} (h : TI J s m) (g : MRT J' J s m m') : CL J' J := ⟨CLf.rt g, ⟨s, m', h.rt g⟩, g.2.2.1, g.2.2.2.1⟩
theorem CL.tr {J3 J2 J1 : zJ} (h : CL J3 J2) (g : CL J2 J1) : CL J3 J1 := ⟨h.1.tr g.1, h.2.1, fun q => g.2.2.1 (h.2.2.1 q), Int.le_trans h.2.2.2 g.2.2.2⟩
theorem RSP.of {J' J : zJ} (h : RSP J) (e : ∀ k, 35 ≤ k → k ≤ 42 → J' 164 k = J 164 k) : RSP J' := by
  unfold RSP RSz
  rw [e 37 (by decide) (by decide), e 35 (by decide) (by decide), e 36 (by decide) (by decide), e 42 (by decide) (by decide), e 38 (by decide) (by decide)]
  exact h
theorem TI.r5 {J' J : zJ} {s m : Int} (h : TI J s m) (f : zOf (zbut [165]) J' J) (e : J' 165 126 = J 165 126) (e9 : J' 165 166 = J 165 166) (hl : ML (fun k => J' 165 (126 + k)) m) : TI J' s m := by
  have e4 := f 164 rfl
  refine ⟨h.1.of ⟨by rw [e4], by rw [e4], by rw [e4]⟩ e (f _ rfl) (f _ rfl) (f _ rfl) (f _ rfl), by rw [e4]; exact h.2.1, h.2.2.1.of (fun k _ _ => by rw [e4]), by rw [e4]; exact h.2.2.2.1, hl, e9.trans h.2.2.2.2.2⟩
theorem CL.r5 {J' J : zJ} {s m : Int} (h : TI J' s m) (f : zOf (zbut [165]) J' J) (g : CLf J' J) : CL J' J := ⟨g, ⟨s, m, h⟩, by rw [f 164 rfl]; exact id, by unfold rmu; rw [f 164 rfl]; exact Int.le_refl _⟩
theorem CL.rl {J : zJ} {s m u t : Int} (h : TI J s m) (hK : J 165 (126 + 9) < 8) (hu : 0 ≤ u ∧ u < m) (ht : 0 ≤ t ∧ t < m) : CL (zrl J 126 u t) J := by
  have h9 : 0 ≤ J 165 (126 + 9) ∧ J 165 (126 + 9) ≤ 8 := h.2.2.2.2.1.1.1
  exact CL.r5 (h.r5 zrl_of (by rw [zrl_at, if_neg (by omega), if_neg (by omega), if_neg (by omega)]) (by rw [zrl_at, if_neg (by omega), if_neg (by omega), if_neg (by omega)]) (h.2.2.2.2.1.rl hK hu ht)) zrl_of (CLf.r5 zrl_of (fun k q => by rw [zrl_at, if_neg (by omega), if_neg (by omega), if_neg (by omega)]))
theorem CL.en {J : zJ} {s m t : Int} (h : TI J s m) (hK : J 165 (126 + 26) < 12) (ht : 0 ≤ t ∧ t < m) : CL (zen J 126 t) J := by
  have h9 : 0 ≤ J 165 (126 + 26) ∧ J 165 (126 + 26) ≤ 12 := h.2.2.2.2.1.2.2.1.1
  exact CL.r5 (h.r5 zen_of (by rw [zen_at, if_neg (by omega), if_neg (by omega)]) (by rw [zen_at, if_neg (by omega), if_neg (by omega)]) (h.2.2.2.2.1.en hK ht)) zen_of (CLf.r5 zen_of (fun k q => by rw [zen_at, if_neg (by omega), if_neg (by omega)]))
theorem CL.sy {J' J : zJ} {s m : Int} (h : TI J s m) (g : RSy J' J) : CL J' J := by
  obtain ⟨⟨f1, f2⟩, p1, p2, p3, p4, p5, p6, p7⟩ := id g
  obtain ⟨t1, t2, t3, t4, t5⟩ := id h
  subst t2
  have hT := t1.told
  have f4 : ∀ k, clF.contains k = false → J' 164 k = J 164 k := (CLf.sy g (by omega)).2.2.2.2.2
  refine ⟨CLf.sy g (by omega), ⟨J' 164 44, m, ⟨t1.1, (f4 15 rfl).trans t1.2.1, (f4 16 rfl).trans t1.2.2.1, (f4 17 rfl).trans t1.2.2.2.1, by rw [f1 165 rfl]; exact t1.2.2.2.2.1, ?_⟩, rfl, p1, by rw [f2 21 rfl (by decide) (by decide) (by decide)]; exact t4, t5.1.of (fun k _ _ => by rw [f1 165 rfl]), by rw [f1 165 rfl]; exact t5.2⟩, p2, p3⟩
  unfold MTT
  rw [f1 166 rfl, f1 167 rfl, f1 168 rfl]
  refine t1.2.2.2.2.2.congr ⟨p5, fun k a c => ?_⟩ (by omega) (fun k a c => (p6 (10 + k) (by omega)).2.1) (fun _ _ _ => rfl) (fun _ _ _ _ _ _ => rfl) (fun _ _ _ => rfl)
  by_cases q : k = J 164 44
  · subst q
    exact p7 (by omega)
  · show 0 ≤ J' 170 (10 + k) ∧ J' 170 (10 + k) ≤ 3
    rw [show J' 170 (10 + k) = J 170 (10 + k) from (p6 (10 + k) (by omega)).2.1]
    exact t1.2.2.2.2.2.1.2 k a (by omega)
set_option maxHeartbeats 4000000 in
set_option maxRecDepth 100000 in
theorem m_rule1 {l : Launch} {G : tb_G} (hl : l.stackTraces = false) (n : Nat) (J : zJ)   (s m : Int) (hI : TI J s m) : tz_Ok l G M_X12_rule1 21 0 0 [.ref 164] n J (zqv (fun J' => CL J' J)) zN := by
  refine tz_Ok.of hl (by decide +kernel) rfl (tb_c1 rfl) (Nat.le_of_ble_eq_true rfl) ?_
  show tz_At l G M_X12_rule1 (tb_rm 21 0 0) none (tb_ZM G 0 0 (zQ n 0 (zqv (fun J' => CL J' J))) (zX n 0 zN)) 0 0 n J 0 [some (.ref 164), none, none] []
  obtain ⟨hM, h44, hP, hu, hL, h66⟩ := id hI
  have hT := hM.told
  have g0 := MRT.rf hM hP hu
  have hL9 : 0 ≤ J 165 135 ∧ J 165 135 ≤ 8 := hL.1.1
  have hL8 : 0 ≤ J 165 152 ∧ J 165 152 ≤ 12 := hL.2.2.1.1
  refine tz_aload_n (pc := 0) dX12_rule1_0 rfl rfl ?_
  refine tz_aload_n (pc := 1) dX12_rule1_1 rfl rfl ?_
  refine tz_fR (pc := 2) dX12_rule1_2 fl_X12_9 r_164_0 ?_
  refine tz_sipush (pc := 5) dX12_rule1_5 (by decide) ?_
  refine tz_aL (pc := 8) (z := 135) (v := (J 165 135)) dX12_rule1_8 a_165 rfl (by decide) rfl (fun r_8 => ?_)
  refine tz_bipush (pc := 9) dX12_rule1_9 (by decide) ?_
  refine tz_icmp_ge (pc := 11) (tgt := 18) dX12_rule1_11 (by decide) (by omega) (by decide) (fun h_11 => ?_) (fun h_11 => ?_)
  · refine tz_iconst (pc := 18) dX12_rule1_18 ?_
    refine tz_iconst (pc := 19) dX12_rule1_19 ?_
    refine tz_cV (pc := 20) (m_wantsW hl n _ _ _ (by decide) (by decide) (g0).2.1 (by decide)) vl_X12_276 dX12_rule1_20 o_164 rfl rfl (Nat.le_of_ble_eq_true rfl) ⟨(Nat.le_of_ble_eq_true rfl), (Nat.le_of_ble_eq_true rfl)⟩ rfl rfl (Nat.le_of_ble_eq_true rfl) (Nat.le_of_ble_eq_true rfl) (fun r9 J_20 hq9 => ?_)
    obtain ⟨z_20, rfl, hz_20, w_20, b_20, c_20, d_20⟩ := hq9
    have q_20 := MRT.w g0 w_20
    obtain rfl : z_20 = 0 := by rcases b_20 with e9 | e9; exact e9; exact absurd rfl (c_20 e9).2.2
    have v_20 := d_20 rfl
    clear b_20 c_20 d_20
    refine tz_if_neF (pc := 23) (tgt := 27) (by decide) dX12_rule1_23 (by decide) (by decide) ?_
    exact tz_vret (pc := 26) dX12_rule1_26 rfl (Nat.le_of_ble_eq_true rfl) (Nat.le_of_ble_eq_true rfl) ⟨Nat.le_refl _, Nat.le_add_right _ _⟩ ⟨rfl, CL.rt hI q_20⟩
  · refine tz_iconst (pc := 14) dX12_rule1_14 ?_
    refine tz_goto (pc := 15) (tgt := 19) dX12_rule1_15 (by decide) ?_
    refine tz_iconst (pc := 19) dX12_rule1_19 ?_
    refine tz_cV (pc := 20) (m_wantsW hl n _ _ _ (by decide) (by decide) (g0).2.1 (by decide)) vl_X12_276 dX12_rule1_20 o_164 rfl rfl (Nat.le_of_ble_eq_true rfl) ⟨(Nat.le_of_ble_eq_true rfl), (Nat.le_of_ble_eq_true rfl)⟩ rfl rfl (Nat.le_of_ble_eq_true rfl) (Nat.le_of_ble_eq_true rfl) (fun r9 J_20 hq9 => ?_)
    obtain ⟨z_20, rfl, hz_20, w_20, b_20, c_20, d_20⟩ := hq9
    have q_20 := MRT.w g0 w_20
    have o_20 : (z_20 = 0 ∧ ¬ J_20 164 43 = 0) ∨ (z_20 = 1 ∧ J_20 164 43 = 0) := by rcases b_20 with e9 | e9; exact Or.inl ⟨e9, d_20 e9⟩; exact Or.inr ⟨e9, (c_20 e9).2.1⟩
    clear b_20 c_20 d_20
    have i_20 := w_20.2.2.1
    rcases o_20 with ⟨rfl, v_20⟩ | ⟨rfl, v_20⟩
    · refine tz_if_neF (pc := 23) (tgt := 27) (by decide) dX12_rule1_23 (by decide) (by decide) ?_
      exact tz_vret (pc := 26) dX12_rule1_26 rfl (Nat.le_of_ble_eq_true rfl) (Nat.le_of_ble_eq_true rfl) ⟨Nat.le_refl _, Nat.le_add_right _ _⟩ ⟨rfl, CL.rt hI q_20⟩
    · refine tz_if_neT (pc := 23) (tgt := 27) (by decide) dX12_rule1_23 (by decide) (by decide) ?_
      refine tz_aload_n (pc := 27) dX12_rule1_27 rfl rfl ?_
      refine tz_cV (pc := 28) (m_goW hl n _ (q_20).2.1) vl_X12_280 dX12_rule1_28 o_164 rfl rfl (Nat.le_of_ble_eq_true rfl) ⟨(Nat.le_of_ble_eq_true rfl), (Nat.le_of_ble_eq_true rfl)⟩ rfl rfl (Nat.le_of_ble_eq_true rfl) (Nat.le_of_ble_eq_true rfl) (fun r9 J_28 hq9 => ?_)
      obtain ⟨rfl, w_28, b_28⟩ := hq9
      have q_28 := MRT.w q_20 w_28
      refine tz_aload_n (pc := 31) dX12_rule1_31 rfl rfl ?_
      refine tz_iconst (pc := 32) dX12_rule1_32 ?_
      refine tz_cV (pc := 33) (m_term1 hl n _ s m (q_28).1.1.1 (q_28).2.1 (q_28).2.2.2.2 (((q_28).f 44 rfl).trans h44)) vl_X12_298 dX12_rule1_33 o_164 rfl rfl (Nat.le_of_ble_eq_true rfl) ⟨(Nat.le_of_ble_eq_true rfl), (Nat.le_of_ble_eq_true rfl)⟩ rfl rfl (Nat.le_of_ble_eq_true rfl) (Nat.le_of_ble_eq_true rfl) (fun r9 J_33 hq9 => ?_)
      obtain ⟨z_33, rfl, hz_33, m_33, w_33, h_33⟩ := hq9
      have q_33 := MRT.tr q_28 w_33
      have l_33 := w_33.1.1.2
      have i_33 := w_33.2.2.1
      unfold TV at h_33
      refine tz_istore_n (pc := 36) (L2 := [_, _, _]) dX12_rule1_36 rfl (by decide) rfl ?_
      refine tz_aload_n (pc := 37) dX12_rule1_37 rfl rfl ?_
      refine tz_fI (pc := 38) (kz := 43) (v := (J_33 164 43)) dX12_rule1_38 fl_X12_273 i_164_43 rfl rfl (fun r_38 => ?_)
      refine tz_if_ne (pc := 41) (tgt := 69) dX12_rule1_41 (by decide) (by omega) (fun h_41 => ?_) (fun h_41 => ?_)
      · refine tz_aload_n (pc := 69) dX12_rule1_69 rfl rfl ?_
        refine tz_iconst (pc := 70) dX12_rule1_70 ?_
        refine tz_cV (pc := 71) (m_term1 hl n _ s m_33 (q_33).1.1.1 (q_33).2.1 (q_33).2.2.2.2 (((q_33).f 44 rfl).trans h44)) vl_X12_298 dX12_rule1_71 o_164 rfl rfl (Nat.le_of_ble_eq_true rfl) ⟨(Nat.le_of_ble_eq_true rfl), (Nat.le_of_ble_eq_true rfl)⟩ rfl rfl (Nat.le_of_ble_eq_true rfl) (Nat.le_of_ble_eq_true rfl) (fun r9 J_71 hq9 => ?_)
        obtain ⟨z_71, rfl, hz_71, m_71, w_71, h_71⟩ := hq9
        have q_71 := MRT.tr q_33 w_71
        have l_71 := w_71.1.1.2
        have i_71 := w_71.2.2.1
        unfold TV at h_71
        refine tz_istore_n (pc := 74) (L2 := [_, _, _]) dX12_rule1_74 rfl (by decide) rfl ?_
        refine tz_aload_n (pc := 75) dX12_rule1_75 rfl rfl ?_
        refine tz_fI (pc := 76) (kz := 43) (v := (J_71 164 43)) dX12_rule1_76 fl_X12_273 i_164_43 rfl rfl (fun r_76 => ?_)
        refine tz_if_ne (pc := 79) (tgt := 118) dX12_rule1_79 (by decide) (by omega) (fun h_79 => ?_) (fun h_79 => ?_)
        · exact tz_vret (pc := 118) dX12_rule1_118 rfl (Nat.le_of_ble_eq_true rfl) (Nat.le_of_ble_eq_true rfl) ⟨Nat.le_refl _, Nat.le_add_right _ _⟩ ⟨rfl, CL.rt hI q_71⟩
        · refine tz_aload_n (pc := 82) dX12_rule1_82 rfl rfl ?_
          refine tz_aload_n (pc := 83) dX12_rule1_83 rfl rfl ?_
          refine tz_fI (pc := 84) (kz := 42) (v := (J_71 164 42)) dX12_rule1_84 fl_X12_258 i_164_42 rfl rfl (fun r_84 => ?_)
          refine tz_bipush (pc := 87) dX12_rule1_87 (by decide) ?_
          refine tz_icmp_ne (pc := 89) (tgt := 96) dX12_rule1_89 (by decide) (by omega) (by decide) (fun h_89 => ?_) (fun h_89 => ?_)
          · refine tz_iconst (pc := 96) dX12_rule1_96 ?_
            refine tz_iconst (pc := 97) dX12_rule1_97 ?_
            refine tz_cV (pc := 98) (m_wantsW hl n _ _ _ (by decide) (by decide) (q_71).2.1 (by decide)) vl_X12_276 dX12_rule1_98 o_164 rfl rfl (Nat.le_of_ble_eq_true rfl) ⟨(Nat.le_of_ble_eq_true rfl), (Nat.le_of_ble_eq_true rfl)⟩ rfl rfl (Nat.le_of_ble_eq_true rfl) (Nat.le_of_ble_eq_true rfl) (fun r9 J_98 hq9 => ?_)
            obtain ⟨z_98, rfl, hz_98, w_98, b_98, c_98, d_98⟩ := hq9
            have q_98 := MRT.w q_71 w_98
            obtain rfl : z_98 = 0 := by rcases b_98 with e9 | e9; exact e9; exact absurd rfl (c_98 e9).2.2
            have v_98 := d_98 rfl
            clear b_98 c_98 d_98
            refine tz_if_eqT (pc := 101) (tgt := 118) (by decide) dX12_rule1_101 (by decide) (by decide) ?_
            exact tz_vret (pc := 118) dX12_rule1_118 rfl (Nat.le_of_ble_eq_true rfl) (Nat.le_of_ble_eq_true rfl) ⟨Nat.le_refl _, Nat.le_add_right _ _⟩ ⟨rfl, CL.rt hI q_98⟩
          · refine tz_iconst (pc := 92) dX12_rule1_92 ?_
            refine tz_goto (pc := 93) (tgt := 97) dX12_rule1_93 (by decide) ?_
            refine tz_iconst (pc := 97) dX12_rule1_97 ?_
            refine tz_cV (pc := 98) (m_wantsW hl n _ _ _ (by decide) (by decide) (q_71).2.1 (by decide)) vl_X12_276 dX12_rule1_98 o_164 rfl rfl (Nat.le_of_ble_eq_true rfl) ⟨(Nat.le_of_ble_eq_true rfl), (Nat.le_of_ble_eq_true rfl)⟩ rfl rfl (Nat.le_of_ble_eq_true rfl) (Nat.le_of_ble_eq_true rfl) (fun r9 J_98 hq9 => ?_)
            obtain ⟨z_98, rfl, hz_98, w_98, b_98, c_98, d_98⟩ := hq9
            have q_98 := MRT.w q_71 w_98
            have o_98 : (z_98 = 0 ∧ ¬ J_98 164 43 = 0) ∨ (z_98 = 1 ∧ J_98 164 43 = 0) := by rcases b_98 with e9 | e9; exact Or.inl ⟨e9, d_98 e9⟩; exact Or.inr ⟨e9, (c_98 e9).2.1⟩
            clear b_98 c_98 d_98
            have i_98 := w_98.2.2.1
            rcases o_98 with ⟨rfl, v_98⟩ | ⟨rfl, v_98⟩
            · refine tz_if_eqT (pc := 101) (tgt := 118) (by decide) dX12_rule1_101 (by decide) (by decide) ?_
              exact tz_vret (pc := 118) dX12_rule1_118 rfl (Nat.le_of_ble_eq_true rfl) (Nat.le_of_ble_eq_true rfl) ⟨Nat.le_refl _, Nat.le_add_right _ _⟩ ⟨rfl, CL.rt hI q_98⟩
            · refine tz_if_eqF (pc := 101) (tgt := 118) (by decide) dX12_rule1_101 (by decide) (by decide) ?_
              refine tz_aload_n (pc := 104) dX12_rule1_104 rfl rfl ?_
              refine tz_aload_n (pc := 105) dX12_rule1_105 rfl rfl ?_
              refine tz_iload_n (pc := 106) dX12_rule1_106 rfl rfl ?_
              refine tz_iload_n (pc := 107) dX12_rule1_107 rfl rfl ?_
              refine tz_cV (pc := 108) (m_isRule hl n _ _ _ (by omega) (by omega) 800 126 10 s m_71 (q_98).1.1.1 (by omega) (by omega)) vl_X12_301 dX12_rule1_108 o_164 rfl rfl (Nat.le_of_ble_eq_true rfl) ⟨(Nat.le_of_ble_eq_true rfl), (Nat.le_of_ble_eq_true rfl)⟩ rfl rfl (Nat.le_of_ble_eq_true rfl) (Nat.le_of_ble_eq_true rfl) (fun r9 J_108 hq9 => ?_)
              obtain ⟨z_108, rfl, hz_108, rfl, hr_108⟩ := hq9
              refine tz_iconst (pc := 111) dX12_rule1_111 ?_
              refine tz_cV (pc := 112) (m_wantsW hl n _ _ _ (by omega) (by decide) (q_98).2.1 (by decide)) vl_X12_276 dX12_rule1_112 o_164 rfl rfl (Nat.le_of_ble_eq_true rfl) ⟨(Nat.le_of_ble_eq_true rfl), (Nat.le_of_ble_eq_true rfl)⟩ rfl rfl (Nat.le_of_ble_eq_true rfl) (Nat.le_of_ble_eq_true rfl) (fun r9 J_112 hq9 => ?_)
              obtain ⟨z_112, rfl, hz_112, w_112, b_112, c_112, d_112⟩ := hq9
              have q_112 := MRT.w q_98 w_112
              have o_112 : (z_112 = 0 ∧ ¬ J_112 164 43 = 0) ∨ (z_112 = 1 ∧ J_112 164 43 = 0) := by rcases b_112 with e9 | e9; exact Or.inl ⟨e9, d_112 e9⟩; exact Or.inr ⟨e9, (c_112 e9).2.1⟩
              clear b_112 c_112 d_112
              have i_112 := w_112.2.2.1
              rcases o_112 with ⟨rfl, v_112⟩ | ⟨rfl, v_112⟩
              · refine tz_if_neF (pc := 115) (tgt := 119) (by decide) dX12_rule1_115 (by decide) (by decide) ?_
                exact tz_vret (pc := 118) dX12_rule1_118 rfl (Nat.le_of_ble_eq_true rfl) (Nat.le_of_ble_eq_true rfl) ⟨Nat.le_refl _, Nat.le_add_right _ _⟩ ⟨rfl, CL.rt hI q_112⟩
              · refine tz_if_neT (pc := 115) (tgt := 119) (by decide) dX12_rule1_115 (by decide) (by decide) ?_
                refine tz_aload_n (pc := 119) dX12_rule1_119 rfl rfl ?_
                refine tz_iload_n (pc := 120) dX12_rule1_120 rfl rfl ?_
                refine tz_iload_n (pc := 121) dX12_rule1_121 rfl rfl ?_
                have ro_122 : J_112 165 (126 + 9) = J 165 135 := ((q_112).1.2.2.1.2.1 135 (by decide) rfl)
                refine tz_cV (pc := 122) (m_rules1 hl n _ _ _ (by omega) (by omega) 126 (q_112).1.1.1.2.2.1 (by decide) (by omega)) vl_X12_304 dX12_rule1_122 o_164 rfl rfl (Nat.le_of_ble_eq_true rfl) ⟨(Nat.le_of_ble_eq_true rfl), (Nat.le_of_ble_eq_true rfl)⟩ rfl rfl (Nat.le_of_ble_eq_true rfl) (Nat.le_of_ble_eq_true rfl) (fun r9 J_122 hq9 => ?_)
                obtain ⟨rfl, j_122⟩ := hq9
                subst j_122
                exact tz_vret (pc := 125) dX12_rule1_125 rfl (Nat.le_of_ble_eq_true rfl) (Nat.le_of_ble_eq_true rfl) ⟨Nat.le_refl _, Nat.le_add_right _ _⟩ ⟨rfl, CL.tr (CL.rl (hI.rt q_112) (by omega) (by omega) (by omega)) (CL.rt hI q_112)⟩
      · refine tz_aload_n (pc := 44) dX12_rule1_44 rfl rfl ?_
        refine tz_aload_n (pc := 45) dX12_rule1_45 rfl rfl ?_
        refine tz_fI (pc := 46) (kz := 40) (v := (J_33 164 40)) dX12_rule1_46 fl_X12_249 i_164_40 rfl rfl (fun r_46 => ?_)
        refine tz_iconst (pc := 49) dX12_rule1_49 ?_
        refine tz_icmp_ne (pc := 50) (tgt := 57) dX12_rule1_50 (by decide) (by omega) (by decide) (fun h_50 => ?_) (fun h_50 => ?_)
        · refine tz_iconst (pc := 57) dX12_rule1_57 ?_
          refine tz_iconst (pc := 58) dX12_rule1_58 ?_
          refine tz_cV (pc := 59) (m_wantsW hl n _ _ _ (by decide) (by decide) (q_33).2.1 (by decide)) vl_X12_276 dX12_rule1_59 o_164 rfl rfl (Nat.le_of_ble_eq_true rfl) ⟨(Nat.le_of_ble_eq_true rfl), (Nat.le_of_ble_eq_true rfl)⟩ rfl rfl (Nat.le_of_ble_eq_true rfl) (Nat.le_of_ble_eq_true rfl) (fun r9 J_59 hq9 => ?_)
          obtain ⟨z_59, rfl, hz_59, w_59, b_59, c_59, d_59⟩ := hq9
          have q_59 := MRT.w q_33 w_59
          obtain rfl : z_59 = 0 := by rcases b_59 with e9 | e9; exact e9; exact absurd rfl (c_59 e9).2.2
          have v_59 := d_59 rfl
          clear b_59 c_59 d_59
          refine tz_if_eqT (pc := 62) (tgt := 69) (by decide) dX12_rule1_62 (by decide) (by decide) ?_
          refine tz_aload_n (pc := 69) dX12_rule1_69 rfl rfl ?_
          refine tz_iconst (pc := 70) dX12_rule1_70 ?_
          refine tz_cV (pc := 71) (m_term1 hl n _ s m_33 (q_59).1.1.1 (q_59).2.1 (q_59).2.2.2.2 (((q_59).f 44 rfl).trans h44)) vl_X12_298 dX12_rule1_71 o_164 rfl rfl (Nat.le_of_ble_eq_true rfl) ⟨(Nat.le_of_ble_eq_true rfl), (Nat.le_of_ble_eq_true rfl)⟩ rfl rfl (Nat.le_of_ble_eq_true rfl) (Nat.le_of_ble_eq_true rfl) (fun r9 J_71 hq9 => ?_)
          obtain ⟨z_71, rfl, hz_71, m_71, w_71, h_71⟩ := hq9
          have q_71 := MRT.tr q_59 w_71
          have l_71 := w_71.1.1.2
          have i_71 := w_71.2.2.1
          unfold TV at h_71
          refine tz_istore_n (pc := 74) (L2 := [_, _, _]) dX12_rule1_74 rfl (by decide) rfl ?_
          refine tz_aload_n (pc := 75) dX12_rule1_75 rfl rfl ?_
          refine tz_fI (pc := 76) (kz := 43) (v := (J_71 164 43)) dX12_rule1_76 fl_X12_273 i_164_43 rfl rfl (fun r_76 => ?_)
          refine tz_if_ne (pc := 79) (tgt := 118) dX12_rule1_79 (by decide) (by omega) (fun h_79 => ?_) (fun h_79 => ?_)
          · exact tz_vret (pc := 118) dX12_rule1_118 rfl (Nat.le_of_ble_eq_true rfl) (Nat.le_of_ble_eq_true rfl) ⟨Nat.le_refl _, Nat.le_add_right _ _⟩ ⟨rfl, CL.rt hI q_71⟩
          · refine tz_aload_n (pc := 82) dX12_rule1_82 rfl rfl ?_
            refine tz_aload_n (pc := 83) dX12_rule1_83 rfl rfl ?_
            refine tz_fI (pc := 84) (kz := 42) (v := (J_71 164 42)) dX12_rule1_84 fl_X12_258 i_164_42 rfl rfl (fun r_84 => ?_)
            refine tz_bipush (pc := 87) dX12_rule1_87 (by decide) ?_
            refine tz_icmp_ne (pc := 89) (tgt := 96) dX12_rule1_89 (by decide) (by omega) (by decide) (fun h_89 => ?_) (fun h_89 => ?_)
            · refine tz_iconst (pc := 96) dX12_rule1_96 ?_
              refine tz_iconst (pc := 97) dX12_rule1_97 ?_
              refine tz_cV (pc := 98) (m_wantsW hl n _ _ _ (by decide) (by decide) (q_71).2.1 (by decide)) vl_X12_276 dX12_rule1_98 o_164 rfl rfl (Nat.le_of_ble_eq_true rfl) ⟨(Nat.le_of_ble_eq_true rfl), (Nat.le_of_ble_eq_true rfl)⟩ rfl rfl (Nat.le_of_ble_eq_true rfl) (Nat.le_of_ble_eq_true rfl) (fun r9 J_98 hq9 => ?_)
              obtain ⟨z_98, rfl, hz_98, w_98, b_98, c_98, d_98⟩ := hq9
              have q_98 := MRT.w q_71 w_98
              obtain rfl : z_98 = 0 := by rcases b_98 with e9 | e9; exact e9; exact absurd rfl (c_98 e9).2.2
              have v_98 := d_98 rfl
              clear b_98 c_98 d_98
              refine tz_if_eqT (pc := 101) (tgt := 118) (by decide) dX12_rule1_101 (by decide) (by decide) ?_
              exact tz_vret (pc := 118) dX12_rule1_118 rfl (Nat.le_of_ble_eq_true rfl) (Nat.le_of_ble_eq_true rfl) ⟨Nat.le_refl _, Nat.le_add_right _ _⟩ ⟨rfl, CL.rt hI q_98⟩
            · refine tz_iconst (pc := 92) dX12_rule1_92 ?_
              refine tz_goto (pc := 93) (tgt := 97) dX12_rule1_93 (by decide) ?_
              refine tz_iconst (pc := 97) dX12_rule1_97 ?_
              refine tz_cV (pc := 98) (m_wantsW hl n _ _ _ (by decide) (by decide) (q_71).2.1 (by decide)) vl_X12_276 dX12_rule1_98 o_164 rfl rfl (Nat.le_of_ble_eq_true rfl) ⟨(Nat.le_of_ble_eq_true rfl), (Nat.le_of_ble_eq_true rfl)⟩ rfl rfl (Nat.le_of_ble_eq_true rfl) (Nat.le_of_ble_eq_true rfl) (fun r9 J_98 hq9 => ?_)
              obtain ⟨z_98, rfl, hz_98, w_98, b_98, c_98, d_98⟩ := hq9
              have q_98 := MRT.w q_71 w_98
              have o_98 : (z_98 = 0 ∧ ¬ J_98 164 43 = 0) ∨ (z_98 = 1 ∧ J_98 164 43 = 0) := by rcases b_98 with e9 | e9; exact Or.inl ⟨e9, d_98 e9⟩; exact Or.inr ⟨e9, (c_98 e9).2.1⟩
              clear b_98 c_98 d_98
              have i_98 := w_98.2.2.1
              rcases o_98 with ⟨rfl, v_98⟩ | ⟨rfl, v_98⟩
              · refine tz_if_eqT (pc := 101) (tgt := 118) (by decide) dX12_rule1_101 (by decide) (by decide) ?_
                exact tz_vret (pc := 118) dX12_rule1_118 rfl (Nat.le_of_ble_eq_true rfl) (Nat.le_of_ble_eq_true rfl) ⟨Nat.le_refl _, Nat.le_add_right _ _⟩ ⟨rfl, CL.rt hI q_98⟩
              · refine tz_if_eqF (pc := 101) (tgt := 118) (by decide) dX12_rule1_101 (by decide) (by decide) ?_
                refine tz_aload_n (pc := 104) dX12_rule1_104 rfl rfl ?_
                refine tz_aload_n (pc := 105) dX12_rule1_105 rfl rfl ?_
                refine tz_iload_n (pc := 106) dX12_rule1_106 rfl rfl ?_
                refine tz_iload_n (pc := 107) dX12_rule1_107 rfl rfl ?_
                refine tz_cV (pc := 108) (m_isRule hl n _ _ _ (by omega) (by omega) 800 126 10 s m_71 (q_98).1.1.1 (by omega) (by omega)) vl_X12_301 dX12_rule1_108 o_164 rfl rfl (Nat.le_of_ble_eq_true rfl) ⟨(Nat.le_of_ble_eq_true rfl), (Nat.le_of_ble_eq_true rfl)⟩ rfl rfl (Nat.le_of_ble_eq_true rfl) (Nat.le_of_ble_eq_true rfl) (fun r9 J_108 hq9 => ?_)
                obtain ⟨z_108, rfl, hz_108, rfl, hr_108⟩ := hq9
                refine tz_iconst (pc := 111) dX12_rule1_111 ?_
                refine tz_cV (pc := 112) (m_wantsW hl n _ _ _ (by omega) (by decide) (q_98).2.1 (by decide)) vl_X12_276 dX12_rule1_112 o_164 rfl rfl (Nat.le_of_ble_eq_true rfl) ⟨(Nat.le_of_ble_eq_true rfl), (Nat.le_of_ble_eq_true rfl)⟩ rfl rfl (Nat.le_of_ble_eq_true rfl) (Nat.le_of_ble_eq_true rfl) (fun r9 J_112 hq9 => ?_)
                obtain ⟨z_112, rfl, hz_112, w_112, b_112, c_112, d_112⟩ := hq9
                have q_112 := MRT.w q_98 w_112
                have o_112 : (z_112 = 0 ∧ ¬ J_112 164 43 = 0) ∨ (z_112 = 1 ∧ J_112 164 43 = 0) := by rcases b_112 with e9 | e9; exact Or.inl ⟨e9, d_112 e9⟩; exact Or.inr ⟨e9, (c_112 e9).2.1⟩
                clear b_112 c_112 d_112
                have i_112 := w_112.2.2.1
                rcases o_112 with ⟨rfl, v_112⟩ | ⟨rfl, v_112⟩
                · refine tz_if_neF (pc := 115) (tgt := 119) (by decide) dX12_rule1_115 (by decide) (by decide) ?_
                  exact tz_vret (pc := 118) dX12_rule1_118 rfl (Nat.le_of_ble_eq_true rfl) (Nat.le_of_ble_eq_true rfl) ⟨Nat.le_refl _, Nat.le_add_right _ _⟩ ⟨rfl, CL.rt hI q_112⟩
                · refine tz_if_neT (pc := 115) (tgt := 119) (by decide) dX12_rule1_115 (by decide) (by decide) ?_
                  refine tz_aload_n (pc := 119) dX12_rule1_119 rfl rfl ?_
                  refine tz_iload_n (pc := 120) dX12_rule1_120 rfl rfl ?_
                  refine tz_iload_n (pc := 121) dX12_rule1_121 rfl rfl ?_
                  have ro_122 : J_112 165 (126 + 9) = J 165 135 := ((q_112).1.2.2.1.2.1 135 (by decide) rfl)
                  refine tz_cV (pc := 122) (m_rules1 hl n _ _ _ (by omega) (by omega) 126 (q_112).1.1.1.2.2.1 (by decide) (by omega)) vl_X12_304 dX12_rule1_122 o_164 rfl rfl (Nat.le_of_ble_eq_true rfl) ⟨(Nat.le_of_ble_eq_true rfl), (Nat.le_of_ble_eq_true rfl)⟩ rfl rfl (Nat.le_of_ble_eq_true rfl) (Nat.le_of_ble_eq_true rfl) (fun r9 J_122 hq9 => ?_)
                  obtain ⟨rfl, j_122⟩ := hq9
                  subst j_122
                  exact tz_vret (pc := 125) dX12_rule1_125 rfl (Nat.le_of_ble_eq_true rfl) (Nat.le_of_ble_eq_true rfl) ⟨Nat.le_refl _, Nat.le_add_right _ _⟩ ⟨rfl, CL.tr (CL.rl (hI.rt q_112) (by omega) (by omega) (by omega)) (CL.rt hI q_112)⟩
        · refine tz_iconst (pc := 53) dX12_rule1_53 ?_
          refine tz_goto (pc := 54) (tgt := 58) dX12_rule1_54 (by decide) ?_
          refine tz_iconst (pc := 58) dX12_rule1_58 ?_
          refine tz_cV (pc := 59) (m_wantsW hl n _ _ _ (by decide) (by decide) (q_33).2.1 (by decide)) vl_X12_276 dX12_rule1_59 o_164 rfl rfl (Nat.le_of_ble_eq_true rfl) ⟨(Nat.le_of_ble_eq_true rfl), (Nat.le_of_ble_eq_true rfl)⟩ rfl rfl (Nat.le_of_ble_eq_true rfl) (Nat.le_of_ble_eq_true rfl) (fun r9 J_59 hq9 => ?_)
          obtain ⟨z_59, rfl, hz_59, w_59, b_59, c_59, d_59⟩ := hq9
          have q_59 := MRT.w q_33 w_59
          have o_59 : (z_59 = 0 ∧ ¬ J_59 164 43 = 0) ∨ (z_59 = 1 ∧ J_59 164 43 = 0) := by rcases b_59 with e9 | e9; exact Or.inl ⟨e9, d_59 e9⟩; exact Or.inr ⟨e9, (c_59 e9).2.1⟩
          clear b_59 c_59 d_59
          have i_59 := w_59.2.2.1
          rcases o_59 with ⟨rfl, v_59⟩ | ⟨rfl, v_59⟩
          · refine tz_if_eqT (pc := 62) (tgt := 69) (by decide) dX12_rule1_62 (by decide) (by decide) ?_
            refine tz_aload_n (pc := 69) dX12_rule1_69 rfl rfl ?_
            refine tz_iconst (pc := 70) dX12_rule1_70 ?_
            refine tz_cV (pc := 71) (m_term1 hl n _ s m_33 (q_59).1.1.1 (q_59).2.1 (q_59).2.2.2.2 (((q_59).f 44 rfl).trans h44)) vl_X12_298 dX12_rule1_71 o_164 rfl rfl (Nat.le_of_ble_eq_true rfl) ⟨(Nat.le_of_ble_eq_true rfl), (Nat.le_of_ble_eq_true rfl)⟩ rfl rfl (Nat.le_of_ble_eq_true rfl) (Nat.le_of_ble_eq_true rfl) (fun r9 J_71 hq9 => ?_)
            obtain ⟨z_71, rfl, hz_71, m_71, w_71, h_71⟩ := hq9
            have q_71 := MRT.tr q_59 w_71
            have l_71 := w_71.1.1.2
            have i_71 := w_71.2.2.1
            unfold TV at h_71
            refine tz_istore_n (pc := 74) (L2 := [_, _, _]) dX12_rule1_74 rfl (by decide) rfl ?_
            refine tz_aload_n (pc := 75) dX12_rule1_75 rfl rfl ?_
            refine tz_fI (pc := 76) (kz := 43) (v := (J_71 164 43)) dX12_rule1_76 fl_X12_273 i_164_43 rfl rfl (fun r_76 => ?_)
            refine tz_if_ne (pc := 79) (tgt := 118) dX12_rule1_79 (by decide) (by omega) (fun h_79 => ?_) (fun h_79 => ?_)
            · exact tz_vret (pc := 118) dX12_rule1_118 rfl (Nat.le_of_ble_eq_true rfl) (Nat.le_of_ble_eq_true rfl) ⟨Nat.le_refl _, Nat.le_add_right _ _⟩ ⟨rfl, CL.rt hI q_71⟩
            · refine tz_aload_n (pc := 82) dX12_rule1_82 rfl rfl ?_
              refine tz_aload_n (pc := 83) dX12_rule1_83 rfl rfl ?_
              refine tz_fI (pc := 84) (kz := 42) (v := (J_71 164 42)) dX12_rule1_84 fl_X12_258 i_164_42 rfl rfl (fun r_84 => ?_)
              refine tz_bipush (pc := 87) dX12_rule1_87 (by decide) ?_
              refine tz_icmp_ne (pc := 89) (tgt := 96) dX12_rule1_89 (by decide) (by omega) (by decide) (fun h_89 => ?_) (fun h_89 => ?_)
              · refine tz_iconst (pc := 96) dX12_rule1_96 ?_
                refine tz_iconst (pc := 97) dX12_rule1_97 ?_
                refine tz_cV (pc := 98) (m_wantsW hl n _ _ _ (by decide) (by decide) (q_71).2.1 (by decide)) vl_X12_276 dX12_rule1_98 o_164 rfl rfl (Nat.le_of_ble_eq_true rfl) ⟨(Nat.le_of_ble_eq_true rfl), (Nat.le_of_ble_eq_true rfl)⟩ rfl rfl (Nat.le_of_ble_eq_true rfl) (Nat.le_of_ble_eq_true rfl) (fun r9 J_98 hq9 => ?_)
                obtain ⟨z_98, rfl, hz_98, w_98, b_98, c_98, d_98⟩ := hq9
                have q_98 := MRT.w q_71 w_98
                obtain rfl : z_98 = 0 := by rcases b_98 with e9 | e9; exact e9; exact absurd rfl (c_98 e9).2.2
                have v_98 := d_98 rfl
                clear b_98 c_98 d_98
                refine tz_if_eqT (pc := 101) (tgt := 118) (by decide) dX12_rule1_101 (by decide) (by decide) ?_
                exact tz_vret (pc := 118) dX12_rule1_118 rfl (Nat.le_of_ble_eq_true rfl) (Nat.le_of_ble_eq_true rfl) ⟨Nat.le_refl _, Nat.le_add_right _ _⟩ ⟨rfl, CL.rt hI q_98⟩
              · refine tz_iconst (pc := 92) dX12_rule1_92 ?_
                refine tz_goto (pc := 93) (tgt := 97) dX12_rule1_93 (by decide) ?_
                refine tz_iconst (pc := 97) dX12_rule1_97 ?_
                refine tz_cV (pc := 98) (m_wantsW hl n _ _ _ (by decide) (by decide) (q_71).2.1 (by decide)) vl_X12_276 dX12_rule1_98 o_164 rfl rfl (Nat.le_of_ble_eq_true rfl) ⟨(Nat.le_of_ble_eq_true rfl), (Nat.le_of_ble_eq_true rfl)⟩ rfl rfl (Nat.le_of_ble_eq_true rfl) (Nat.le_of_ble_eq_true rfl) (fun r9 J_98 hq9 => ?_)
                obtain ⟨z_98, rfl, hz_98, w_98, b_98, c_98, d_98⟩ := hq9
                have q_98 := MRT.w q_71 w_98
                have o_98 : (z_98 = 0 ∧ ¬ J_98 164 43 = 0) ∨ (z_98 = 1 ∧ J_98 164 43 = 0) := by rcases b_98 with e9 | e9; exact Or.inl ⟨e9, d_98 e9⟩; exact Or.inr ⟨e9, (c_98 e9).2.1⟩
                clear b_98 c_98 d_98
                have i_98 := w_98.2.2.1
                rcases o_98 with ⟨rfl, v_98⟩ | ⟨rfl, v_98⟩
                · refine tz_if_eqT (pc := 101) (tgt := 118) (by decide) dX12_rule1_101 (by decide) (by decide) ?_
                  exact tz_vret (pc := 118) dX12_rule1_118 rfl (Nat.le_of_ble_eq_true rfl) (Nat.le_of_ble_eq_true rfl) ⟨Nat.le_refl _, Nat.le_add_right _ _⟩ ⟨rfl, CL.rt hI q_98⟩
                · refine tz_if_eqF (pc := 101) (tgt := 118) (by decide) dX12_rule1_101 (by decide) (by decide) ?_
                  refine tz_aload_n (pc := 104) dX12_rule1_104 rfl rfl ?_
                  refine tz_aload_n (pc := 105) dX12_rule1_105 rfl rfl ?_
                  refine tz_iload_n (pc := 106) dX12_rule1_106 rfl rfl ?_
                  refine tz_iload_n (pc := 107) dX12_rule1_107 rfl rfl ?_
                  refine tz_cV (pc := 108) (m_isRule hl n _ _ _ (by omega) (by omega) 800 126 10 s m_71 (q_98).1.1.1 (by omega) (by omega)) vl_X12_301 dX12_rule1_108 o_164 rfl rfl (Nat.le_of_ble_eq_true rfl) ⟨(Nat.le_of_ble_eq_true rfl), (Nat.le_of_ble_eq_true rfl)⟩ rfl rfl (Nat.le_of_ble_eq_true rfl) (Nat.le_of_ble_eq_true rfl) (fun r9 J_108 hq9 => ?_)
                  obtain ⟨z_108, rfl, hz_108, rfl, hr_108⟩ := hq9
                  refine tz_iconst (pc := 111) dX12_rule1_111 ?_
                  refine tz_cV (pc := 112) (m_wantsW hl n _ _ _ (by omega) (by decide) (q_98).2.1 (by decide)) vl_X12_276 dX12_rule1_112 o_164 rfl rfl (Nat.le_of_ble_eq_true rfl) ⟨(Nat.le_of_ble_eq_true rfl), (Nat.le_of_ble_eq_true rfl)⟩ rfl rfl (Nat.le_of_ble_eq_true rfl) (Nat.le_of_ble_eq_true rfl) (fun r9 J_112 hq9 => ?_)
                  obtain ⟨z_112, rfl, hz_112, w_112, b_112, c_112, d_112⟩ := hq9
                  have q_112 := MRT.w q_98 w_112
                  have o_112 : (z_112 = 0 ∧ ¬ J_112 164 43 = 0) ∨ (z_112 = 1 ∧ J_112 164 43 = 0) := by rcases b_112 with e9 | e9; exact Or.inl ⟨e9, d_112 e9⟩; exact Or.inr ⟨e9, (c_112 e9).2.1⟩
                  clear b_112 c_112 d_112
                  have i_112 := w_112.2.2.1
                  rcases o_112 with ⟨rfl, v_112⟩ | ⟨rfl, v_112⟩
                  · refine tz_if_neF (pc := 115) (tgt := 119) (by decide) dX12_rule1_115 (by decide) (by decide) ?_
                    exact tz_vret (pc := 118) dX12_rule1_118 rfl (Nat.le_of_ble_eq_true rfl) (Nat.le_of_ble_eq_true rfl) ⟨Nat.le_refl _, Nat.le_add_right _ _⟩ ⟨rfl, CL.rt hI q_112⟩
                  · refine tz_if_neT (pc := 115) (tgt := 119) (by decide) dX12_rule1_115 (by decide) (by decide) ?_
                    refine tz_aload_n (pc := 119) dX12_rule1_119 rfl rfl ?_
                    refine tz_iload_n (pc := 120) dX12_rule1_120 rfl rfl ?_
                    refine tz_iload_n (pc := 121) dX12_rule1_121 rfl rfl ?_
                    have ro_122 : J_112 165 (126 + 9) = J 165 135 := ((q_112).1.2.2.1.2.1 135 (by decide) rfl)
                    refine tz_cV (pc := 122) (m_rules1 hl n _ _ _ (by omega) (by omega) 126 (q_112).1.1.1.2.2.1 (by decide) (by omega)) vl_X12_304 dX12_rule1_122 o_164 rfl rfl (Nat.le_of_ble_eq_true rfl) ⟨(Nat.le_of_ble_eq_true rfl), (Nat.le_of_ble_eq_true rfl)⟩ rfl rfl (Nat.le_of_ble_eq_true rfl) (Nat.le_of_ble_eq_true rfl) (fun r9 J_122 hq9 => ?_)
                    obtain ⟨rfl, j_122⟩ := hq9
                    subst j_122
                    exact tz_vret (pc := 125) dX12_rule1_125 rfl (Nat.le_of_ble_eq_true rfl) (Nat.le_of_ble_eq_true rfl) ⟨Nat.le_refl _, Nat.le_add_right _ _⟩ ⟨rfl, CL.tr (CL.rl (hI.rt q_112) (by omega) (by omega) (by omega)) (CL.rt hI q_112)⟩
          · refine tz_if_eqF (pc := 62) (tgt := 69) (by decide) dX12_rule1_62 (by decide) (by decide) ?_
            refine tz_aload_n (pc := 65) dX12_rule1_65 rfl rfl ?_
            refine tz_cV (pc := 66) (m_goW hl n _ (q_59).2.1) vl_X12_280 dX12_rule1_66 o_164 rfl rfl (Nat.le_of_ble_eq_true rfl) ⟨(Nat.le_of_ble_eq_true rfl), (Nat.le_of_ble_eq_true rfl)⟩ rfl rfl (Nat.le_of_ble_eq_true rfl) (Nat.le_of_ble_eq_true rfl) (fun r9 J_66 hq9 => ?_)
            obtain ⟨rfl, w_66, b_66⟩ := hq9
            have q_66 := MRT.w q_59 w_66
            refine tz_aload_n (pc := 69) dX12_rule1_69 rfl rfl ?_
            refine tz_iconst (pc := 70) dX12_rule1_70 ?_
            refine tz_cV (pc := 71) (m_term1 hl n _ s m_33 (q_66).1.1.1 (q_66).2.1 (q_66).2.2.2.2 (((q_66).f 44 rfl).trans h44)) vl_X12_298 dX12_rule1_71 o_164 rfl rfl (Nat.le_of_ble_eq_true rfl) ⟨(Nat.le_of_ble_eq_true rfl), (Nat.le_of_ble_eq_true rfl)⟩ rfl rfl (Nat.le_of_ble_eq_true rfl) (Nat.le_of_ble_eq_true rfl) (fun r9 J_71 hq9 => ?_)
            obtain ⟨z_71, rfl, hz_71, m_71, w_71, h_71⟩ := hq9
            have q_71 := MRT.tr q_66 w_71
            have l_71 := w_71.1.1.2
            have i_71 := w_71.2.2.1
            unfold TV at h_71
            refine tz_istore_n (pc := 74) (L2 := [_, _, _]) dX12_rule1_74 rfl (by decide) rfl ?_
            refine tz_aload_n (pc := 75) dX12_rule1_75 rfl rfl ?_
            refine tz_fI (pc := 76) (kz := 43) (v := (J_71 164 43)) dX12_rule1_76 fl_X12_273 i_164_43 rfl rfl (fun r_76 => ?_)
            refine tz_if_ne (pc := 79) (tgt := 118) dX12_rule1_79 (by decide) (by omega) (fun h_79 => ?_) (fun h_79 => ?_)
            · exact tz_vret (pc := 118) dX12_rule1_118 rfl (Nat.le_of_ble_eq_true rfl) (Nat.le_of_ble_eq_true rfl) ⟨Nat.le_refl _, Nat.le_add_right _ _⟩ ⟨rfl, CL.rt hI q_71⟩
            · refine tz_aload_n (pc := 82) dX12_rule1_82 rfl rfl ?_
              refine tz_aload_n (pc := 83) dX12_rule1_83 rfl rfl ?_
              refine tz_fI (pc := 84) (kz := 42) (v := (J_71 164 42)) dX12_rule1_84 fl_X12_258 i_164_42 rfl rfl (fun r_84 => ?_)
              refine tz_bipush (pc := 87) dX12_rule1_87 (by decide) ?_
              refine tz_icmp_ne (pc := 89) (tgt := 96) dX12_rule1_89 (by decide) (by omega) (by decide) (fun h_89 => ?_) (fun h_89 => ?_)
              · refine tz_iconst (pc := 96) dX12_rule1_96 ?_
                refine tz_iconst (pc := 97) dX12_rule1_97 ?_
                refine tz_cV (pc := 98) (m_wantsW hl n _ _ _ (by decide) (by decide) (q_71).2.1 (by decide)) vl_X12_276 dX12_rule1_98 o_164 rfl rfl (Nat.le_of_ble_eq_true rfl) ⟨(Nat.le_of_ble_eq_true rfl), (Nat.le_of_ble_eq_true rfl)⟩ rfl rfl (Nat.le_of_ble_eq_true rfl) (Nat.le_of_ble_eq_true rfl) (fun r9 J_98 hq9 => ?_)
                obtain ⟨z_98, rfl, hz_98, w_98, b_98, c_98, d_98⟩ := hq9
                have q_98 := MRT.w q_71 w_98
                obtain rfl : z_98 = 0 := by rcases b_98 with e9 | e9; exact e9; exact absurd rfl (c_98 e9).2.2
                have v_98 := d_98 rfl
                clear b_98 c_98 d_98
                refine tz_if_eqT (pc := 101) (tgt := 118) (by decide) dX12_rule1_101 (by decide) (by decide) ?_
                exact tz_vret (pc := 118) dX12_rule1_118 rfl (Nat.le_of_ble_eq_true rfl) (Nat.le_of_ble_eq_true rfl) ⟨Nat.le_refl _, Nat.le_add_right _ _⟩ ⟨rfl, CL.rt hI q_98⟩
              · refine tz_iconst (pc := 92) dX12_rule1_92 ?_
                refine tz_goto (pc := 93) (tgt := 97) dX12_rule1_93 (by decide) ?_
                refine tz_iconst (pc := 97) dX12_rule1_97 ?_
                refine tz_cV (pc := 98) (m_wantsW hl n _ _ _ (by decide) (by decide) (q_71).2.1 (by decide)) vl_X12_276 dX12_rule1_98 o_164 rfl rfl (Nat.le_of_ble_eq_true rfl) ⟨(Nat.le_of_ble_eq_true rfl), (Nat.le_of_ble_eq_true rfl)⟩ rfl rfl (Nat.le_of_ble_eq_true rfl) (Nat.le_of_ble_eq_true rfl) (fun r9 J_98 hq9 => ?_)
                obtain ⟨z_98, rfl, hz_98, w_98, b_98, c_98, d_98⟩ := hq9
                have q_98 := MRT.w q_71 w_98
                have o_98 : (z_98 = 0 ∧ ¬ J_98 164 43 = 0) ∨ (z_98 = 1 ∧ J_98 164 43 = 0) := by rcases b_98 with e9 | e9; exact Or.inl ⟨e9, d_98 e9⟩; exact Or.inr ⟨e9, (c_98 e9).2.1⟩
                clear b_98 c_98 d_98
                have i_98 := w_98.2.2.1
                rcases o_98 with ⟨rfl, v_98⟩ | ⟨rfl, v_98⟩
                · refine tz_if_eqT (pc := 101) (tgt := 118) (by decide) dX12_rule1_101 (by decide) (by decide) ?_
                  exact tz_vret (pc := 118) dX12_rule1_118 rfl (Nat.le_of_ble_eq_true rfl) (Nat.le_of_ble_eq_true rfl) ⟨Nat.le_refl _, Nat.le_add_right _ _⟩ ⟨rfl, CL.rt hI q_98⟩
                · refine tz_if_eqF (pc := 101) (tgt := 118) (by decide) dX12_rule1_101 (by decide) (by decide) ?_
                  refine tz_aload_n (pc := 104) dX12_rule1_104 rfl rfl ?_
                  refine tz_aload_n (pc := 105) dX12_rule1_105 rfl rfl ?_
                  refine tz_iload_n (pc := 106) dX12_rule1_106 rfl rfl ?_
                  refine tz_iload_n (pc := 107) dX12_rule1_107 rfl rfl ?_
                  refine tz_cV (pc := 108) (m_isRule hl n _ _ _ (by omega) (by omega) 800 126 10 s m_71 (q_98).1.1.1 (by omega) (by omega)) vl_X12_301 dX12_rule1_108 o_164 rfl rfl (Nat.le_of_ble_eq_true rfl) ⟨(Nat.le_of_ble_eq_true rfl), (Nat.le_of_ble_eq_true rfl)⟩ rfl rfl (Nat.le_of_ble_eq_true rfl) (Nat.le_of_ble_eq_true rfl) (fun r9 J_108 hq9 => ?_)
                  obtain ⟨z_108, rfl, hz_108, rfl, hr_108⟩ := hq9
                  refine tz_iconst (pc := 111) dX12_rule1_111 ?_
                  refine tz_cV (pc := 112) (m_wantsW hl n _ _ _ (by omega) (by decide) (q_98).2.1 (by decide)) vl_X12_276 dX12_rule1_112 o_164 rfl rfl (Nat.le_of_ble_eq_true rfl) ⟨(Nat.le_of_ble_eq_true rfl), (Nat.le_of_ble_eq_true rfl)⟩ rfl rfl (Nat.le_of_ble_eq_true rfl) (Nat.le_of_ble_eq_true rfl) (fun r9 J_112 hq9 => ?_)
                  obtain ⟨z_112, rfl, hz_112, w_112, b_112, c_112, d_112⟩ := hq9
                  have q_112 := MRT.w q_98 w_112
                  have o_112 : (z_112 = 0 ∧ ¬ J_112 164 43 = 0) ∨ (z_112 = 1 ∧ J_112 164 43 = 0) := by rcases b_112 with e9 | e9; exact Or.inl ⟨e9, d_112 e9⟩; exact Or.inr ⟨e9, (c_112 e9).2.1⟩
                  clear b_112 c_112 d_112
                  have i_112 := w_112.2.2.1
                  rcases o_112 with ⟨rfl, v_112⟩ | ⟨rfl, v_112⟩
                  · refine tz_if_neF (pc := 115) (tgt := 119) (by decide) dX12_rule1_115 (by decide) (by decide) ?_
                    exact tz_vret (pc := 118) dX12_rule1_118 rfl (Nat.le_of_ble_eq_true rfl) (Nat.le_of_ble_eq_true rfl) ⟨Nat.le_refl _, Nat.le_add_right _ _⟩ ⟨rfl, CL.rt hI q_112⟩
                  · refine tz_if_neT (pc := 115) (tgt := 119) (by decide) dX12_rule1_115 (by decide) (by decide) ?_
                    refine tz_aload_n (pc := 119) dX12_rule1_119 rfl rfl ?_
                    refine tz_iload_n (pc := 120) dX12_rule1_120 rfl rfl ?_
                    refine tz_iload_n (pc := 121) dX12_rule1_121 rfl rfl ?_
                    have ro_122 : J_112 165 (126 + 9) = J 165 135 := ((q_112).1.2.2.1.2.1 135 (by decide) rfl)
                    refine tz_cV (pc := 122) (m_rules1 hl n _ _ _ (by omega) (by omega) 126 (q_112).1.1.1.2.2.1 (by decide) (by omega)) vl_X12_304 dX12_rule1_122 o_164 rfl rfl (Nat.le_of_ble_eq_true rfl) ⟨(Nat.le_of_ble_eq_true rfl), (Nat.le_of_ble_eq_true rfl)⟩ rfl rfl (Nat.le_of_ble_eq_true rfl) (Nat.le_of_ble_eq_true rfl) (fun r9 J_122 hq9 => ?_)
                    obtain ⟨rfl, j_122⟩ := hq9
                    subst j_122
                    exact tz_vret (pc := 125) dX12_rule1_125 rfl (Nat.le_of_ble_eq_true rfl) (Nat.le_of_ble_eq_true rfl) ⟨Nat.le_refl _, Nat.le_add_right _ _⟩ ⟨rfl, CL.tr (CL.rl (hI.rt q_112) (by omega) (by omega) (by omega)) (CL.rt hI q_112)⟩

set_option maxHeartbeats 4000000 in
set_option maxRecDepth 100000 in
theorem m_entry1 {l : Launch} {G : tb_G} (hl : l.stackTraces = false) (n : Nat) (J : zJ)   (s m : Int) (hI : TI J s m) : tz_Ok l G M_X12_entry1 15 0 0 [.ref 164] n J (zqv (fun J' => CL J' J)) zN := by
  refine tz_Ok.of hl (by decide +kernel) rfl (tb_c1 rfl) (Nat.le_of_ble_eq_true rfl) ?_
  show tz_At l G M_X12_entry1 (tb_rm 15 0 0) none (tb_ZM G 0 0 (zQ n 0 (zqv (fun J' => CL J' J))) (zX n 0 zN)) 0 0 n J 0 [some (.ref 164), none] []
  obtain ⟨hM, h44, hP, hu, hL, h66⟩ := id hI
  have hT := hM.told
  have g0 := MRT.rf hM hP hu
  have hL9 : 0 ≤ J 165 135 ∧ J 165 135 ≤ 8 := hL.1.1
  have hL8 : 0 ≤ J 165 152 ∧ J 165 152 ≤ 12 := hL.2.2.1.1
  refine tz_aload_n (pc := 0) dX12_entry1_0 rfl rfl ?_
  refine tz_aload_n (pc := 1) dX12_entry1_1 rfl rfl ?_
  refine tz_fR (pc := 2) dX12_entry1_2 fl_X12_9 r_164_0 ?_
  refine tz_sipush (pc := 5) dX12_entry1_5 (by decide) ?_
  refine tz_aL (pc := 8) (z := 152) (v := (J 165 152)) dX12_entry1_8 a_165 rfl (by decide) rfl (fun r_8 => ?_)
  refine tz_bipush (pc := 9) dX12_entry1_9 (by decide) ?_
  refine tz_icmp_ge (pc := 11) (tgt := 18) dX12_entry1_11 (by decide) (by omega) (by decide) (fun h_11 => ?_) (fun h_11 => ?_)
  · refine tz_iconst (pc := 18) dX12_entry1_18 ?_
    refine tz_iconst (pc := 19) dX12_entry1_19 ?_
    refine tz_cV (pc := 20) (m_wantsW hl n _ _ _ (by decide) (by decide) (g0).2.1 (by decide)) vl_X12_276 dX12_entry1_20 o_164 rfl rfl (Nat.le_of_ble_eq_true rfl) ⟨(Nat.le_of_ble_eq_true rfl), (Nat.le_of_ble_eq_true rfl)⟩ rfl rfl (Nat.le_of_ble_eq_true rfl) (Nat.le_of_ble_eq_true rfl) (fun r9 J_20 hq9 => ?_)
    obtain ⟨z_20, rfl, hz_20, w_20, b_20, c_20, d_20⟩ := hq9
    have q_20 := MRT.w g0 w_20
    obtain rfl : z_20 = 0 := by rcases b_20 with e9 | e9; exact e9; exact absurd rfl (c_20 e9).2.2
    have v_20 := d_20 rfl
    clear b_20 c_20 d_20
    refine tz_if_neF (pc := 23) (tgt := 27) (by decide) dX12_entry1_23 (by decide) (by decide) ?_
    exact tz_vret (pc := 26) dX12_entry1_26 rfl (Nat.le_of_ble_eq_true rfl) (Nat.le_of_ble_eq_true rfl) ⟨Nat.le_refl _, Nat.le_add_right _ _⟩ ⟨rfl, CL.rt hI q_20⟩
  · refine tz_iconst (pc := 14) dX12_entry1_14 ?_
    refine tz_goto (pc := 15) (tgt := 19) dX12_entry1_15 (by decide) ?_
    refine tz_iconst (pc := 19) dX12_entry1_19 ?_
    refine tz_cV (pc := 20) (m_wantsW hl n _ _ _ (by decide) (by decide) (g0).2.1 (by decide)) vl_X12_276 dX12_entry1_20 o_164 rfl rfl (Nat.le_of_ble_eq_true rfl) ⟨(Nat.le_of_ble_eq_true rfl), (Nat.le_of_ble_eq_true rfl)⟩ rfl rfl (Nat.le_of_ble_eq_true rfl) (Nat.le_of_ble_eq_true rfl) (fun r9 J_20 hq9 => ?_)
    obtain ⟨z_20, rfl, hz_20, w_20, b_20, c_20, d_20⟩ := hq9
    have q_20 := MRT.w g0 w_20
    have o_20 : (z_20 = 0 ∧ ¬ J_20 164 43 = 0) ∨ (z_20 = 1 ∧ J_20 164 43 = 0) := by rcases b_20 with e9 | e9; exact Or.inl ⟨e9, d_20 e9⟩; exact Or.inr ⟨e9, (c_20 e9).2.1⟩
    clear b_20 c_20 d_20
    have i_20 := w_20.2.2.1
    rcases o_20 with ⟨rfl, v_20⟩ | ⟨rfl, v_20⟩
    · refine tz_if_neF (pc := 23) (tgt := 27) (by decide) dX12_entry1_23 (by decide) (by decide) ?_
      exact tz_vret (pc := 26) dX12_entry1_26 rfl (Nat.le_of_ble_eq_true rfl) (Nat.le_of_ble_eq_true rfl) ⟨Nat.le_refl _, Nat.le_add_right _ _⟩ ⟨rfl, CL.rt hI q_20⟩
    · refine tz_if_neT (pc := 23) (tgt := 27) (by decide) dX12_entry1_23 (by decide) (by decide) ?_
      refine tz_aload_n (pc := 27) dX12_entry1_27 rfl rfl ?_
      refine tz_cV (pc := 28) (m_goW hl n _ (q_20).2.1) vl_X12_280 dX12_entry1_28 o_164 rfl rfl (Nat.le_of_ble_eq_true rfl) ⟨(Nat.le_of_ble_eq_true rfl), (Nat.le_of_ble_eq_true rfl)⟩ rfl rfl (Nat.le_of_ble_eq_true rfl) (Nat.le_of_ble_eq_true rfl) (fun r9 J_28 hq9 => ?_)
      obtain ⟨rfl, w_28, b_28⟩ := hq9
      have q_28 := MRT.w q_20 w_28
      refine tz_aload_n (pc := 31) dX12_entry1_31 rfl rfl ?_
      refine tz_iconst (pc := 32) dX12_entry1_32 ?_
      refine tz_cV (pc := 33) (m_term1 hl n _ s m (q_28).1.1.1 (q_28).2.1 (q_28).2.2.2.2 (((q_28).f 44 rfl).trans h44)) vl_X12_298 dX12_entry1_33 o_164 rfl rfl (Nat.le_of_ble_eq_true rfl) ⟨(Nat.le_of_ble_eq_true rfl), (Nat.le_of_ble_eq_true rfl)⟩ rfl rfl (Nat.le_of_ble_eq_true rfl) (Nat.le_of_ble_eq_true rfl) (fun r9 J_33 hq9 => ?_)
      obtain ⟨z_33, rfl, hz_33, m_33, w_33, h_33⟩ := hq9
      have q_33 := MRT.tr q_28 w_33
      have l_33 := w_33.1.1.2
      have i_33 := w_33.2.2.1
      unfold TV at h_33
      refine tz_istore_n (pc := 36) (L2 := [_, _]) dX12_entry1_36 rfl (by decide) rfl ?_
      refine tz_aload_n (pc := 37) dX12_entry1_37 rfl rfl ?_
      refine tz_fI (pc := 38) (kz := 43) (v := (J_33 164 43)) dX12_entry1_38 fl_X12_273 i_164_43 rfl rfl (fun r_38 => ?_)
      refine tz_if_ne (pc := 41) (tgt := 93) dX12_entry1_41 (by decide) (by omega) (fun h_41 => ?_) (fun h_41 => ?_)
      · exact tz_vret (pc := 93) dX12_entry1_93 rfl (Nat.le_of_ble_eq_true rfl) (Nat.le_of_ble_eq_true rfl) ⟨Nat.le_refl _, Nat.le_add_right _ _⟩ ⟨rfl, CL.rt hI q_33⟩
      · refine tz_aload_n (pc := 44) dX12_entry1_44 rfl rfl ?_
        refine tz_aload_n (pc := 45) dX12_entry1_45 rfl rfl ?_
        refine tz_fI (pc := 46) (kz := 42) (v := (J_33 164 42)) dX12_entry1_46 fl_X12_258 i_164_42 rfl rfl (fun r_46 => ?_)
        refine tz_bipush (pc := 49) dX12_entry1_49 (by decide) ?_
        refine tz_icmp_ne (pc := 51) (tgt := 58) dX12_entry1_51 (by decide) (by omega) (by decide) (fun h_51 => ?_) (fun h_51 => ?_)
        · refine tz_iconst (pc := 58) dX12_entry1_58 ?_
          refine tz_iconst (pc := 59) dX12_entry1_59 ?_
          refine tz_cV (pc := 60) (m_wantsW hl n _ _ _ (by decide) (by decide) (q_33).2.1 (by decide)) vl_X12_276 dX12_entry1_60 o_164 rfl rfl (Nat.le_of_ble_eq_true rfl) ⟨(Nat.le_of_ble_eq_true rfl), (Nat.le_of_ble_eq_true rfl)⟩ rfl rfl (Nat.le_of_ble_eq_true rfl) (Nat.le_of_ble_eq_true rfl) (fun r9 J_60 hq9 => ?_)
          obtain ⟨z_60, rfl, hz_60, w_60, b_60, c_60, d_60⟩ := hq9
          have q_60 := MRT.w q_33 w_60
          obtain rfl : z_60 = 0 := by rcases b_60 with e9 | e9; exact e9; exact absurd rfl (c_60 e9).2.2
          have v_60 := d_60 rfl
          clear b_60 c_60 d_60
          refine tz_if_eqT (pc := 63) (tgt := 93) (by decide) dX12_entry1_63 (by decide) (by decide) ?_
          exact tz_vret (pc := 93) dX12_entry1_93 rfl (Nat.le_of_ble_eq_true rfl) (Nat.le_of_ble_eq_true rfl) ⟨Nat.le_refl _, Nat.le_add_right _ _⟩ ⟨rfl, CL.rt hI q_60⟩
        · refine tz_iconst (pc := 54) dX12_entry1_54 ?_
          refine tz_goto (pc := 55) (tgt := 59) dX12_entry1_55 (by decide) ?_
          refine tz_iconst (pc := 59) dX12_entry1_59 ?_
          refine tz_cV (pc := 60) (m_wantsW hl n _ _ _ (by decide) (by decide) (q_33).2.1 (by decide)) vl_X12_276 dX12_entry1_60 o_164 rfl rfl (Nat.le_of_ble_eq_true rfl) ⟨(Nat.le_of_ble_eq_true rfl), (Nat.le_of_ble_eq_true rfl)⟩ rfl rfl (Nat.le_of_ble_eq_true rfl) (Nat.le_of_ble_eq_true rfl) (fun r9 J_60 hq9 => ?_)
          obtain ⟨z_60, rfl, hz_60, w_60, b_60, c_60, d_60⟩ := hq9
          have q_60 := MRT.w q_33 w_60
          have o_60 : (z_60 = 0 ∧ ¬ J_60 164 43 = 0) ∨ (z_60 = 1 ∧ J_60 164 43 = 0) := by rcases b_60 with e9 | e9; exact Or.inl ⟨e9, d_60 e9⟩; exact Or.inr ⟨e9, (c_60 e9).2.1⟩
          clear b_60 c_60 d_60
          have i_60 := w_60.2.2.1
          rcases o_60 with ⟨rfl, v_60⟩ | ⟨rfl, v_60⟩
          · refine tz_if_eqT (pc := 63) (tgt := 93) (by decide) dX12_entry1_63 (by decide) (by decide) ?_
            exact tz_vret (pc := 93) dX12_entry1_93 rfl (Nat.le_of_ble_eq_true rfl) (Nat.le_of_ble_eq_true rfl) ⟨Nat.le_refl _, Nat.le_add_right _ _⟩ ⟨rfl, CL.rt hI q_60⟩
          · refine tz_if_eqF (pc := 63) (tgt := 93) (by decide) dX12_entry1_63 (by decide) (by decide) ?_
            refine tz_aload_n (pc := 66) dX12_entry1_66 rfl rfl ?_
            refine tz_aload_n (pc := 67) dX12_entry1_67 rfl rfl ?_
            refine tz_iload_n (pc := 68) dX12_entry1_68 rfl rfl ?_
            have ro_69 : J_60 165 (126 + 26) = J 165 152 := ((q_60).1.2.2.1.2.1 152 (by decide) rfl)
            have rf_69 := (q_60).1.1.1.2.2.1
            refine tz_cV (pc := 69) (m_entryOf hl n _ _ (by omega) (by rw [rf_69]; decide) (by rw [rf_69]; omega)) vl_X12_307 dX12_entry1_69 o_164 rfl rfl (Nat.le_of_ble_eq_true rfl) ⟨(Nat.le_of_ble_eq_true rfl), (Nat.le_of_ble_eq_true rfl)⟩ rfl rfl (Nat.le_of_ble_eq_true rfl) (Nat.le_of_ble_eq_true rfl) (fun r9 J_69 hq9 => ?_)
            obtain ⟨z_69, rfl, hz_69, rfl, hr_69⟩ := hq9
            refine tz_iconst (pc := 72) dX12_entry1_72 ?_
            refine tz_icmp_ne (pc := 73) (tgt := 80) dX12_entry1_73 (by decide) (by omega) (by decide) (fun h_73 => ?_) (fun h_73 => ?_)
            · refine tz_iconst (pc := 80) dX12_entry1_80 ?_
              refine tz_iconst (pc := 81) dX12_entry1_81 ?_
              refine tz_cV (pc := 82) (m_wantsW hl n _ _ _ (by decide) (by decide) (q_60).2.1 (by decide)) vl_X12_276 dX12_entry1_82 o_164 rfl rfl (Nat.le_of_ble_eq_true rfl) ⟨(Nat.le_of_ble_eq_true rfl), (Nat.le_of_ble_eq_true rfl)⟩ rfl rfl (Nat.le_of_ble_eq_true rfl) (Nat.le_of_ble_eq_true rfl) (fun r9 J_82 hq9 => ?_)
              obtain ⟨z_82, rfl, hz_82, w_82, b_82, c_82, d_82⟩ := hq9
              have q_82 := MRT.w q_60 w_82
              obtain rfl : z_82 = 0 := by rcases b_82 with e9 | e9; exact e9; exact absurd rfl (c_82 e9).2.2
              have v_82 := d_82 rfl
              clear b_82 c_82 d_82
              refine tz_if_eqT (pc := 85) (tgt := 93) (by decide) dX12_entry1_85 (by decide) (by decide) ?_
              exact tz_vret (pc := 93) dX12_entry1_93 rfl (Nat.le_of_ble_eq_true rfl) (Nat.le_of_ble_eq_true rfl) ⟨Nat.le_refl _, Nat.le_add_right _ _⟩ ⟨rfl, CL.rt hI q_82⟩
            · refine tz_iconst (pc := 76) dX12_entry1_76 ?_
              refine tz_goto (pc := 77) (tgt := 81) dX12_entry1_77 (by decide) ?_
              refine tz_iconst (pc := 81) dX12_entry1_81 ?_
              refine tz_cV (pc := 82) (m_wantsW hl n _ _ _ (by decide) (by decide) (q_60).2.1 (by decide)) vl_X12_276 dX12_entry1_82 o_164 rfl rfl (Nat.le_of_ble_eq_true rfl) ⟨(Nat.le_of_ble_eq_true rfl), (Nat.le_of_ble_eq_true rfl)⟩ rfl rfl (Nat.le_of_ble_eq_true rfl) (Nat.le_of_ble_eq_true rfl) (fun r9 J_82 hq9 => ?_)
              obtain ⟨z_82, rfl, hz_82, w_82, b_82, c_82, d_82⟩ := hq9
              have q_82 := MRT.w q_60 w_82
              have o_82 : (z_82 = 0 ∧ ¬ J_82 164 43 = 0) ∨ (z_82 = 1 ∧ J_82 164 43 = 0) := by rcases b_82 with e9 | e9; exact Or.inl ⟨e9, d_82 e9⟩; exact Or.inr ⟨e9, (c_82 e9).2.1⟩
              clear b_82 c_82 d_82
              have i_82 := w_82.2.2.1
              rcases o_82 with ⟨rfl, v_82⟩ | ⟨rfl, v_82⟩
              · refine tz_if_eqT (pc := 85) (tgt := 93) (by decide) dX12_entry1_85 (by decide) (by decide) ?_
                exact tz_vret (pc := 93) dX12_entry1_93 rfl (Nat.le_of_ble_eq_true rfl) (Nat.le_of_ble_eq_true rfl) ⟨Nat.le_refl _, Nat.le_add_right _ _⟩ ⟨rfl, CL.rt hI q_82⟩
              · refine tz_if_eqF (pc := 85) (tgt := 93) (by decide) dX12_entry1_85 (by decide) (by decide) ?_
                refine tz_aload_n (pc := 88) dX12_entry1_88 rfl rfl ?_
                refine tz_iload_n (pc := 89) dX12_entry1_89 rfl rfl ?_
                have ro_90 : J_82 165 (126 + 26) = J 165 152 := ((q_82).1.2.2.1.2.1 152 (by decide) rfl)
                refine tz_cV (pc := 90) (m_enters1 hl n _ _ (by omega) 126 (q_82).1.1.1.2.2.1 (by decide) (by omega)) vl_X12_310 dX12_entry1_90 o_164 rfl rfl (Nat.le_of_ble_eq_true rfl) ⟨(Nat.le_of_ble_eq_true rfl), (Nat.le_of_ble_eq_true rfl)⟩ rfl rfl (Nat.le_of_ble_eq_true rfl) (Nat.le_of_ble_eq_true rfl) (fun r9 J_90 hq9 => ?_)
                obtain ⟨rfl, j_90⟩ := hq9
                subst j_90
                exact tz_vret (pc := 93) dX12_entry1_93 rfl (Nat.le_of_ble_eq_true rfl) (Nat.le_of_ble_eq_true rfl) ⟨Nat.le_refl _, Nat.le_add_right _ _⟩ ⟨rfl, CL.tr (CL.en (hI.rt q_82) (by omega) (by omega)) (CL.rt hI q_82)⟩

theorem CL.ro {J1 J : zJ} {s m m1 z : Int} (h : TI J s m) (g : MRT J1 J s m m1) (hz : 0 ≤ z ∧ z ≤ 9) : CL (zup (zup J1 165 165 z) 164 45 1) J := by
  have h1 := h.rt g
  have e5 : ∀ k, zup (zup J1 165 165 z) 164 45 1 165 k = if k = 165 then z else J1 165 k := fun _ => rfl
  have e4 : ∀ k, zup (zup J1 165 165 z) 164 45 1 164 k = if k = 45 then 1 else J1 164 k := fun _ => rfl
  have f : zOf (zbut [164, 165]) (zup (zup J1 165 165 z) 164 45 1) J1 := zOf.up rfl (zOf.up rfl zOf.rf)
  refine CL.tr (J2 := J1) ?_ (CL.rt h g)
  generalize zup (zup J1 165 165 z) 164 45 1 = J9 at *
  have d4 : ∀ k, ¬ k = 45 → J9 164 k = J1 164 k := fun k q => by rw [e4, if_neg q]
  refine ⟨⟨f.mono (zbut_sub (fun c hc => by simp at hc ⊢; omega)), fun k q => by rw [e5, if_neg (by omega)], fun k _ => ⟨by rw [f 166 rfl], by rw [f 168 rfl]⟩, fun k _ => by rw [f 167 rfl], fun k _ => ⟨by rw [f 169 rfl], by rw [f 170 rfl], by rw [f 171 rfl]⟩, fun k q => d4 k (clF_no q).2.2.1⟩, ⟨s, m1, ?_⟩, by rw [d4 43 (by decide)]; exact id, by unfold rmu; rw [d4 37 (by decide), d4 35 (by decide), d4 38 (by decide)]; exact Int.le_refl _⟩
  obtain ⟨t1, t2, t3, t4, t5⟩ := h1
  refine ⟨t1.of ⟨d4 15 (by decide), d4 16 (by decide), d4 17 (by decide)⟩ (by rw [e5, if_neg (by decide)]) (f _ rfl) (f _ rfl) (f _ rfl) (f _ rfl), (d4 44 (by decide)).trans t2, t3.of (fun k _ _ => d4 k (by omega)), by rw [d4 21 (by decide)]; exact t4, ⟨t5.1.1.of (fun k _ _ => by show J9 165 (126 + k) = _; rw [e5, if_neg (by omega)]), ?_, t5.1.2.2.1.of (fun k _ _ => by show J9 165 (126 + k) = _; rw [e5, if_neg (by omega)]), t5.1.2.2.2.of (fun k _ _ => by show J9 165 (126 + k) = _; rw [e5, if_neg (by omega)])⟩, by rw [e5, if_neg (by decide)]; exact t5.2⟩
  have a1 : J9 165 (126 + 39) = z := by rw [e5, if_pos (by decide)]
  have a2 : J9 165 (126 + 40) = 0 := by rw [e5, if_neg (by decide)]; exact t5.2
  show (0 ≤ J9 165 (126 + 39) ∧ J9 165 (126 + 39) ≤ 9) ∧ (0 ≤ J9 165 (126 + 40) ∧ J9 165 (126 + 40) ≤ J9 165 (126 + 39)) ∧ ∀ k, 0 ≤ k → k < 2 * J9 165 (126 + 40) → 0 ≤ J9 165 (126 + (41 + k)) ∧ J9 165 (126 + (41 + k)) < m1
  rw [a1, a2]
  exact ⟨hz, by omega, fun k a c => by omega⟩
set_option maxHeartbeats 4000000 in
set_option maxRecDepth 100000 in
theorem m_room1 {l : Launch} {G : tb_G} (hl : l.stackTraces = false) (n : Nat) (J : zJ)   (s m : Int) (hI : TI J s m) : tz_Ok l G M_X12_room1 4 0 0 [.ref 164] n J (zqv (fun J' => CL J' J)) zN := by
  refine tz_Ok.of hl (by decide +kernel) rfl (tb_c1 rfl) (Nat.le_of_ble_eq_true rfl) ?_
  show tz_At l G M_X12_room1 (tb_rm 4 0 0) none (tb_ZM G 0 0 (zQ n 0 (zqv (fun J' => CL J' J))) (zX n 0 zN)) 0 0 n J 0 [some (.ref 164)] []
  obtain ⟨hM, h44, hP, hu, hL, h66⟩ := id hI
  have hT := hM.told
  have g0 := MRT.rf hM hP hu
  have hL9 : 0 ≤ J 165 135 ∧ J 165 135 ≤ 8 := hL.1.1
  have hL8 : 0 ≤ J 165 152 ∧ J 165 152 ≤ 12 := hL.2.2.1.1
  refine tz_aload_n (pc := 0) dX12_room1_0 rfl rfl ?_
  refine tz_aload_n (pc := 1) dX12_room1_1 rfl rfl ?_
  refine tz_fI (pc := 2) (kz := 45) (v := (J 164 45)) dX12_room1_2 fl_X12_313 i_164_45 rfl rfl (fun r_2 => ?_)
  refine tz_if_ne (pc := 5) (tgt := 12) dX12_room1_5 (by decide) (by omega) (fun h_5 => ?_) (fun h_5 => ?_)
  · refine tz_iconst (pc := 12) dX12_room1_12 ?_
    refine tz_iconst (pc := 13) dX12_room1_13 ?_
    refine tz_cV (pc := 14) (m_wantsW hl n _ _ _ (by decide) (by decide) (g0).2.1 (by decide)) vl_X12_276 dX12_room1_14 o_164 rfl rfl (Nat.le_of_ble_eq_true rfl) ⟨(Nat.le_of_ble_eq_true rfl), (Nat.le_of_ble_eq_true rfl)⟩ rfl rfl (Nat.le_of_ble_eq_true rfl) (Nat.le_of_ble_eq_true rfl) (fun r9 J_14 hq9 => ?_)
    obtain ⟨z_14, rfl, hz_14, w_14, b_14, c_14, d_14⟩ := hq9
    have q_14 := MRT.w g0 w_14
    obtain rfl : z_14 = 0 := by rcases b_14 with e9 | e9; exact e9; exact absurd rfl (c_14 e9).2.2
    have v_14 := d_14 rfl
    clear b_14 c_14 d_14
    refine tz_if_neF (pc := 17) (tgt := 21) (by decide) dX12_room1_17 (by decide) (by decide) ?_
    exact tz_vret (pc := 20) dX12_room1_20 rfl (Nat.le_of_ble_eq_true rfl) (Nat.le_of_ble_eq_true rfl) ⟨Nat.le_refl _, Nat.le_add_right _ _⟩ ⟨rfl, CL.rt hI q_14⟩
  · refine tz_iconst (pc := 8) dX12_room1_8 ?_
    refine tz_goto (pc := 9) (tgt := 13) dX12_room1_9 (by decide) ?_
    refine tz_iconst (pc := 13) dX12_room1_13 ?_
    refine tz_cV (pc := 14) (m_wantsW hl n _ _ _ (by decide) (by decide) (g0).2.1 (by decide)) vl_X12_276 dX12_room1_14 o_164 rfl rfl (Nat.le_of_ble_eq_true rfl) ⟨(Nat.le_of_ble_eq_true rfl), (Nat.le_of_ble_eq_true rfl)⟩ rfl rfl (Nat.le_of_ble_eq_true rfl) (Nat.le_of_ble_eq_true rfl) (fun r9 J_14 hq9 => ?_)
    obtain ⟨z_14, rfl, hz_14, w_14, b_14, c_14, d_14⟩ := hq9
    have q_14 := MRT.w g0 w_14
    have o_14 : (z_14 = 0 ∧ ¬ J_14 164 43 = 0) ∨ (z_14 = 1 ∧ J_14 164 43 = 0) := by rcases b_14 with e9 | e9; exact Or.inl ⟨e9, d_14 e9⟩; exact Or.inr ⟨e9, (c_14 e9).2.1⟩
    clear b_14 c_14 d_14
    have i_14 := w_14.2.2.1
    rcases o_14 with ⟨rfl, v_14⟩ | ⟨rfl, v_14⟩
    · refine tz_if_neF (pc := 17) (tgt := 21) (by decide) dX12_room1_17 (by decide) (by decide) ?_
      exact tz_vret (pc := 20) dX12_room1_20 rfl (Nat.le_of_ble_eq_true rfl) (Nat.le_of_ble_eq_true rfl) ⟨Nat.le_refl _, Nat.le_add_right _ _⟩ ⟨rfl, CL.rt hI q_14⟩
    · refine tz_if_neT (pc := 17) (tgt := 21) (by decide) dX12_room1_17 (by decide) (by decide) ?_
      refine tz_aload_n (pc := 21) dX12_room1_21 rfl rfl ?_
      refine tz_cV (pc := 22) (m_goW hl n _ (q_14).2.1) vl_X12_280 dX12_room1_22 o_164 rfl rfl (Nat.le_of_ble_eq_true rfl) ⟨(Nat.le_of_ble_eq_true rfl), (Nat.le_of_ble_eq_true rfl)⟩ rfl rfl (Nat.le_of_ble_eq_true rfl) (Nat.le_of_ble_eq_true rfl) (fun r9 J_22 hq9 => ?_)
      obtain ⟨rfl, w_22, b_22⟩ := hq9
      have q_22 := MRT.w q_14 w_22
      refine tz_aload_n (pc := 25) dX12_room1_25 rfl rfl ?_
      refine tz_fR (pc := 26) dX12_room1_26 fl_X12_9 r_164_0 ?_
      refine tz_sipush (pc := 29) dX12_room1_29 (by decide) ?_
      refine tz_aload_n (pc := 32) dX12_room1_32 rfl rfl ?_
      refine tz_iconst (pc := 33) dX12_room1_33 ?_
      refine tz_bipush (pc := 34) dX12_room1_34 (by decide) ?_
      refine tz_cV (pc := 36) (m_number hl n _ _ _ (by decide) (by decide) (q_22).2.1 (by decide)) vl_X12_290 dX12_room1_36 o_164 rfl rfl (Nat.le_of_ble_eq_true rfl) ⟨(Nat.le_of_ble_eq_true rfl), (Nat.le_of_ble_eq_true rfl)⟩ rfl rfl (Nat.le_of_ble_eq_true rfl) (Nat.le_of_ble_eq_true rfl) (fun r9 J_36 hq9 => ?_)
      obtain ⟨z_36, rfl, hz_36, w_36, b_36, d_36⟩ := hq9
      have q_36 := MRT.w q_22 w_36
      have i_36 := w_36.2.2.1
      refine tz_aS (pc := 39) (z := 165) dX12_room1_39 a_165 rfl (by decide) (by omega) ?_
      refine tz_aload_n (pc := 40) dX12_room1_40 rfl rfl ?_
      refine tz_iconst (pc := 41) dX12_room1_41 ?_
      refine tz_pI (pc := 42) (kz := 45) dX12_room1_42 fl_X12_313 i_164_45 rfl rfl (by decide) ?_
      exact tz_vret (pc := 45) dX12_room1_45 rfl (Nat.le_of_ble_eq_true rfl) (Nat.le_of_ble_eq_true rfl) ⟨Nat.le_refl _, Nat.le_add_right _ _⟩ ⟨rfl, CL.ro hI q_36 (by omega)⟩

set_option maxHeartbeats 4000000 in
set_option maxRecDepth 100000 in
theorem m_clause1 {l : Launch} {G : tb_G} (hl : l.stackTraces = false) (n : Nat) (J : zJ)   (s m : Int) (hI : TI J s m) : tz_Ok l G M_X12_clause1 22 0 0 [.ref 164] n J (zqv (fun J' => CL J' J)) zN := by
  refine tz_Ok.of hl (by decide +kernel) rfl (tb_c1 rfl) (Nat.le_of_ble_eq_true rfl) ?_
  show tz_At l G M_X12_clause1 (tb_rm 22 0 0) none (tb_ZM G 0 0 (zQ n 0 (zqv (fun J' => CL J' J))) (zX n 0 zN)) 0 0 n J 0 [some (.ref 164), none] []
  obtain ⟨hM, h44, hP, hu, hL, h66⟩ := id hI
  have hT := hM.told
  have g0 := MRT.rf hM hP hu
  have hL9 : 0 ≤ J 165 135 ∧ J 165 135 ≤ 8 := hL.1.1
  have hL8 : 0 ≤ J 165 152 ∧ J 165 152 ≤ 12 := hL.2.2.1.1
  refine tz_aload_n (pc := 0) dX12_clause1_0 rfl rfl ?_
  refine tz_fI (pc := 1) (kz := 38) (v := (J 164 38)) dX12_clause1_1 fl_X12_261 i_164_38 rfl rfl (fun r_1 => ?_)
  refine tz_iconst (pc := 4) dX12_clause1_4 ?_
  refine tz_icmp_ne (pc := 5) (tgt := 15) dX12_clause1_5 (by decide) (by omega) (by decide) (fun h_5 => ?_) (fun h_5 => ?_)
  · refine tz_iconst (pc := 15) dX12_clause1_15 ?_
    refine tz_istore_n (pc := 16) (L2 := [_, _]) dX12_clause1_16 rfl (by decide) rfl ?_
    refine tz_iload_n (pc := 17) dX12_clause1_17 rfl rfl ?_
    refine tz_if_neT (pc := 18) (tgt := 28) (by decide) dX12_clause1_18 (by decide) (by decide) ?_
    refine tz_iload_n (pc := 28) dX12_clause1_28 rfl rfl ?_
    refine tz_iconst (pc := 29) dX12_clause1_29 ?_
    refine tz_icmp_neT (pc := 30) (tgt := 46) (by decide) dX12_clause1_30 (by decide) (by decide) (by decide) ?_
    refine tz_iload_n (pc := 46) dX12_clause1_46 rfl rfl ?_
    refine tz_iconst (pc := 47) dX12_clause1_47 ?_
    refine tz_icmp_neT (pc := 48) (tgt := 58) (by decide) dX12_clause1_48 (by decide) (by decide) (by decide) ?_
    refine tz_iload_n (pc := 58) dX12_clause1_58 rfl rfl ?_
    refine tz_iconst (pc := 59) dX12_clause1_59 ?_
    refine tz_icmp_neT (pc := 60) (tgt := 70) (by decide) dX12_clause1_60 (by decide) (by decide) (by decide) ?_
    refine tz_aload_n (pc := 70) dX12_clause1_70 rfl rfl ?_
    refine tz_iload_n (pc := 71) dX12_clause1_71 rfl rfl ?_
    refine tz_iconst (pc := 72) dX12_clause1_72 ?_
    refine tz_icmp_neT (pc := 73) (tgt := 80) (by decide) dX12_clause1_73 (by decide) (by decide) (by decide) ?_
    refine tz_iconst (pc := 80) dX12_clause1_80 ?_
    refine tz_iconst (pc := 81) dX12_clause1_81 ?_
    refine tz_cV (pc := 82) (m_wantsW hl n _ _ _ (by decide) (by decide) (g0).2.1 (by decide)) vl_X12_276 dX12_clause1_82 o_164 rfl rfl (Nat.le_of_ble_eq_true rfl) ⟨(Nat.le_of_ble_eq_true rfl), (Nat.le_of_ble_eq_true rfl)⟩ rfl rfl (Nat.le_of_ble_eq_true rfl) (Nat.le_of_ble_eq_true rfl) (fun r9 J_82 hq9 => ?_)
    obtain ⟨z_82, rfl, hz_82, w_82, b_82, c_82, d_82⟩ := hq9
    have q_82 := MRT.w g0 w_82
    obtain rfl : z_82 = 0 := by rcases b_82 with e9 | e9; exact e9; exact absurd rfl (c_82 e9).2.2
    have v_82 := d_82 rfl
    clear b_82 c_82 d_82
    refine tz_if_eqT (pc := 85) (tgt := 92) (by decide) dX12_clause1_85 (by decide) (by decide) ?_
    exact tz_vret (pc := 92) dX12_clause1_92 rfl (Nat.le_of_ble_eq_true rfl) (Nat.le_of_ble_eq_true rfl) ⟨Nat.le_refl _, Nat.le_add_right _ _⟩ ⟨rfl, CL.rt hI q_82⟩
  · refine tz_aload_n (pc := 8) dX12_clause1_8 rfl rfl ?_
    refine tz_fI (pc := 9) (kz := 40) (v := (J 164 40)) dX12_clause1_9 fl_X12_249 i_164_40 rfl rfl (fun r_9 => ?_)
    refine tz_goto (pc := 12) (tgt := 16) dX12_clause1_12 (by decide) ?_
    refine tz_istore_n (pc := 16) (L2 := [_, _]) dX12_clause1_16 rfl (by decide) rfl ?_
    refine tz_iload_n (pc := 17) dX12_clause1_17 rfl rfl ?_
    refine tz_if_ne (pc := 18) (tgt := 28) dX12_clause1_18 (by decide) (by omega) (fun h_18 => ?_) (fun h_18 => ?_)
    · refine tz_iload_n (pc := 28) dX12_clause1_28 rfl rfl ?_
      refine tz_iconst (pc := 29) dX12_clause1_29 ?_
      refine tz_icmp_ne (pc := 30) (tgt := 46) dX12_clause1_30 (by decide) (by omega) (by decide) (fun h_30 => ?_) (fun h_30 => ?_)
      · refine tz_iload_n (pc := 46) dX12_clause1_46 rfl rfl ?_
        refine tz_iconst (pc := 47) dX12_clause1_47 ?_
        refine tz_icmp_ne (pc := 48) (tgt := 58) dX12_clause1_48 (by decide) (by omega) (by decide) (fun h_48 => ?_) (fun h_48 => ?_)
        · refine tz_iload_n (pc := 58) dX12_clause1_58 rfl rfl ?_
          refine tz_iconst (pc := 59) dX12_clause1_59 ?_
          refine tz_icmp_ne (pc := 60) (tgt := 70) dX12_clause1_60 (by decide) (by omega) (by decide) (fun h_60 => ?_) (fun h_60 => ?_)
          · refine tz_aload_n (pc := 70) dX12_clause1_70 rfl rfl ?_
            refine tz_iload_n (pc := 71) dX12_clause1_71 rfl rfl ?_
            refine tz_iconst (pc := 72) dX12_clause1_72 ?_
            refine tz_icmp_ne (pc := 73) (tgt := 80) dX12_clause1_73 (by decide) (by omega) (by decide) (fun h_73 => ?_) (fun h_73 => ?_)
            · refine tz_iconst (pc := 80) dX12_clause1_80 ?_
              refine tz_iconst (pc := 81) dX12_clause1_81 ?_
              refine tz_cV (pc := 82) (m_wantsW hl n _ _ _ (by decide) (by decide) (g0).2.1 (by decide)) vl_X12_276 dX12_clause1_82 o_164 rfl rfl (Nat.le_of_ble_eq_true rfl) ⟨(Nat.le_of_ble_eq_true rfl), (Nat.le_of_ble_eq_true rfl)⟩ rfl rfl (Nat.le_of_ble_eq_true rfl) (Nat.le_of_ble_eq_true rfl) (fun r9 J_82 hq9 => ?_)
              obtain ⟨z_82, rfl, hz_82, w_82, b_82, c_82, d_82⟩ := hq9
              have q_82 := MRT.w g0 w_82
              obtain rfl : z_82 = 0 := by rcases b_82 with e9 | e9; exact e9; exact absurd rfl (c_82 e9).2.2
              have v_82 := d_82 rfl
              clear b_82 c_82 d_82
              refine tz_if_eqT (pc := 85) (tgt := 92) (by decide) dX12_clause1_85 (by decide) (by decide) ?_
              exact tz_vret (pc := 92) dX12_clause1_92 rfl (Nat.le_of_ble_eq_true rfl) (Nat.le_of_ble_eq_true rfl) ⟨Nat.le_refl _, Nat.le_add_right _ _⟩ ⟨rfl, CL.rt hI q_82⟩
            · refine tz_iconst (pc := 76) dX12_clause1_76 ?_
              refine tz_goto (pc := 77) (tgt := 81) dX12_clause1_77 (by decide) ?_
              refine tz_iconst (pc := 81) dX12_clause1_81 ?_
              refine tz_cV (pc := 82) (m_wantsW hl n _ _ _ (by decide) (by decide) (g0).2.1 (by decide)) vl_X12_276 dX12_clause1_82 o_164 rfl rfl (Nat.le_of_ble_eq_true rfl) ⟨(Nat.le_of_ble_eq_true rfl), (Nat.le_of_ble_eq_true rfl)⟩ rfl rfl (Nat.le_of_ble_eq_true rfl) (Nat.le_of_ble_eq_true rfl) (fun r9 J_82 hq9 => ?_)
              obtain ⟨z_82, rfl, hz_82, w_82, b_82, c_82, d_82⟩ := hq9
              have q_82 := MRT.w g0 w_82
              have o_82 : (z_82 = 0 ∧ ¬ J_82 164 43 = 0) ∨ (z_82 = 1 ∧ J_82 164 43 = 0) := by rcases b_82 with e9 | e9; exact Or.inl ⟨e9, d_82 e9⟩; exact Or.inr ⟨e9, (c_82 e9).2.1⟩
              clear b_82 c_82 d_82
              have i_82 := w_82.2.2.1
              rcases o_82 with ⟨rfl, v_82⟩ | ⟨rfl, v_82⟩
              · refine tz_if_eqT (pc := 85) (tgt := 92) (by decide) dX12_clause1_85 (by decide) (by decide) ?_
                exact tz_vret (pc := 92) dX12_clause1_92 rfl (Nat.le_of_ble_eq_true rfl) (Nat.le_of_ble_eq_true rfl) ⟨Nat.le_refl _, Nat.le_add_right _ _⟩ ⟨rfl, CL.rt hI q_82⟩
              · refine tz_if_eqF (pc := 85) (tgt := 92) (by decide) dX12_clause1_85 (by decide) (by decide) ?_
                refine tz_aload_n (pc := 88) dX12_clause1_88 rfl rfl ?_
                refine tz_cV (pc := 89) (m_room1 hl n _ s m (hI.rt q_82)) vl_X12_325 dX12_clause1_89 o_164 rfl rfl (Nat.le_of_ble_eq_true rfl) ⟨(Nat.le_of_ble_eq_true rfl), (Nat.le_of_ble_eq_true rfl)⟩ rfl rfl (Nat.le_of_ble_eq_true rfl) (Nat.le_of_ble_eq_true rfl) (fun r9 J_89 hq9 => ?_)
                obtain ⟨rfl, x_89⟩ := hq9
                exact tz_vret (pc := 92) dX12_clause1_92 rfl (Nat.le_of_ble_eq_true rfl) (Nat.le_of_ble_eq_true rfl) ⟨Nat.le_refl _, Nat.le_add_right _ _⟩ ⟨rfl, CL.tr x_89 (CL.rt hI q_82)⟩
          · refine tz_aload_n (pc := 63) dX12_clause1_63 rfl rfl ?_
            refine tz_cV (pc := 64) (m_entry1 hl n _ s m hI) vl_X12_322 dX12_clause1_64 o_164 rfl rfl (Nat.le_of_ble_eq_true rfl) ⟨(Nat.le_of_ble_eq_true rfl), (Nat.le_of_ble_eq_true rfl)⟩ rfl rfl (Nat.le_of_ble_eq_true rfl) (Nat.le_of_ble_eq_true rfl) (fun r9 J_64 hq9 => ?_)
            obtain ⟨rfl, x_64⟩ := hq9
            refine tz_goto (pc := 67) (tgt := 92) dX12_clause1_67 (by decide) ?_
            exact tz_vret (pc := 92) dX12_clause1_92 rfl (Nat.le_of_ble_eq_true rfl) (Nat.le_of_ble_eq_true rfl) ⟨Nat.le_refl _, Nat.le_add_right _ _⟩ ⟨rfl, CL.tr x_64 (CL.rt hI g0)⟩
        · refine tz_aload_n (pc := 51) dX12_clause1_51 rfl rfl ?_
          refine tz_cV (pc := 52) (m_rule1 hl n _ s m hI) vl_X12_319 dX12_clause1_52 o_164 rfl rfl (Nat.le_of_ble_eq_true rfl) ⟨(Nat.le_of_ble_eq_true rfl), (Nat.le_of_ble_eq_true rfl)⟩ rfl rfl (Nat.le_of_ble_eq_true rfl) (Nat.le_of_ble_eq_true rfl) (fun r9 J_52 hq9 => ?_)
          obtain ⟨rfl, x_52⟩ := hq9
          refine tz_goto (pc := 55) (tgt := 92) dX12_clause1_55 (by decide) ?_
          exact tz_vret (pc := 92) dX12_clause1_92 rfl (Nat.le_of_ble_eq_true rfl) (Nat.le_of_ble_eq_true rfl) ⟨Nat.le_refl _, Nat.le_add_right _ _⟩ ⟨rfl, CL.tr x_52 (CL.rt hI g0)⟩
      · refine tz_aload_n (pc := 33) dX12_clause1_33 rfl rfl ?_
        refine tz_cV (pc := 34) (m_goW hl n _ (g0).2.1) vl_X12_280 dX12_clause1_34 o_164 rfl rfl (Nat.le_of_ble_eq_true rfl) ⟨(Nat.le_of_ble_eq_true rfl), (Nat.le_of_ble_eq_true rfl)⟩ rfl rfl (Nat.le_of_ble_eq_true rfl) (Nat.le_of_ble_eq_true rfl) (fun r9 J_34 hq9 => ?_)
        obtain ⟨rfl, w_34, b_34⟩ := hq9
        have q_34 := MRT.w g0 w_34
        refine tz_aload_n (pc := 37) dX12_clause1_37 rfl rfl ?_
        refine tz_iconst (pc := 38) dX12_clause1_38 ?_
        refine tz_cV (pc := 39) (m_term1 hl n _ s m (q_34).1.1.1 (q_34).2.1 (q_34).2.2.2.2 (((q_34).f 44 rfl).trans h44)) vl_X12_298 dX12_clause1_39 o_164 rfl rfl (Nat.le_of_ble_eq_true rfl) ⟨(Nat.le_of_ble_eq_true rfl), (Nat.le_of_ble_eq_true rfl)⟩ rfl rfl (Nat.le_of_ble_eq_true rfl) (Nat.le_of_ble_eq_true rfl) (fun r9 J_39 hq9 => ?_)
        obtain ⟨z_39, rfl, hz_39, m_39, w_39, h_39⟩ := hq9
        have q_39 := MRT.tr q_34 w_39
        have l_39 := w_39.1.1.2
        have i_39 := w_39.2.2.1
        unfold TV at h_39
        refine tz_pop (pc := 42) dX12_clause1_42 rfl ?_
        refine tz_goto (pc := 43) (tgt := 92) dX12_clause1_43 (by decide) ?_
        exact tz_vret (pc := 92) dX12_clause1_92 rfl (Nat.le_of_ble_eq_true rfl) (Nat.le_of_ble_eq_true rfl) ⟨Nat.le_refl _, Nat.le_add_right _ _⟩ ⟨rfl, CL.rt hI q_39⟩
    · refine tz_aload_n (pc := 21) dX12_clause1_21 rfl rfl ?_
      refine tz_cV (pc := 22) (m_symbol1 hl n _ hP (by omega)) vl_X12_316 dX12_clause1_22 o_164 rfl rfl (Nat.le_of_ble_eq_true rfl) ⟨(Nat.le_of_ble_eq_true rfl), (Nat.le_of_ble_eq_true rfl)⟩ rfl rfl (Nat.le_of_ble_eq_true rfl) (Nat.le_of_ble_eq_true rfl) (fun r9 J_22 hq9 => ?_)
      obtain ⟨rfl, x_22⟩ := hq9
      refine tz_goto (pc := 25) (tgt := 92) dX12_clause1_25 (by decide) ?_
      exact tz_vret (pc := 92) dX12_clause1_92 rfl (Nat.le_of_ble_eq_true rfl) (Nat.le_of_ble_eq_true rfl) ⟨Nat.le_refl _, Nat.le_add_right _ _⟩ ⟨rfl, CL.tr (CL.sy hI x_22) (CL.rt hI g0)⟩

end
section
/-! ===== readsAll ===== -/
def RA (J1 J : zJ) (x k : Int) : Prop := zOf (zbut [164, 165]) J1 J ∧ (∀ q, (37 :: clF).contains q = false → J1 164 q = J 164 q) ∧ (J1 164 37 = x ∧ J1 164 35 = 0 ∧ J1 164 43 = 0 ∧ J1 164 44 = 0 ∧ J1 164 21 = 0) ∧ (∀ q, (q < 126 ∨ 189 ≤ q) → J1 165 q = J 165 q) ∧ (∀ q, 0 ≤ q → q < k → J1 165 (126 + q) = 0)
theorem clG_no {k : Int} (h : (37 :: clF).contains k = false) : ¬ k = 37 ∧ clF.contains k = false ∧ ¬ k = 21 ∧ ¬ k = 44 ∧ ¬ k = 45 ∧ ¬ k = 20 ∧ ¬ k = 43 ∧ ¬ k = 35 := by
  simp [clF] at h
  simp [clF]
  omega
theorem RA.in {J : zJ} {x : Int} : RA (zup (zup (zup (zup (zup (zup (zup J 164 37 x) 164 35 0) 164 43 0) 164 20 (-1)) 164 45 0) 164 44 0) 164 21 0) J x 0 := by
  have e : ∀ q, (zup (zup (zup (zup (zup (zup (zup J 164 37 x) 164 35 0) 164 43 0) 164 20 (-1)) 164 45 0) 164 44 0) 164 21 0) 164 q = if q = 21 then 0 else if q = 44 then 0 else if q = 45 then 0 else if q = 20 then -1 else if q = 43 then 0 else if q = 35 then 0 else if q = 37 then x else J 164 q := fun _ => rfl
  refine ⟨zOf.up rfl (zOf.up rfl (zOf.up rfl (zOf.up rfl (zOf.up rfl (zOf.up rfl (zOf.up rfl zOf.rf)))))), fun q hq => ?_, ⟨rfl, rfl, rfl, rfl, rfl⟩, fun _ _ => rfl, fun q a c => by omega⟩
  obtain ⟨a1, _, a2, a3, a4, a5, a6, a7⟩ := clG_no hq
  rw [e, if_neg a2, if_neg a3, if_neg a4, if_neg a5, if_neg a6, if_neg a7, if_neg a1]
theorem RA.up {J1 J : zJ} {x k : Int} (h : RA J1 J x k) (hk : 0 ≤ k ∧ k < 63) : RA (zup J1 165 (126 + k) 0) J x (k + 1) := by
  refine ⟨zOf.up rfl h.1, h.2.1, h.2.2.1, fun q a => (zup_ne (by omega)).trans (h.2.2.2.1 q a), fun q a c => ?_⟩
  by_cases e : q = k
  · rw [e, zup_at]
  · rw [zup_ne (by omega)]; exact h.2.2.2.2 q a (by omega)
def RX (J' J : zJ) : Prop := zOf (zbut [164, 165, 166, 167, 168, 169, 170, 171]) J' J ∧ (∀ k, (k < 126 ∨ 189 ≤ k) → J' 165 k = J 165 k) ∧ (∀ k, k < 800 → J' 166 k = J 166 k ∧ J' 168 k = J 168 k) ∧ (∀ k, k < 2400 → J' 167 k = J 167 k) ∧ (∀ k, k < 10 → J' 169 k = J 169 k ∧ J' 170 k = J 170 k ∧ J' 171 k = J 171 k) ∧ (∀ k, (37 :: clF).contains k = false → ¬ k = 15 → ¬ k = 16 → ¬ k = 17 → J' 164 k = J 164 k)
theorem RX.cl {J3 J2 J1 : zJ} (h : CLf J3 J2) (g : RX J2 J1) : RX J3 J1 := ⟨h.1.tr g.1, fun k q => (h.2.1 k q).trans (g.2.1 k q), fun k q => ⟨(h.2.2.1 k q).1.trans (g.2.2.1 k q).1, (h.2.2.1 k q).2.trans (g.2.2.1 k q).2⟩, fun k q => (h.2.2.2.1 k q).trans (g.2.2.2.1 k q), fun k q => ⟨(h.2.2.2.2.1 k q).1.trans (g.2.2.2.2.1 k q).1, (h.2.2.2.2.1 k q).2.1.trans (g.2.2.2.2.1 k q).2.1, (h.2.2.2.2.1 k q).2.2.trans (g.2.2.2.2.1 k q).2.2⟩, fun k q a b c => (h.2.2.2.2.2 k (clG_no q).2.1).trans (g.2.2.2.2.2 k q a b c)⟩
theorem RA.sz {J1 J : zJ} {x : Int} (h : RA J1 J x 63) (hx : 0 ≤ x ∧ x ≤ 700) : RSz (zup (zup (zup (zup J1 165 165 4) 164 15 800) 164 16 126) 164 17 10) := by
  have e : ∀ k, ¬ k = 15 → ¬ k = 16 → ¬ k = 17 → (zup (zup (zup (zup J1 165 165 4) 164 15 800) 164 16 126) 164 17 10) 164 k = J1 164 k := fun k a b c => by
    have e : (zup (zup (zup (zup J1 165 165 4) 164 15 800) 164 16 126) 164 17 10) 164 k = if k = 17 then 10 else if k = 16 then 126 else if k = 15 then 800 else J1 164 k := rfl
    rw [e, if_neg c, if_neg b, if_neg a]
  unfold RSz
  rw [e 37 (by decide) (by decide) (by decide), e 35 (by decide) (by decide) (by decide), h.2.2.1.1, h.2.2.1.2.1]
  omega
theorem RA.go {J3 J1 J : zJ} {x : Int} (h : RA J1 J x 63) (g : RGw J3 (zup (zup (zup (zup J1 165 165 4) 164 15 800) 164 16 126) 164 17 10)) : RX J3 J ∧ TI J3 0 0 := by
  have e4 : ∀ k, (zup (zup (zup (zup J1 165 165 4) 164 15 800) 164 16 126) 164 17 10) 164 k = if k = 17 then 10 else if k = 16 then 126 else if k = 15 then 800 else J1 164 k := fun _ => rfl
  have e5 : ∀ k, (zup (zup (zup (zup J1 165 165 4) 164 15 800) 164 16 126) 164 17 10) 165 k = if k = 165 then 4 else J1 165 k := fun _ => rfl
  have f : zOf (zbut [164, 165]) (zup (zup (zup (zup J1 165 165 4) 164 15 800) 164 16 126) 164 17 10) J1 := zOf.up rfl (zOf.up rfl (zOf.up rfl (zOf.up rfl zOf.rf)))
  generalize (zup (zup (zup (zup J1 165 165 4) 164 15 800) 164 16 126) 164 17 10) = J2 at *
  have f2 := f.tr h.1
  have g5 : J3 165 = J2 165 := g.1.1 165 rfl
  have z5 : ∀ q, 0 ≤ q → q < 63 → ¬ q = 39 → J3 165 (126 + q) = 0 := fun q a b c => by rw [g5, e5, if_neg (by omega)]; exact h.2.2.2.2 q a b
  have z9 : J3 165 (126 + 39) = 4 := by rw [g5, e5, if_pos (by decide)]
  refine ⟨⟨(g.1.1.mono (zbut_sub (fun c hc => by simp at hc ⊢; omega))).tr (f2.mono (zbut_sub (fun c hc => by simp at hc ⊢; omega))), fun k q => ?_, fun k _ => ⟨by rw [g.1.1 166 rfl, f2 166 rfl], by rw [g.1.1 168 rfl, f2 168 rfl]⟩, fun k _ => by rw [g.1.1 167 rfl, f2 167 rfl], fun k _ => ⟨by rw [g.1.1 169 rfl, f2 169 rfl], by rw [g.1.1 170 rfl, f2 170 rfl], by rw [g.1.1 171 rfl, f2 171 rfl]⟩, fun k q a b c => ?_⟩, ⟨Or.inr ⟨rfl, rfl, rfl⟩, ?_, ?_, ?_, ?_, ?_⟩, ?_, g.2.1, ?_, ?_, ?_⟩
  · rw [g5, e5, if_neg (by omega)]; exact h.2.2.2.1 k q
  · have q2 := clF_no (clG_no q).2.1
    rw [g.1.2 k q2.2.2.2.1 q2.2.2.2.2.1 q2.2.2.2.2.2, e4, if_neg c, if_neg b, if_neg a]
    exact h.2.1 k q
  · rw [g.1.2 15 rfl (by decide) (by decide), e4, if_neg (by decide), if_neg (by decide), if_pos rfl]
  · rw [g.1.2 16 rfl (by decide) (by decide), e4, if_neg (by decide), if_pos rfl]
  · rw [g.1.2 17 rfl (by decide) (by decide), e4, if_pos rfl]
  · exact z5 0 (by decide) (by decide) (by decide)
  · exact ⟨⟨by decide, fun k a c => by omega⟩, by decide, fun t a c => by omega, fun s t a c => by omega⟩
  · rw [g.1.2 44 rfl (by decide) (by decide), e4, if_neg (by decide), if_neg (by decide), if_neg (by decide)]; exact h.2.2.1.2.2.2.1
  · rw [g.1.2 21 rfl (by decide) (by decide), e4, if_neg (by decide), if_neg (by decide), if_neg (by decide)]; exact Or.inl h.2.2.1.2.2.2.2
  · have r9 : J3 165 (126 + 9) = 0 := z5 9 (by decide) (by decide) (by decide)
    have r26 : J3 165 (126 + 26) = 0 := z5 26 (by decide) (by decide) (by decide)
    have r40 : J3 165 (126 + 40) = 0 := z5 40 (by decide) (by decide) (by decide)
    refine ⟨⟨?_, fun k a c => ?_⟩, ⟨?_, ?_, fun k a c => ?_⟩, ⟨?_, fun k a c => ?_⟩, fun v a c => ?_⟩
    · show 0 ≤ J3 165 (126 + 9) ∧ J3 165 (126 + 9) ≤ 8
      omega
    · have c9 : k < J3 165 (126 + 9) := c
      omega
    · show 0 ≤ J3 165 (126 + 39) ∧ J3 165 (126 + 39) ≤ 9
      omega
    · show 0 ≤ J3 165 (126 + 40) ∧ J3 165 (126 + 40) ≤ J3 165 (126 + 39)
      omega
    · have c9 : k < 2 * J3 165 (126 + 40) := c
      omega
    · show 0 ≤ J3 165 (126 + 26) ∧ J3 165 (126 + 26) ≤ 12
      omega
    · have c9 : k < J3 165 (126 + 26) := c
      omega
    · have := z5 v (by omega) (by omega) (by omega)
      show 0 ≤ J3 165 (126 + v) ∧ J3 165 (126 + v) ≤ 0
      omega
  · exact z5 40 (by decide) (by decide) (by decide)
theorem rmu_nn {J : zJ} (h : RSz J) : 0 ≤ rmu J := by
  unfold rmu
  unfold RSz at h
  split <;> omega
/-- what a text has told -/
def TB (J : zJ) (s m : Int) : Prop := MTT J 800 10 s m ∧ J 165 126 = m ∧ J 164 44 = s ∧ ML (fun k => J 165 (126 + k)) m ∧ J 165 166 = 0
def RDf (J' J : zJ) : Prop := zOf (zbut [164, 165, 166, 167, 168, 169, 170, 171]) J' J ∧ (∀ k, (k < 126 ∨ 189 ≤ k) → J' 165 k = J 165 k) ∧ (∀ k, k < 800 → J' 166 k = J 166 k ∧ J' 168 k = J 168 k) ∧ (∀ k, k < 2400 → J' 167 k = J 167 k) ∧ (∀ k, k < 10 → J' 169 k = J 169 k ∧ J' 170 k = J 170 k ∧ J' 171 k = J 171 k) ∧ (∀ k, (37 :: clF).contains k = false → J' 164 k = J 164 k)
theorem RX.fin {J2 J : zJ} (g : RX J2 J) (hi : ∃ s m, TI J2 s m) (h0 : J 164 15 = 0 ∧ J 164 16 = 0 ∧ J 164 17 = 0) : RDf (zup (zup (zup J2 164 17 0) 164 16 0) 164 15 0) J ∧ ∃ s m, TB (zup (zup (zup J2 164 17 0) 164 16 0) 164 15 0) s m := by
  have e4 : ∀ k, (zup (zup (zup J2 164 17 0) 164 16 0) 164 15 0) 164 k = if k = 15 then 0 else if k = 16 then 0 else if k = 17 then 0 else J2 164 k := fun _ => rfl
  refine ⟨⟨zOf.up rfl (zOf.up rfl (zOf.up rfl g.1)), g.2.1, g.2.2.1, g.2.2.2.1, g.2.2.2.2.1, fun k q => ?_⟩, ?_⟩
  · rw [e4]
    split
    · next e => rw [e]; exact h0.1.symm
    · split
      · next e => rw [e]; exact h0.2.1.symm
      · split
        · next e => rw [e]; exact h0.2.2.symm
        · next a b c => exact g.2.2.2.2.2 k q a b c
  · obtain ⟨s, m, t1, t2, t3, t4, t5, t6⟩ := hi
    exact ⟨s, m, t1.2.2.2.2.2, t1.2.2.2.2.1, t2, t5, t6⟩
end
section
/-! ===== withPut ===== -/
theorem tz_aret {l : Launch} {G : tb_G} {y : tb_Mt} {R : Room} {xt : Option (Nat × (Nat → Int32))} {k1 k2 n pc mc ms m9 n0 r : Nat} {J : zJ} {L : List (Option Value)} {Q : Option Value → zJ → Prop} {X : tb_X} {rt : FieldType} (hd : decode y.2.1 pc = .ok (.areturn, 1)) (hr : y.2.2.2.1 = some rt) (hrt : (∃ n, rt = .object n) ∨ ∃ t, rt = .array t) (hc : k1 ≤ mc) (hs : k2 ≤ ms) (hn : n0 ≤ n ∧ n ≤ n0 + m9) (hq : Q (some (.ref r)) J) : tz_At l G y R xt (tb_ZM G mc ms (zQ n0 m9 Q) X) k1 k2 n J pc L [.ref r] := fun ok => tb_aret hd hr hrt hc hs ⟨J, rfl, rfl, ok, hn.1, hn.2, hq⟩
/-- a contract that says how many cells there are behind it -/
def tz_OkN (l : Launch) (G : tb_G) (y : tb_Mt) (d mc ms : Nat) (as : List Value) (n : Nat) (J : zJ) (n1 : Nat) (Q : Option Value → zJ → Prop) : Prop := zok n J → tb_Ok l G y d mc ms as n tb_shT (zI J) (zQ n1 0 Q) (zX n 0 zN)
theorem tz_OkN.of {l : Launch} {G : tb_G} {y : tb_Mt} {d mc ms : Nat} {as : List Value} {n n1 : Nat} {J : zJ} {Q : Option Value → zJ → Prop} (hl : l.stackTraces = false) (hy : plainName y.1.cls = true) (hh : y.2.2.2.2 = []) (hc : ∀ v ∈ as, v.category = 1) (hn : as.length ≤ y.2.2.1)
    (h : tz_At l G y (tb_rm d mc ms) none (tb_ZM G mc ms (zQ n1 0 Q) (zX n 0 zN)) 0 0 n J 0 (tb_L0 as y.2.2.1) []) : tz_OkN l G y d mc ms as n J n1 Q := fun ok => tb_Ok.of hl hy hh hc hn (h ok)
theorem tz_cVN {l : Launch} {G : tb_G} {y : tb_Mt} {R : Room} {xt : Option (Nat × (Nat → Int32))} {Z : tb_CT → State → Prop} {k1 k2 n pc n1 : Nat} {J : zJ} {L : List (Option Value)} {S : List Value} {idx nA d mc ms m1 m2 c9 ci : Nat} {y' : tb_Mt} {as St : List Value} {Q' : Option Value → zJ → Prop} (hM : tz_OkN l G y' d mc ms (.ref c9 :: as) n J n1 Q') (hv : tb_VL y.1.cls idx y' nA ci) (hd : decode y.2.1 pc = .ok (.invokevirtual idx, 3)) (hs : tb_cO tb_shT c9 ci = true) (hna : as.length = nA) (hst : St = as.reverse ++ .ref c9 :: S)
    (hcat : (S.map fun v => v.category).sum ≤ 8) (hR : d + 1 ≤ R.frames ∧ 8 + (y'.2.2.1 + 11) + 40 * d ≤ R.locals) (h1 : k1 + mc = m1) (h2 : k2 + ms = m2) (hce : m1 ≤ R.cells) (hsl : m2 ≤ R.slots)
    (kk : ∀ (r : Option Value) (J' : zJ), Q' r J' → tz_At l G y R xt Z m1 m2 n1 J' (pc + 3) L (r.toList ++ S)) : tz_At l G y R xt Z k1 k2 n J pc L St := fun ok => by
  simp only [tb_cO, Bool.and_eq_true, bne_iff_ne, ne_eq, beq_iff_eq] at hs
  refine tb_callV (hM ok) hv hd (tb_sh3 hs.2 rfl) hs.1 hna hst hcat hR h1 h2 hce hsl ?_ ?_
  · rintro r n' sh' I' ⟨J', rfl, rfl, ok', hn1, hn2, hq⟩
    have e : n' = n1 := by omega
    subst e
    exact kk r J' hq ok'
  · rintro E n' sh' I' ⟨J', rfl, rfl, ok', hn1, hn2, hx⟩
    exact hx.elim
theorem zro_of {J : zJ} {n : Nat} : zOf (zbut [n]) (zro J n) J := fun c hc => by
  funext k
  unfold zro
  rw [if_neg]
  intro e
  subst e
  simp [zbut] at hc
theorem zbut1 {n c : Nat} (h : c < n) : zbut [n] c = true := by
  simp [zbut]
  omega
def PAr (n : Nat) (J' J : zJ) (b d t : Int) : Prop := zOf (zbut [n]) J' J ∧ ∀ j, 0 ≤ j → j < mar J b d t → J' n j = J 167 (3 * (b + t) + j)
theorem mar_of {J' J : zJ} {b d t : Int} {n : Nat} (f : zOf (zbut [n]) J' J) (hn : 184 ≤ n) : mar J' b d t = mar J b d t := by
  unfold mar
  rw [f 166 (zbut1 (by omega)), f 170 (zbut1 (by omega))]
set_option maxHeartbeats 4000000 in
set_option maxRecDepth 100000 in
theorem m_parts {l : Launch} {G : tb_G} (hl : l.stackTraces = false) (n : Nat) (J : zJ) (t : Int) (hr_t : -2147483648 ≤ t ∧ t < 2147483648) (b r d s m : Int) (hM : MS J b r d s m) (ht : 0 ≤ t ∧ t < m) (hn0 : 184 ≤ n) (hns : n < tb_sc) : tz_OkN l G M_X12_parts 3 1 3 [.ref 164, zi t] n J (n + 1) (fun r J' => r = some (.ref n) ∧ PAr n J' J b d t) := by
  refine tz_OkN.of hl (by decide +kernel) rfl (tb_c1 rfl) (Nat.le_of_ble_eq_true rfl) ?_
  show tz_At l G M_X12_parts (tb_rm 3 1 3) none (tb_ZM G 1 3 (zQ (n + 1) 0 (fun r J' => r = some (.ref n) ∧ PAr n J' J b d t)) (zX n 0 zN)) 0 0 n J 0 [some (.ref 164), some (zi t), none, none] []
  have hT := hM.told
  have ha := hM.ar ht
  have hc9 : ¬ n = 164 ∧ ¬ n = 165 ∧ ¬ n = 166 ∧ ¬ n = 167 ∧ ¬ n = 168 ∧ ¬ n = 170 := by omega
  refine tz_iconst (pc := 0) dX12_parts_0 ?_
  refine tz_newa3 (pc := 1) dX12_parts_1 hns rfl rfl (Nat.le_of_ble_eq_true rfl) (Nat.le_of_ble_eq_true rfl) ?_
  refine tz_astore_n (pc := 3) (L2 := [_, _, _, _]) dX12_parts_3 rfl (by decide) rfl ?_
  refine tz_iconst (pc := 4) dX12_parts_4 ?_
  refine tz_istore_n (pc := 5) (L2 := [_, _, _, _]) dX12_parts_5 rfl (by decide) rfl ?_
  have loop6 : ∀ (f9 : Nat) (i : Int) (J1 : zJ), ((3 - i).toNat) < f9 → (0 ≤ i ∧ i ≤ mar J b d t) → (zOf (zbut [n]) J1 J) → (∀ q, 0 ≤ q → q < i → J1 n q = J 167 (3 * (b + t) + q)) → tz_At l G M_X12_parts (tb_rm 3 1 3) none (tb_ZM G 1 3 (zQ (n + 1) 0 (fun r J' => r = some (.ref n) ∧ PAr n J' J b d t)) (zX n 0 zN)) (0 + 1) (0 + 3) (n + 1) J1 6 [some (.ref 164), some (zi t), some (.ref n), some (zi i)] [] := by
    intro f9
    induction f9 with
    | zero => intro i J1 hm9; exact absurd hm9 (Nat.not_lt_zero _)
    | succ f9 ih6 =>
      intro i J1 hm6 hi f1 e1
      refine tz_iload_n (pc := 6) dX12_parts_6 rfl rfl ?_
      refine tz_aload_n (pc := 7) dX12_parts_7 rfl rfl ?_
      refine tz_iload_n (pc := 8) dX12_parts_8 rfl rfl ?_
      refine tz_cV (pc := 9) (m_arity hl (n + 1) _ _ (by omega) b r d s m (hM.c1 f1 hc9) ht) vl_X12_111 dX12_parts_9 o_164 rfl rfl (Nat.le_of_ble_eq_true rfl) ⟨(Nat.le_of_ble_eq_true rfl), (Nat.le_of_ble_eq_true rfl)⟩ rfl rfl (show 0 + 1 ≤ 1 by omega) (show 0 + 3 ≤ 3 by omega) (fun r9 J_9 hq9 => ?_)
      obtain ⟨z_9, rfl, hz_9, rfl, hv_9⟩ := hq9
      rw [mar_of f1 hn0] at hv_9
      obtain rfl : mar J b d t = z_9 := hv_9
      refine tz_icmp_ge (pc := 12) (tgt := 30) dX12_parts_12 (by decide) (by omega) (by omega) (fun h_12 => ?_) (fun h_12 => ?_)
      · refine tz_aload_n (pc := 30) dX12_parts_30 rfl rfl ?_
        exact tz_aret (pc := 31) dX12_parts_31 rfl (Or.inr ⟨_, rfl⟩) (Nat.le_of_ble_eq_true rfl) (Nat.le_of_ble_eq_true rfl) ⟨by omega, by omega⟩ ⟨rfl, ⟨f1, fun j x y => e1 j x (by omega)⟩⟩
      · refine tz_aload_n (pc := 15) dX12_parts_15 rfl rfl ?_
        refine tz_iload_n (pc := 16) dX12_parts_16 rfl rfl ?_
        refine tz_aload_n (pc := 17) dX12_parts_17 rfl rfl ?_
        refine tz_iload_n (pc := 18) dX12_parts_18 rfl rfl ?_
        refine tz_iload_n (pc := 19) dX12_parts_19 rfl rfl ?_
        refine tz_cV (pc := 20) (m_arg hl (n + 1) _ _ _ (by omega) (by omega) b r d s m (hM.c1 f1 hc9) ht (by omega)) vl_X12_88 dX12_parts_20 o_164 rfl rfl (Nat.le_of_ble_eq_true rfl) ⟨(Nat.le_of_ble_eq_true rfl), (Nat.le_of_ble_eq_true rfl)⟩ rfl rfl (show 0 + 1 ≤ 1 by omega) (show 0 + 3 ≤ 3 by omega) (fun r9 J_20 hq9 => ?_)
        obtain ⟨z_20, rfl, hz_20, rfl, hv_20⟩ := hq9
        rw [f1 167 (zbut1 (by omega))] at hv_20
        obtain rfl : J 167 (3 * (b + t) + i) = z_20 := hv_20
        refine tz_aS (pc := 23) (z := i) dX12_parts_23 (cA_new hn0 hns) rfl (by omega) (by omega) ?_
        refine tz_iinc (pc := 24) (z := i + 1) (L2 := [_, _, _, _]) dX12_parts_24 rfl (by omega) rfl ?_
        refine tz_goto (pc := 27) (tgt := 6) dX12_parts_27 (by decide) ?_
        exact ih6 (i + 1) _ (by omega) (by omega) (zOf.up (by simp [zbut]) f1) (fun q x y => (Decidable.em (q = i)).elim (fun e => by rw [e, zup_at]) (fun e => by rw [zup_ne e]; exact e1 q x (by omega)))
  exact loop6 _ 0 _ (Nat.lt_succ_self _) (by omega) zro_of (fun q x y => by omega)
theorem zbr {n k c : Nat} (h : c < n) (h0 : ¬ c = 164 ∧ ¬ c = 165 ∧ ¬ c = 166 ∧ ¬ c = 167 ∧ ¬ c = 168) : zbut (164 :: 165 :: 166 :: 167 :: 168 :: List.range' n k) c = true := by
  simp only [zbut, Bool.not_eq_true', List.contains_eq_mem, decide_eq_false_iff_not, List.mem_cons, List.mem_range'_1]
  omega
theorem cr9 {n k c : Nat} (h : c < n) : (List.range' n k).contains c = false := by
  simp only [List.contains_eq_mem, decide_eq_false_iff_not, List.mem_range'_1]
  omega
/-- along withPut: the table has grown, the row n holds terms -/
def WP (n k : Nat) (J1 J : zJ) (b r d s m m1 t : Int) : Prop := MG (List.range' n k) [] (fun _ => false) J1 J b r d s m m1 ∧ (J1 164 21 = 0 → ∀ j, 0 ≤ j → j < mar J b d t → 0 ≤ J1 n j ∧ J1 n j < m1)
theorem MG.nw {n k : Nat} {J3 J2 J : zJ} {b r d s m m1 : Int} (g : MG (List.range' n (k + 1)) [] (fun _ => false) J2 J b r d s m m1) (f : zOf (zbut [n]) J3 J2) (hn : 184 ≤ n) : MG (List.range' n (k + 1)) [] (fun _ => false) J3 J b r d s m m1 := g.off (fun q _ => by rw [f 164 (zbut1 (by omega))]) (fun q _ => by rw [f 165 (zbut1 (by omega))]) (f.mono (zbut_sub (fun c hc => by simp only [List.mem_singleton] at hc; subst hc; simp [List.mem_range'_1]))) ⟨rfl, rfl, rfl, rfl⟩ rfl ⟨cr9 (by omega), cr9 (by omega), cr9 (by omega), cr9 (by omega)⟩
theorem WP.in {n k : Nat} {J1 J : zJ} {b r d s m t : Int} (hM : MS J b r d s m) (ht : 0 ≤ t ∧ t < m) (h : PAr n J1 J b d t) (hn : 184 ≤ n) : WP n (k + 1) J1 J b r d s m m t := ⟨(MG.rf hM).nw h.1 hn, fun _ j x y => by
  rw [h.2 j x y]
  have := hM.arg ht ⟨x, y⟩
  omega⟩
theorem WP.st {n k : Nat} {J2 J1 J : zJ} {b r d s m m1 m2 t i z : Int} (h : WP n (k + 1) J1 J b r d s m m1 t) (g : MG (List.range' (n + 1) k) [] (fun _ => false) J2 J1 b r d s m1 m2) (hz : J2 164 21 = 0 → 0 ≤ z ∧ z < m2) (hn : 184 ≤ n) : WP n (k + 1) (zup J2 n i z) J b r d s m m2 t := by
  have g2 : MG (List.range' n (k + 1)) [] (fun _ => false) J2 J b r d s m m2 := h.1.tr (g.mono (fun c hc => by simp only [List.mem_range'_1] at hc ⊢; omega) (fun _ q => q) (fun _ q => q))
  have en : J2 n = J1 n := g.2.2.1.2.2.2 n (by
    simp only [zbut, Bool.not_eq_true', List.contains_eq_mem, decide_eq_false_iff_not, List.mem_cons, List.mem_range'_1]
    omega)
  refine ⟨g2.nw (zOf.up (by simp [zbut]) zOf.rf) hn, fun q j x y => ?_⟩
  have q2 : J2 164 21 = 0 := by
    rw [show zup J2 n i z 164 21 = J2 164 21 from congrFun ((zOf.up (f := zbut [n]) (by simp [zbut]) zOf.rf : zOf (zbut [n]) (zup J2 n i z) J2) 164 (zbut1 (by omega))) 21] at q
    exact q
  by_cases e : j = i
  · rw [e, zup_at]; exact hz q2
  · rw [zup_ne e, en]
    have := h.2 (g.2.2.2 q2) j x y
    have := g.1.2
    omega
theorem WP.ar {n k : Nat} {J1 J : zJ} {b r d s m m1 t : Int} (h : WP n k J1 J b r d s m m1 t) (hn : 184 ≤ n) (ht : 0 ≤ t ∧ t < m) : mar J1 b d t = mar J b d t := h.1.ar ht (h.1.2.2.1.2.2.2 170 (zbr (by omega) (by decide)))
end
section
/-! ===== what holds of the reference between two calls ===== -/
def MK0 (g : Int → Int → Int) (a f m : Int) : Prop := ((0 ≤ a ∧ a ≤ 40) ∧ 0 ≤ f ∧ f < 40) ∧ ∀ k, 0 ≤ k → k < a → (ML (g ((f + k) % 40)) (g ((f + k) % 40) 0) ∧ 0 ≤ g ((f + k) % 40) 0 ∧ g ((f + k) % 40) 0 ≤ m) ∧ ∀ q, k ≤ q → q < a → g ((f + k) % 40) 0 ≤ g ((f + q) % 40) 0
theorem MK0.of {g' g : Int → Int → Int} {a f m m' : Int} (h : MK0 g a f m) (hm : m ≤ m') (e : ∀ i q, 0 ≤ i → i < 40 → 0 ≤ q → q < 63 → g' i q = g i q) : MK0 g' a f m' := by
  refine ⟨h.1, fun k x y => ?_⟩
  have h0 := h.1
  obtain ⟨⟨g1, g2⟩, g3⟩ := h.2 k x y
  rw [e ((f + k) % 40) 0 (by omega) (by omega) (by decide) (by decide)]
  refine ⟨⟨g1.of (fun q u v => e _ q (by omega) (by omega) (by omega) (by omega)), by omega⟩, fun q u v => ?_⟩
  rw [e ((f + q) % 40) 0 (by omega) (by omega) (by decide) (by decide)]
  exact g3 q u v
theorem MK0.push {g' g : Int → Int → Int} {a f m0 m : Int} (h : MK0 g a f m0) (ha : a < 40) (h0 : 0 ≤ m0) (hm : m0 ≤ m) (e : ∀ i q, 0 ≤ i → i < 40 → 0 ≤ q → q < 63 → ¬ i = (f + a) % 40 → g' i q = g i q) (hn : ML (g' ((f + a) % 40)) m0) (hc : g' ((f + a) % 40) 0 = m0) : MK0 g' (a + 1) f m := by
  have hh := h.1
  refine ⟨by omega, fun k x y => ?_⟩
  by_cases q : k = a
  · subst q
    rw [hc]
    refine ⟨⟨hn, by omega⟩, fun q u v => ?_⟩
    obtain rfl : q = k := by omega
    omega
  · obtain ⟨⟨g1, g2⟩, g3⟩ := h.2 k x (by omega)
    rw [e ((f + k) % 40) 0 (by omega) (by omega) (by decide) (by decide) (by omega)]
    refine ⟨⟨g1.of (fun q u v => e _ q (by omega) (by omega) (by omega) (by omega) (by omega)), by omega⟩, fun p u v => ?_⟩
    by_cases w : p = a
    · rw [w, hc]; omega
    · rw [e ((f + p) % 40) 0 (by omega) (by omega) (by decide) (by decide) (by omega)]
      exact g3 p u (by omega)
theorem MK0.turn {g : Int → Int → Int} {f m : Int} (h : MK0 g 40 f m) : MK0 g 39 ((f + 1) % 40) m := by
  have hh := h.1
  refine ⟨by omega, fun k x y => ?_⟩
  obtain ⟨g1, g3⟩ := h.2 (k + 1) (by omega) (by omega)
  have e : ((f + 1) % 40 + k) % 40 = (f + (k + 1)) % 40 := by omega
  rw [e]
  refine ⟨g1, fun p u v => ?_⟩
  have e2 : ((f + 1) % 40 + p) % 40 = (f + (p + 1)) % 40 := by omega
  rw [e2]
  exact g3 (p + 1) (by omega) (by omega)
theorem MK0.pop {g : Int → Int → Int} {a f m : Int} (h : MK0 g a f m) (ha : 0 < a) : (ML (g ((f + (a - 1)) % 40)) (g ((f + (a - 1)) % 40) 0) ∧ 0 ≤ g ((f + (a - 1)) % 40) 0 ∧ g ((f + (a - 1)) % 40) 0 ≤ m) ∧ MK0 g (a - 1) f (g ((f + (a - 1)) % 40) 0) := by
  have hh := h.1
  refine ⟨(h.2 (a - 1) (by omega) (by omega)).1, by omega, fun k x y => ?_⟩
  obtain ⟨⟨g1, g2⟩, g3⟩ := h.2 k x (by omega)
  exact ⟨⟨g1, g2.1, g3 (a - 1) (by omega) (by omega)⟩, fun q u v => g3 q u (by omega)⟩
def MK (J : zJ) (B a f m : Int) : Prop := MK0 (fun i q => J 165 (B + 63 * i + q)) a f m
theorem MTT.of {J' J : zJ} {b d s m : Int} (h : MTT J b d s m) (e6 : ∀ t, 0 ≤ t → t < 400 → J' 166 (b + t) = J 166 (b + t) ∧ J' 168 (b + t) = J 168 (b + t)) (e7 : ∀ k, 3 * b ≤ k → k < 3 * b + 1200 → J' 167 k = J 167 k) (e0 : ∀ k, 0 ≤ k → k < 10 → J' 170 (d + k) = J 170 (d + k)) : MTT J' b d s m := by
  have h1 := h.1
  have h2 := h.2.1
  unfold MTT
  refine TT.congr h ⟨h1.1, fun k x y => ?_⟩ (Int.le_refl _) (fun k x y => e0 k x (by have := h1.1; omega)) (fun t x y => (e6 t x (by omega)).1) (fun t x y i u v => e7 _ (by omega) ?_) (fun t x y => (e6 t x (by omega)).2)
  · show 0 ≤ J' 170 (d + k) ∧ J' 170 (d + k) ≤ 3
    rw [e0 k x (by have := h1.1; omega)]
    exact h1.2 k x y
  · have := (arh_rg h1 (h.2.2.1 t x y).1.2).2
    have v9 : i < arh (fun k => J 170 (d + k)) (J 166 (b + t)) := v
    have t9 : arh (fun k => J 170 (d + k)) (J 166 (b + t)) ≤ 3 := this
    omega
def IM (J : zJ) : Prop := (0 ≤ J 164 19 ∧ J 164 19 ≤ 700) ∧ (J 164 14 = 0 ∨ ∃ mi, MTT J 400 0 (J 164 9) mi ∧ J 165 2709 = mi ∧ ML (fun q => J 165 (2709 + q)) mi ∧ MK J 2772 (J 164 12) (J 164 13) mi)
/-- what holds of the reference between two calls -/
def MI (J : zJ) (m : Int) : Prop := MS J 0 0 0 (J 164 9) m ∧ ML (J 165) m ∧ MK J 189 (J 164 10) (J 164 11) m ∧ IM J
theorem IM.of {J' J : zJ} (h : IM J) (e4 : ∀ k, k = 9 ∨ k = 12 ∨ k = 13 ∨ k = 14 ∨ k = 19 → J' 164 k = J 164 k) (e5 : ∀ k, 2709 ≤ k → J' 165 k = J 165 k) (e6 : ∀ k, 400 ≤ k → k < 800 → J' 166 k = J 166 k ∧ J' 168 k = J 168 k) (e7 : ∀ k, 1200 ≤ k → k < 2400 → J' 167 k = J 167 k) (e0 : ∀ k, 0 ≤ k → k < 10 → J' 170 k = J 170 k) : IM J' := by
  unfold IM
  rw [e4 19 (by omega), e4 14 (by omega), e4 9 (by omega), e4 12 (by omega), e4 13 (by omega)]
  refine ⟨h.1, h.2.imp id (fun ⟨mi, h1, h2, h3, h4⟩ => ⟨mi, h1.of (fun t x y => e6 _ (by omega) (by omega)) (fun k x y => e7 k (by omega) (by omega)) (fun k x y => ?_), (e5 2709 (by decide)).trans h2, h3.of (fun q x y => e5 _ (by omega)), h4.of (Int.le_refl _) (fun i q x y z w => e5 _ (by omega))⟩)⟩
  rw [Int.zero_add]
  exact e0 k x y
theorem zbut_lo {X : List Nat} {c : Nat} (h : ∀ x, x ∈ X → 164 ≤ x ∧ ¬ x = 173) (hc : c < 164 ∨ c = 173) : zbut X c = true := by
  simp only [zbut, Bool.not_eq_true', List.contains_eq_mem, decide_eq_false_iff_not]
  intro q
  have := h c q
  omega
/-- what a question changes -/
def mzX : List Nat := [164, 172, 174, 175, 176, 177, 178, 179, 180, 181, 182]
def MZ (J' J : zJ) : Prop := zOf (zbut mzX) J' J ∧ ∀ k, 9 ≤ k → k ≤ 20 → J' 164 k = J 164 k
theorem MZ.rf {J : zJ} : MZ J J := ⟨zOf.rf, fun _ _ _ => rfl⟩
theorem MZ.tr {J3 J2 J1 : zJ} (g : MZ J2 J1) (h : MZ J3 J2) : MZ J3 J1 := ⟨h.1.tr g.1, fun k x y => (h.2 k x y).trans (g.2 k x y)⟩
theorem MZ.up {J' J : zJ} {k v : Int} (h : MZ J' J) (hk : k < 9 ∨ 20 < k) : MZ (zup J' 164 k v) J := ⟨zOf.up rfl h.1, fun q x y => (zup_ne (by omega)).trans (h.2 q x y)⟩
theorem MZ.c {X : List Nat} {J' J : zJ} (f : zOf (zbut X) J' J) (hX : ∀ c, c ∈ X → c ∈ mzX ∧ ¬ c = 164) : MZ J' J := ⟨f.mono (zbut_sub (fun c hc => (hX c hc).1)), fun k _ _ => by
  rw [f 164]
  simp only [zbut, Bool.not_eq_true', List.contains_eq_mem, decide_eq_false_iff_not]
  exact fun q => (hX 164 q).2 rfl⟩
theorem MZ.f {X : List Nat} {J' J : zJ} {k0 : Int} (f : zOf (zbut X) J' J ∧ ∀ k, ¬ k = k0 → J' 164 k = J 164 k) (hX : ∀ c, c ∈ X → c ∈ mzX) (hk : k0 < 9 ∨ 20 < k0) : MZ J' J := ⟨f.1.mono (zbut_sub hX), fun k x y => f.2 k (by omega)⟩
theorem MR.z {J' J : zJ} {m : Int} (h : MR (J 165) m) (z : MZ J' J) : MR (J' 165) m := by rw [z.1 165 rfl]; exact h
theorem MS.z {J' J : zJ} {b r d s m : Int} (h : MS J b r d s m) (z : MZ J' J) : MS J' b r d s m := h.of ⟨z.2 15 (by decide) (by decide), z.2 16 (by decide) (by decide), z.2 17 (by decide) (by decide)⟩ (by rw [z.1 165 rfl]) (z.1 _ rfl) (z.1 _ rfl) (z.1 _ rfl) (z.1 _ rfl)
theorem IM.z {J' J : zJ} (h : IM J) (z : MZ J' J) : IM J' := h.of (fun k hk => z.2 k (by omega) (by omega)) (fun k _ => by rw [z.1 165 rfl]) (fun k _ _ => ⟨by rw [z.1 166 rfl], by rw [z.1 168 rfl]⟩) (fun k _ _ => by rw [z.1 167 rfl]) (fun k _ _ => by rw [z.1 170 rfl])
theorem MI.z {J' J : zJ} {m : Int} (h : MI J m) (z : MZ J' J) : MI J' m := by
  refine ⟨?_, by rw [z.1 165 rfl]; exact h.2.1, ?_, h.2.2.2.z z⟩
  · rw [z.2 9 (by decide) (by decide)]; exact h.1.z z
  · unfold MK
    rw [z.2 10 (by decide) (by decide), z.2 11 (by decide) (by decide), z.1 165 rfl]
    exact h.2.2.1
/-- what no act changes: how much is on the tape, the fault's place, whether there is an image -/
def SC (J' J : zJ) : Prop := J' 164 19 = J 164 19 ∧ J' 164 20 = J 164 20 ∧ J' 164 14 = J 164 14
theorem SC.of {J2 J1 J : zJ} (h : SC J1 J) (e : ∀ k, (k = 19 ∨ k = 20 ∨ k = 14) → J2 164 k = J1 164 k) : SC J2 J := ⟨(e 19 (by omega)).trans h.1, (e 20 (by omega)).trans h.2.1, (e 14 (by omega)).trans h.2.2⟩
theorem SC.z {J' J : zJ} (z : MZ J' J) : SC J' J := ⟨z.2 19 (by decide) (by decide), z.2 20 (by decide) (by decide), z.2 14 (by decide) (by decide)⟩
/-- what a call of the reference leaves -/
def MQr (J' J : zJ) : Prop := (∃ m, MI J' m) ∧ (∀ c, c < 164 ∨ c = 173 → J' c = J c) ∧ SC J' J
/-- the same of image -/
def MQi (J' J : zJ) : Prop := (∃ m, MI J' m) ∧ (∀ c, c < 164 ∨ c = 173 → J' c = J c) ∧ (J' 164 19 = J 164 19 ∧ J' 164 20 = J 164 20 ∧ J' 164 14 = 1)
theorem MZ.lo {J' J : zJ} (z : MZ J' J) (c : Nat) (hc : c < 164 ∨ c = 173) : J' c = J c := z.1 c (zbut_lo (by decide) hc)
theorem MQr.z {J' J : zJ} {m : Int} (h : MI J m) (z : MZ J' J) : MQr J' J := ⟨⟨m, h.z z⟩, z.lo, SC.z z⟩
theorem MI.told {J : zJ} {m : Int} (h : MI J m) : (0 ≤ J 164 9 ∧ J 164 9 ≤ 10) ∧ (0 ≤ m ∧ m ≤ 400) ∧ J 165 0 = m ∧ (J 164 15 = 0 ∧ J 164 16 = 0 ∧ J 164 17 = 0) ∧ ((0 ≤ J 164 10 ∧ J 164 10 ≤ 40) ∧ 0 ≤ J 164 11 ∧ J 164 11 < 40) ∧ (0 ≤ J 164 19 ∧ J 164 19 ≤ 700) := ⟨h.1.told.1, h.1.told.2.1, h.1.2.2.2.2.1, ⟨h.1.2.1, h.1.2.2.1, h.1.2.2.2.1⟩, h.2.2.1.1, h.2.2.2.1⟩
theorem MI.row {J : zJ} {m : Int} (h : MI J m) : (0 ≤ J 165 9 ∧ J 165 9 ≤ 8) ∧ (0 ≤ J 165 26 ∧ J 165 26 ≤ 12) ∧ (0 ≤ J 165 39 ∧ J 165 39 ≤ 9) ∧ (0 ≤ J 165 40 ∧ J 165 40 ≤ J 165 39) := ⟨h.2.1.1.1, h.2.1.2.2.1.1, h.2.1.2.1.1, h.2.1.2.1.2.1⟩
/-! ===== an act of the reference, begun with m0 terms ===== -/
def AM (J' J : zJ) (m0 m : Int) : Prop := (MS J' 0 0 0 (J' 164 9) m ∧ 0 ≤ m0 ∧ m0 ≤ m) ∧ (J' 164 21 = 0 → ML (J' 165) m) ∧ (ML (fun q => J' 165 (63 + q)) m0 ∧ J' 165 63 = m0) ∧ MK J' 189 (J' 164 10) (J' 164 11) m0 ∧ IM J' ∧ (∀ c, c < 164 ∨ c = 173 → J' c = J c) ∧ SC J' J
theorem zbg4 {J : zJ} {k : Int} : zbg J 164 k = if k = 34 then 0 else if k = 33 then 0 else if k = 21 then 0 else J 164 k := rfl
theorem zbg5 {J : zJ} {k : Int} : zbg J 165 k = if 63 ≤ k ∧ k < 63 + 63 then J 165 (0 + (k - 63)) else J 165 k := rfl
theorem zbg_of {J : zJ} : zOf (zbut [164, 165]) (zbg J) J := zOf.up rfl (zOf.up rfl (zOf.up rfl (zOf.mv rfl zOf.rf)))
theorem zbg_f {J : zJ} {k : Int} (h : ¬ k = 34) (h1 : ¬ k = 33) (h2 : ¬ k = 21) : zbg J 164 k = J 164 k := by rw [zbg4, if_neg h, if_neg h1, if_neg h2]
theorem zbg_r {J : zJ} {k : Int} (h : k < 63 ∨ 126 ≤ k) : zbg J 165 k = J 165 k := by rw [zbg5, if_neg (by omega)]
theorem zbg_a {J : zJ} {k : Int} (h : 0 ≤ k ∧ k < 63) : zbg J 165 (63 + k) = J 165 k := by
  rw [zbg5, if_pos (by omega)]
  congr 1
  omega
theorem AM.begin {J0 J : zJ} {m : Int} (h : MI J m) (z : (∀ c, c < 164 ∨ c = 173 → J c = J0 c) ∧ SC J J0) : AM (zbg J) J0 m m := by
  have hT := h.told
  have e4 : ∀ k, ¬ k = 34 → ¬ k = 33 → ¬ k = 21 → zbg J 164 k = J 164 k := fun k a b c => zbg_f a b c
  have f := zbg_of (J := J)
  refine ⟨⟨?_, hT.2.1.1, Int.le_refl _⟩, fun _ => h.2.1.of (fun k a b => zbg_r (by omega)), ⟨h.2.1.of (fun k a b => zbg_a (by omega)), (zbg_a (k := 0) (by decide)).trans hT.2.2.1⟩, ?_, h.2.2.2.of (fun k hk => e4 k (by omega) (by omega) (by omega)) (fun k hk => zbg_r (by omega)) (fun k _ _ => ⟨by rw [f 166 rfl], by rw [f 168 rfl]⟩) (fun k _ _ => by rw [f 167 rfl]) (fun k _ _ => by rw [f 170 rfl]), fun c hc => (f c ?_).trans (z.1 c hc), z.2.of (fun k hk => e4 k (by omega) (by omega) (by omega))⟩
  · rw [e4 9 (by decide) (by decide) (by decide)]
    exact h.1.of ⟨e4 15 (by decide) (by decide) (by decide), e4 16 (by decide) (by decide) (by decide), e4 17 (by decide) (by decide) (by decide)⟩ (zbg_r (by decide)) (f _ rfl) (f _ rfl) (f _ rfl) (f _ rfl)
  · unfold MK
    rw [e4 10 (by decide) (by decide) (by decide), e4 11 (by decide) (by decide) (by decide)]
    exact h.2.2.1.of (Int.le_refl _) (fun i q x y u v => zbg_r (by omega))
  · exact zbut_lo (by decide) hc
/-- the table grows, and what X, F, rp name changes -/
theorem AM.grow {X : List Nat} {F : List Int} {rp : Int → Bool} {J2 J1 J : zJ} {s m0 m1 m2 : Int} (h : AM J1 J m0 m1) (g : MG X F rp J2 J1 0 0 0 s m1 m2) (hX : ∀ c, c ∈ X → 171 ≤ c ∧ ¬ c = 173) (hF : ∀ k, 9 ≤ k → k ≤ 20 → (21 :: F).contains k = false) (hr : ∀ k, 63 ≤ k → rp k = false) (hs : J1 164 9 = s) (hL : J2 164 21 = 0 → J1 164 21 = 0 → ML (J1 165) m1 → ML (J2 165) m2) : AM J2 J m0 m2 := by
  obtain ⟨⟨h1, h2, h3⟩, h4, ⟨h5, h6⟩, h7, h8, h9, h0⟩ := h
  obtain ⟨f1, f2, f3, f4⟩ := g.2.2.1
  have e4 : ∀ k, 9 ≤ k → k ≤ 20 → J2 164 k = J1 164 k := fun k a b => f3 k (hF k a b)
  have e5 : ∀ k, 63 ≤ k → J2 165 k = J1 165 k := fun k a => f2 k (by omega) (hr k a)
  have fc : ∀ c, (c < 164 ∨ c = 170 ∨ c = 173) → J2 c = J1 c := fun c hc => f4 c (by
    simp only [zbut, Bool.not_eq_true', List.contains_eq_mem, decide_eq_false_iff_not, List.mem_cons]
    intro q
    rcases q with q | q | q | q | q | q <;> first | omega | (have := hX c q; omega))
  refine ⟨⟨?_, h2, by have := g.1.2; omega⟩, fun q => hL q (g.2.2.2 q) (h4 (g.2.2.2 q)), ⟨h5.of (fun k a b => e5 _ (by omega)), (e5 63 (by decide)).trans h6⟩, ?_, h8.of (fun k hk => e4 k (by omega) (by omega)) (fun k a => e5 k (by omega)) (fun k a b => f1.1 k (by omega)) (fun k a b => f1.2 k (by omega)) (fun k _ _ => by rw [fc 170 (by omega)]), fun c hc => (fc c (by omega)).trans (h9 c hc), h0.of (fun k hk => e4 k (by omega) (by omega))⟩
  · rw [e4 9 (by decide) (by decide), hs]
    exact g.1.1
  · unfold MK
    rw [e4 10 (by decide) (by decide), e4 11 (by decide) (by decide)]
    exact h7.of (Int.le_refl _) (fun i q x y u v => e5 _ (by omega))
theorem AM.grow0 {X : List Nat} {F : List Int} {J2 J1 J : zJ} {s m0 m1 m2 : Int} (h : AM J1 J m0 m1) (g : MG X F (fun _ => false) J2 J1 0 0 0 s m1 m2) (hX : ∀ c, c ∈ X → 171 ≤ c ∧ ¬ c = 173) (hF : ∀ k, 9 ≤ k → k ≤ 20 → (21 :: F).contains k = false) (hs : J1 164 9 = s) : AM J2 J m0 m2 := h.grow g hX hF (fun _ _ => rfl) hs (fun _ _ q => (q.mono g.1.2).of (fun k a b => g.2.2.1.2.1 k (by omega) rfl))
theorem AM.z {J2 J1 J : zJ} {m0 m : Int} (h : AM J1 J m0 m) (z : MZ J2 J1) (h21 : J2 164 21 = 0 → J1 164 21 = 0) : AM J2 J m0 m := by
  obtain ⟨⟨h1, h2, h3⟩, h4, ⟨h5, h6⟩, h7, h8, h9, h0⟩ := h
  have e5 := z.1 165 rfl
  refine ⟨⟨?_, h2, h3⟩, fun q => by rw [e5]; exact h4 (h21 q), ⟨by rw [e5]; exact h5, by rw [e5]; exact h6⟩, ?_, h8.z z, fun c hc => (z.lo c hc).trans (h9 c hc), h0.of (fun k hk => z.2 k (by omega) (by omega))⟩
  · rw [z.2 9 (by decide) (by decide)]; exact h1.z z
  · unfold MK
    rw [z.2 10 (by decide) (by decide), z.2 11 (by decide) (by decide), e5]
    exact h7
/-- the row at hand changes, the count stays -/
theorem AM.r5 {J2 J1 J : zJ} {m0 m : Int} (h : AM J1 J m0 m) (f : zOf (zbut [165]) J2 J1) (e0 : J2 165 0 = J1 165 0) (e5 : ∀ k, 63 ≤ k → J2 165 k = J1 165 k) (hL : J1 164 21 = 0 → ML (J1 165) m → ML (J2 165) m) : AM J2 J m0 m := by
  obtain ⟨⟨h1, h2, h3⟩, h4, ⟨h5, h6⟩, h7, h8, h9, h0⟩ := h
  have e4 := f 164 rfl
  refine ⟨⟨?_, h2, h3⟩, fun q => ?_, ⟨h5.of (fun k a b => e5 _ (by omega)), (e5 63 (by decide)).trans h6⟩, ?_, h8.of (fun k hk => by rw [e4]) (fun k a => e5 k (by omega)) (fun k _ _ => ⟨by rw [f 166 rfl], by rw [f 168 rfl]⟩) (fun k _ _ => by rw [f 167 rfl]) (fun k _ _ => by rw [f 170 rfl]), fun c hc => (f c ?_).trans (h9 c hc), h0.of (fun k _ => by rw [e4])⟩
  · rw [e4]
    exact h1.of ⟨by rw [e4], by rw [e4], by rw [e4]⟩ e0 (f _ rfl) (f _ rfl) (f _ rfl) (f _ rfl)
  · rw [e4] at q
    exact hL q (h4 q)
  · unfold MK
    rw [e4]
    exact h7.of (Int.le_refl _) (fun i q x y u v => e5 _ (by omega))
  · exact zbut_lo (by decide) hc
theorem zmv5 {J : zJ} {a b m k : Int} : zmv J 165 a b m 165 k = if b ≤ k ∧ k < b + m then J 165 (a + (k - b)) else J 165 k := rfl
theorem AM.fail {J2 J1 J : zJ} {m0 m : Int} (h : AM J1 J m0 m) (f : zOf (zbut [172]) J2 (zmv J1 165 63 0 63)) : MQr J2 J := by
  obtain ⟨⟨h1, h2, h3⟩, h4, ⟨h5, h6⟩, h7, h8, h9, h0⟩ := h
  have g : zOf (zbut [165, 172]) J2 J1 := (f.mono (zbut_sub (fun c hc => by simp at hc ⊢; omega))).tr (zOf.mv rfl zOf.rf)
  have e4 := g 164 rfl
  have e5 : ∀ k, J2 165 k = if 0 ≤ k ∧ k < 0 + 63 then J1 165 (63 + (k - 0)) else J1 165 k := fun k => by rw [f 165 rfl]; rfl
  have a5 : ∀ k, 0 ≤ k → k < 63 → J2 165 k = J1 165 (63 + k) := fun k a b => by
    rw [e5, if_pos (by omega)]
    congr 1
    omega
  have b5 : ∀ k, 63 ≤ k → J2 165 k = J1 165 k := fun k a => by rw [e5, if_neg (by omega)]
  refine ⟨⟨m0, ⟨h1.1, by rw [e4]; exact h1.2.1, by rw [e4]; exact h1.2.2.1, by rw [e4]; exact h1.2.2.2.1, (a5 0 (by decide) (by decide)).trans h6, ?_⟩, h5.of (fun k a b => a5 k (by omega) (by omega)), ?_, h8.of (fun k hk => by rw [e4]) (fun k a => b5 k (by omega)) (fun k _ _ => ⟨by rw [g 166 rfl], by rw [g 168 rfl]⟩) (fun k _ _ => by rw [g 167 rfl]) (fun k _ _ => by rw [g 170 rfl])⟩, fun c hc => (g c ?_).trans (h9 c hc), h0.of (fun k _ => by rw [e4])⟩
  · unfold MTT
    rw [e4, g 166 rfl, g 167 rfl, g 168 rfl, g 170 rfl]
    exact h1.2.2.2.2.2.cut h2 h3
  · unfold MK
    rw [e4]
    exact h7.of (Int.le_refl _) (fun i q x y u v => b5 _ (by omega))
  · exact zbut_lo (by decide) hc
theorem AM.kept {J2 J1 J : zJ} {m0 m a f : Int} (h : AM J1 J m0 m) (hf : J1 164 21 = 0) (hk : MK0 (fun i q => J1 165 (189 + 63 * i + q)) a f m0) (ha : a < 40) (e4 : ∀ k, ¬ k = 10 → ¬ k = 11 → J2 164 k = J1 164 k) (e10 : J2 164 10 = a + 1) (e11 : J2 164 11 = f) (g : zOf (zbut [164, 165]) J2 J1) (e5 : ∀ k, J2 165 k = if 189 + 63 * ((f + a) % 40) ≤ k ∧ k < 189 + 63 * ((f + a) % 40) + 63 then J1 165 (63 + (k - (189 + 63 * ((f + a) % 40)))) else J1 165 k) : MQr J2 J := by
  obtain ⟨⟨h1, h2, h3⟩, h4, ⟨h5, h6⟩, h7, h8, h9, h0⟩ := h
  have hk1 := hk.1
  have hp : 0 ≤ (f + a) % 40 ∧ (f + a) % 40 < 40 := by omega
  generalize hP : (f + a) % 40 = P at *
  have b5 : ∀ k, (k < 189 ∨ 2709 ≤ k) → J2 165 k = J1 165 k := fun k q => by rw [e5, if_neg (by omega)]
  refine ⟨⟨m, ⟨h1.1, (e4 15 (by decide) (by decide)).trans h1.2.1, (e4 16 (by decide) (by decide)).trans h1.2.2.1, (e4 17 (by decide) (by decide)).trans h1.2.2.2.1, (b5 0 (by decide)).trans h1.2.2.2.2.1, ?_⟩, (h4 hf).of (fun k x y => b5 k (by omega)), ?_, h8.of (fun k hk => e4 k (by omega) (by omega)) (fun k x => b5 k (by omega)) (fun k _ _ => ⟨by rw [g 166 rfl], by rw [g 168 rfl]⟩) (fun k _ _ => by rw [g 167 rfl]) (fun k _ _ => by rw [g 170 rfl])⟩, fun c hc => (g c ?_).trans (h9 c hc), h0.of (fun k hk => e4 k (by omega) (by omega))⟩
  · unfold MTT
    rw [e4 9 (by decide) (by decide), g 166 rfl, g 167 rfl, g 168 rfl, g 170 rfl]
    exact h1.2.2.2.2.2
  · unfold MK
    rw [e10, e11]
    have en : ∀ q, 0 ≤ q → q < 63 → J2 165 (189 + 63 * P + q) = J1 165 (63 + q) := fun q x y => by
      rw [e5, if_pos (by omega)]
      congr 1
      omega
    refine hk.push ha h2 h3 (fun i q x y u v w => ?_) ?_ ?_
    · rw [hP] at w
      show J2 165 (189 + 63 * i + q) = J1 165 (189 + 63 * i + q)
      rw [e5, if_neg (by omega)]
    · rw [hP]
      exact h5.of (fun q x y => en q (by omega) (by omega))
    · rw [hP]
      show J2 165 (189 + 63 * P + 0) = m0
      rw [en 0 (by decide) (by decide)]
      exact h6
  · exact zbut_lo (by decide) hc
theorem AM.keep {J2 J1 J : zJ} {m0 m z a : Int} (h : AM J1 J m0 m) (k : (¬ J1 164 21 = 0 ∧ -3 = z ∧ zOf (zbut [172]) J2 (zmv J1 165 63 0 63)) ∨ (J1 164 21 = 0 ∧ a = z ∧ ((¬ J1 164 10 = 40 ∧ zkL J1 = J2) ∨ (J1 164 10 = 40 ∧ zkF J1 = J2)))) : MQr J2 J := by
  have hk := h.2.2.2.1
  have hk1 := hk.1
  rcases k with ⟨_, _, k⟩ | ⟨k1, _, ⟨k2, k⟩ | ⟨k2, k⟩⟩
  · exact h.fail k
  · subst k
    refine h.kept (a := J1 164 10) (f := J1 164 11) k1 hk (by omega) (fun q x y => ?_) rfl ?_ (zOf.up rfl (zOf.mv rfl zOf.rf)) (fun q => rfl)
    · unfold zkL
      rw [zup_ne x]
      rfl
    · unfold zkL
      rw [zup_ne (by decide)]
      rfl
  · subst k
    unfold MK at hk
    rw [k2] at hk
    have ht := hk.turn
    have e39 : J1 164 10 - 1 = 39 := by omega
    unfold zkF
    rw [e39]
    refine h.kept (a := 39) (f := (J1 164 11 + 1) % 40) k1 ht (by decide) (fun q x y => ?_) rfl ?_ (zOf.up rfl (zOf.mv rfl (zOf.up rfl (zOf.up rfl zOf.rf)))) (fun q => rfl)
    · rw [zup_ne x]
      show zup (zup J1 164 11 ((J1 164 11 + 1) % 40)) 164 10 39 164 q = _
      rw [zup_ne x, zup_ne y]
    · rw [zup_ne (by decide)]
      rfl
end
section
set_option maxHeartbeats 4000000 in
set_option maxRecDepth 100000 in
theorem m_isTermNow {l : Launch} {G : tb_G} (hl : l.stackTraces = false) (n : Nat) (J : zJ) (t : Int) (hr_t : -2147483648 ≤ t ∧ t < 2147483648)  (h0 : 0 ≤ J 165 0) : tz_Ok l G M_X12_isTermNow 2 0 0 [.ref 164, zi t] n J (zqi (fun z J' => (zOf (zbut [164]) J' J ∧ ∀ k, ¬ k = 8 → J' 164 k = J 164 k) ∧ (z = 0 ∨ z = 1) ∧ (z = 1 → 0 ≤ t ∧ t < J 165 0))) zN := by
  refine tz_Ok.of hl (by decide +kernel) rfl (tb_c1 rfl) (Nat.le_of_ble_eq_true rfl) ?_
  show tz_At l G M_X12_isTermNow (tb_rm 2 0 0) none (tb_ZM G 0 0 (zQ n 0 (zqi (fun z J' => (zOf (zbut [164]) J' J ∧ ∀ k, ¬ k = 8 → J' 164 k = J 164 k) ∧ (z = 0 ∨ z = 1) ∧ (z = 1 → 0 ≤ t ∧ t < J 165 0)))) (zX n 0 zN)) 0 0 n J 0 [some (.ref 164), some (zi t)] []
  refine tz_aload_n (pc := 0) dX12_isTermNow_0 rfl rfl ?_
  refine tz_aload_n (pc := 1) dX12_isTermNow_1 rfl rfl ?_
  refine tz_iload_n (pc := 2) dX12_isTermNow_2 rfl rfl ?_
  refine tz_cV (pc := 3) (m_isTerm hl n _ _ (by omega) h0) vl_X12_376 dX12_isTermNow_3 o_164 rfl rfl (Nat.le_of_ble_eq_true rfl) ⟨(Nat.le_of_ble_eq_true rfl), (Nat.le_of_ble_eq_true rfl)⟩ rfl rfl (Nat.le_of_ble_eq_true rfl) (Nat.le_of_ble_eq_true rfl) (fun r9 J_3 hq9 => ?_)
  obtain ⟨z_3, rfl, hz_3, rfl, ht9⟩ := hq9
  refine tz_iconst (pc := 6) dX12_isTermNow_6 ?_
  refine tz_cV (pc := 7) (m_right hl n _ _ _ (by omega) (by decide) (by decide)) vl_X12_334 dX12_isTermNow_7 o_164 rfl rfl (Nat.le_of_ble_eq_true rfl) ⟨(Nat.le_of_ble_eq_true rfl), (Nat.le_of_ble_eq_true rfl)⟩ rfl rfl (Nat.le_of_ble_eq_true rfl) (Nat.le_of_ble_eq_true rfl) (fun r9 J_7 hq9 => ?_)
  obtain ⟨z_7, rfl, hz_7, f9, b9, c9⟩ := hq9
  exact tz_zret (pc := 10) (z := z_7) dX12_isTermNow_10 rfl (by omega) (Nat.le_of_ble_eq_true rfl) (Nat.le_of_ble_eq_true rfl) ⟨Nat.le_refl _, Nat.le_add_right _ _⟩ ⟨_, rfl, (by omega), ⟨f9, b9, fun q9 => by have := (c9 q9).2.2; omega⟩⟩
end
section
set_option maxHeartbeats 4000000 in
set_option maxRecDepth 100000 in
theorem m_isFound {l : Launch} {G : tb_G} (hl : l.stackTraces = false) (n : Nat) (J : zJ) (u : Int) (t : Int) (w : Int) (hr_u : -2147483648 ≤ u ∧ u < 2147483648) (hr_t : -2147483648 ≤ t ∧ t < 2147483648) (hr_w : -2147483648 ≤ w ∧ w < 2147483648) (s m : Int) (hM : MS J 0 0 0 s m) (hu : 0 ≤ u ∧ u < m) (ht : 0 ≤ t ∧ t < m) : tz_Ok l G M_X12_isFound 809 0 0 [.ref 164, zi u, zi t, zi w] n J (zqi (fun z J' => (z = 0 ∨ z = 1) ∧ MZ J' J)) zN := by
  refine tz_Ok.of hl (by decide +kernel) rfl (tb_c1 rfl) (Nat.le_of_ble_eq_true rfl) ?_
  show tz_At l G M_X12_isFound (tb_rm 809 0 0) none (tb_ZM G 0 0 (zQ n 0 (zqi (fun z J' => (z = 0 ∨ z = 1) ∧ MZ J' J))) (zX n 0 zN)) 0 0 n J 0 [some (.ref 164), some (zi u), some (zi t), some (zi w)] []
  refine tz_iload_n (pc := 0) dX12_isFound_0 rfl rfl ?_
  refine tz_if_ne (pc := 1) (tgt := 11) dX12_isFound_1 (by decide) (by omega) (fun h_1 => ?_) (fun h_1 => ?_)
  · refine tz_iload_n (pc := 11) dX12_isFound_11 rfl rfl ?_
    refine tz_iconst (pc := 12) dX12_isFound_12 ?_
    refine tz_icmp_ne (pc := 13) (tgt := 23) dX12_isFound_13 (by decide) (by omega) (by decide) (fun h_13 => ?_) (fun h_13 => ?_)
    · refine tz_iload_n (pc := 23) dX12_isFound_23 rfl rfl ?_
      refine tz_iconst (pc := 24) dX12_isFound_24 ?_
      refine tz_icmp_ne (pc := 25) (tgt := 37) dX12_isFound_25 (by decide) (by omega) (by decide) (fun h_25 => ?_) (fun h_25 => ?_)
      · refine tz_aload_n (pc := 37) dX12_isFound_37 rfl rfl ?_
        refine tz_iload_n (pc := 38) dX12_isFound_38 rfl rfl ?_
        refine tz_iload_n (pc := 39) dX12_isFound_39 rfl rfl ?_
        refine tz_cV (pc := 40) (m_shape hl n _ _ _ (by omega) (by omega) 0 0 0 s m (hM.z MZ.rf) (by omega) (by omega) ) vl_X12_136 dX12_isFound_40 o_164 rfl rfl (Nat.le_of_ble_eq_true rfl) ⟨(Nat.le_of_ble_eq_true rfl), (Nat.le_of_ble_eq_true rfl)⟩ rfl rfl (Nat.le_of_ble_eq_true rfl) (Nat.le_of_ble_eq_true rfl) (fun r9 J_40 hq9 => ?_)
        obtain ⟨z_40, rfl, hz_40, rfl, hh_40⟩ := hq9
        exact tz_zret (pc := 43) (z := z_40) dX12_isFound_43 rfl (by omega) (Nat.le_of_ble_eq_true rfl) (Nat.le_of_ble_eq_true rfl) ⟨Nat.le_refl _, Nat.le_add_right _ _⟩ ⟨_, rfl, (by omega), ⟨by omega, MZ.rf⟩⟩
      · refine tz_aload_n (pc := 28) dX12_isFound_28 rfl rfl ?_
        refine tz_iload_n (pc := 29) dX12_isFound_29 rfl rfl ?_
        refine tz_iload_n (pc := 30) dX12_isFound_30 rfl rfl ?_
        refine tz_cV (pc := 31) (m_canBe hl n _ _ _ (by omega) (by omega) 0 0 0 s m (hM.z MZ.rf) (by omega) (by omega)) vl_X12_359 dX12_isFound_31 o_164 rfl rfl (Nat.le_of_ble_eq_true rfl) ⟨(Nat.le_of_ble_eq_true rfl), (Nat.le_of_ble_eq_true rfl)⟩ rfl rfl (Nat.le_of_ble_eq_true rfl) (Nat.le_of_ble_eq_true rfl) (fun r9 J_31 hq9 => ?_)
        obtain ⟨z_31, rfl, hz_31, b_31, f_31⟩ := hq9
        have x_31 : MZ J_31 J := MZ.f f_31 (by decide) (by decide)
        have y_31 := MZ.tr MZ.rf x_31
        refine tz_goto (pc := 34) (tgt := 43) dX12_isFound_34 (by decide) ?_
        exact tz_zret (pc := 43) (z := z_31) dX12_isFound_43 rfl (by omega) (Nat.le_of_ble_eq_true rfl) (Nat.le_of_ble_eq_true rfl) ⟨Nat.le_refl _, Nat.le_add_right _ _⟩ ⟨_, rfl, (by omega), ⟨by omega, y_31⟩⟩
    · refine tz_aload_n (pc := 16) dX12_isFound_16 rfl rfl ?_
      refine tz_iload_n (pc := 17) dX12_isFound_17 rfl rfl ?_
      refine tz_iload_n (pc := 18) dX12_isFound_18 rfl rfl ?_
      refine tz_cV (pc := 19) (m_doesMatch hl n _ _ _ (by omega) (by omega) 0 0 0 s m (hM.z MZ.rf) (by omega) (by omega)) vl_X12_227 dX12_isFound_19 o_164 rfl rfl (Nat.le_of_ble_eq_true rfl) ⟨(Nat.le_of_ble_eq_true rfl), (Nat.le_of_ble_eq_true rfl)⟩ rfl rfl (Nat.le_of_ble_eq_true rfl) (Nat.le_of_ble_eq_true rfl) (fun r9 J_19 hq9 => ?_)
      obtain ⟨z_19, rfl, hz_19, b_19, f_19, g_19⟩ := hq9
      have x_19 : MZ J_19 J := MZ.c f_19 (by decide)
      have y_19 := MZ.tr MZ.rf x_19
      exact tz_zret (pc := 22) (z := z_19) dX12_isFound_22 rfl (by omega) (Nat.le_of_ble_eq_true rfl) (Nat.le_of_ble_eq_true rfl) ⟨Nat.le_refl _, Nat.le_add_right _ _⟩ ⟨_, rfl, (by omega), ⟨by omega, y_19⟩⟩
  · refine tz_aload_n (pc := 4) dX12_isFound_4 rfl rfl ?_
    refine tz_iload_n (pc := 5) dX12_isFound_5 rfl rfl ?_
    refine tz_iload_n (pc := 6) dX12_isFound_6 rfl rfl ?_
    refine tz_cV (pc := 7) (m_doesMatch hl n _ _ _ (by omega) (by omega) 0 0 0 s m (hM.z MZ.rf) (by omega) (by omega)) vl_X12_227 dX12_isFound_7 o_164 rfl rfl (Nat.le_of_ble_eq_true rfl) ⟨(Nat.le_of_ble_eq_true rfl), (Nat.le_of_ble_eq_true rfl)⟩ rfl rfl (Nat.le_of_ble_eq_true rfl) (Nat.le_of_ble_eq_true rfl) (fun r9 J_7 hq9 => ?_)
    obtain ⟨z_7, rfl, hz_7, b_7, f_7, g_7⟩ := hq9
    have x_7 : MZ J_7 J := MZ.c f_7 (by decide)
    have y_7 := MZ.tr MZ.rf x_7
    exact tz_zret (pc := 10) (z := z_7) dX12_isFound_10 rfl (by omega) (Nat.le_of_ble_eq_true rfl) (Nat.le_of_ble_eq_true rfl) ⟨Nat.le_refl _, Nat.le_add_right _ _⟩ ⟨_, rfl, (by omega), ⟨by omega, y_7⟩⟩
end
section
/-! ===== acts ===== -/
theorem NR.of {J' J : zJ} {b d t : Int} (h : NR J b d t) (e6 : J' 166 = J 166) (e7 : J' 167 = J 167) (e0 : J' 170 = J 170) (e5 : J' 175 = J 175) : NR J' b d t := by
  have eo : ∀ t v, Occ J' b d t v ↔ Occ J b d t v := fun t v => ⟨fun ⟨k, q⟩ => ⟨k, (occ_cg e6 e7 e0 k t v).1 q⟩, fun ⟨k, q⟩ => ⟨k, (occ_cg e6 e7 e0 k t v).2 q⟩⟩
  obtain ⟨rk, S, h1, h2, h3⟩ := h
  refine ⟨rk, S, h1, fun v q => h2 v ((eo t v).1 q), fun v hv hS hn u hu => ?_⟩
  rw [e5] at hn hu ⊢
  exact h3 v hv hS hn u ((eo _ _).1 hu)
theorem AM.norm {J2 J1 J : zJ} {s m0 m1 m2 : Int} (h : AM J1 J m0 m1) (g : NP J2 J1 0 0 0 s m1 m2) (hs : J1 164 9 = s) : AM J2 J m0 m2 := h.grow g.2.1 (fun c hc => by simp at hc; omega) (fun k x y => by simp; omega) (fun k x => by simp [rM]; omega) hs (fun _ _ q => ⟨g.1.2.1, g.1.2.2.1, (q.2.2.1.mono g.2.1.1.2).of (fun k x y => g.2.1.2.2.1.2.1 k (by omega) (by simp [rM]; omega)), (q.2.2.2.mono g.2.1.1.2).of (fun k x y => g.2.1.2.2.1.2.1 k (by omega) (by simp [rM]; omega))⟩)
theorem AM.nz {J1 J : zJ} {m0 m1 : Int} (h : AM J1 J m0 m1) (h1 : J1 164 21 = 0) (h2 : 0 ≤ J1 164 34 ∧ J1 164 34 ≤ 101) : NZ J1 0 0 0 (J1 164 9) m1 := ⟨h.1.1, (h.2.1 h1).1, (h.2.1 h1).2.1, h2⟩
theorem AM.binds {J2 J1 J : zJ} {s m0 m1 m2 : Int} (h : AM J1 J m0 m1) (g : MG [] [] rB J2 J1 0 0 0 s m1 m2) (hb : J2 164 21 = 0 → ∀ v, 1 ≤ v → v ≤ 8 → 0 ≤ J2 165 v ∧ J2 165 v ≤ m2) (hs : J1 164 9 = s) : AM J2 J m0 m2 := h.grow g (fun c hc => by simp at hc) (fun k x y => by simp; omega) (fun k x => by simp [rB]; omega) hs (fun q0 _ q => ⟨(q.1.mono g.1.2).of (fun k x y => g.2.2.1.2.1 k (by omega) (by simp [rB]; omega)), (q.2.1.mono g.1.2).of (fun k x y => g.2.2.1.2.1 k (by omega) (by simp [rB]; omega)), (q.2.2.1.mono g.1.2).of (fun k x y => g.2.2.1.2.1 k (by omega) (by simp [rB]; omega)), hb q0⟩)
theorem ML.s0 {J : zJ} {m : Int} : ML (fun k => J 165 (0 + k)) m ↔ ML (J 165) m := by simp only [Int.zero_add]
theorem AM.rule {J1 J : zJ} {m0 m u t : Int} (h : AM J1 J m0 m) (hf : J1 164 21 = 0) (hK : J1 165 9 < 8) (hu : 0 ≤ u ∧ u < m) (ht : 0 ≤ t ∧ t < m) : AM (zup (zrl J1 0 u t) 165 40 0) J m0 m := by
  have h9 : 0 ≤ J1 165 9 ∧ J1 165 9 ≤ 8 := (h.2.1 hf).1.1
  have z9 : J1 165 (0 + 9) = J1 165 9 := by rw [Int.zero_add]
  have eK : ∀ k, zrl J1 0 u t 165 k = if k = 0 + 9 then J1 165 (0 + 9) + 1 else if k = 0 + 10 + 2 * J1 165 (0 + 9) + 1 then t else if k = 0 + 10 + 2 * J1 165 (0 + 9) then u else J1 165 k := fun k => rfl
  rw [z9] at eK
  have e : ∀ k, ¬ k = 40 → zup (zrl J1 0 u t) 165 40 0 165 k = zrl J1 0 u t 165 k := fun k q => zup_ne q
  refine h.r5 (zOf.up rfl zrl_of) ?_ (fun k x => ?_) (fun _ q => ?_)
  · rw [e 0 (by decide), eK, if_neg (by omega), if_neg (by omega), if_neg (by omega)]
  · rw [e k (by omega), eK, if_neg (by omega), if_neg (by omega), if_neg (by omega)]
  · have q1 := ML.s0.1 (ML.rl (r := 0) (ML.s0.2 q) (by rw [z9]; exact hK) hu ht)
    refine ⟨q1.1.of (fun k x y => e k (by omega)), ⟨?_, ?_, fun k x y => ?_⟩, q1.2.2.1.of (fun k x y => e k (by omega)), q1.2.2.2.of (fun k x y => e k (by omega))⟩
    · rw [e 39 (by decide)]; exact q1.2.1.1
    · rw [zup_at, e 39 (by decide)]
      have := q1.2.1.1
      omega
    · rw [zup_at] at y
      omega
theorem AM.enter {J1 J : zJ} {m0 m t : Int} (h : AM J1 J m0 m) (hf : J1 164 21 = 0) (hK : J1 165 26 < 12) (ht : 0 ≤ t ∧ t < m) : AM (zen J1 0 t) J m0 m := by
  have h9 : 0 ≤ J1 165 26 ∧ J1 165 26 ≤ 12 := (h.2.1 hf).2.2.1.1
  have z9 : J1 165 (0 + 26) = J1 165 26 := by rw [Int.zero_add]
  have eK : ∀ k, zen J1 0 t 165 k = if k = 0 + 26 then J1 165 (0 + 26) + 1 else if k = 0 + 27 + J1 165 (0 + 26) then t else J1 165 k := fun k => rfl
  rw [z9] at eK
  refine h.r5 zen_of ?_ (fun k x => ?_) (fun _ q => ML.s0.1 (ML.en (r := 0) (ML.s0.2 q) (by rw [z9]; exact hK) ht))
  · rw [eK, if_neg (by omega), if_neg (by omega)]
  · rw [eK, if_neg (by omega), if_neg (by omega)]
theorem AM.room {J1 J : zJ} {m0 m x : Int} (h : AM J1 J m0 m) (hx : 0 ≤ x ∧ x ≤ 9) : AM (zup (zup J1 165 39 x) 165 40 0) J m0 m := by
  have e : ∀ k, zup (zup J1 165 39 x) 165 40 0 165 k = if k = 40 then 0 else if k = 39 then x else J1 165 k := fun k => rfl
  refine h.r5 (zOf.up rfl (zOf.up rfl zOf.rf)) (by rw [e, if_neg (by decide), if_neg (by decide)]) (fun k y => by rw [e, if_neg (by omega), if_neg (by omega)]) (fun _ q => ⟨q.1.of (fun k y z => by rw [e, if_neg (by omega), if_neg (by omega)]), ⟨?_, ?_, fun k y z => ?_⟩, q.2.2.1.of (fun k y z => by rw [e, if_neg (by omega), if_neg (by omega)]), q.2.2.2.of (fun k y z => by rw [e, if_neg (by omega), if_neg (by omega)])⟩)
  · rw [e, if_neg (by decide), if_pos rfl]; exact hx
  · rw [e, if_pos rfl, e, if_neg (by decide), if_pos rfl]; omega
  · rw [e, if_pos rfl] at z; omega
theorem AM.bind {J1 J : zJ} {m0 m v t : Int} (h : AM J1 J m0 m) (hv : 1 ≤ v ∧ v ≤ 8) (ht : 0 ≤ t ∧ t ≤ m) : AM (zup J1 165 v t) J m0 m := by
  refine h.r5 (zOf.up rfl zOf.rf) (zup_ne (by omega)) (fun k y => zup_ne (by omega)) (fun _ q => ⟨q.1.of (fun k y z => zup_ne (by omega)), q.2.1.of (fun k y z => zup_ne (by omega)), q.2.2.1.of (fun k y z => zup_ne (by omega)), fun w a b => ?_⟩)
  by_cases e : w = v
  · rw [e, zup_at]; exact ht
  · rw [zup_ne e]; exact q.2.2.2 w a b
end
section
theorem AM.matchs {J2 J1 J : zJ} {m0 m : Int} (h : AM J1 J m0 m) (f : zOf (zbut [165]) J2 J1) (e : ∀ k, (k < 1 ∨ 8 < k) → J2 165 k = J1 165 k) (hb : ∀ v, 0 ≤ v → v < 8 → 0 ≤ J2 165 (1 + v) ∧ J2 165 (1 + v) ≤ m) : AM J2 J m0 m := h.r5 f (e 0 (by decide)) (fun k x => e k (by omega)) (fun _ q => ⟨q.1.of (fun k x y => e k (by omega)), q.2.1.of (fun k x y => e k (by omega)), q.2.2.1.of (fun k x y => e k (by omega)), fun v x y => by
  have := hb (v - 1) (by omega) (by omega)
  rw [show 1 + (v - 1) = v by omega] at this
  exact this⟩)
theorem AM.leaves {J2 J1 J : zJ} {m0 m : Int} (h : AM J1 J m0 m) (f : zOf (zbut [165]) J2 J1) (e : ∀ k, (k < 26 ∨ 38 < k) → J2 165 k = J1 165 k) (h0 : 0 ≤ J2 165 26 ∧ J2 165 26 ≤ 12) (hb : ∀ v, 0 ≤ v → v < J2 165 26 → 0 ≤ J2 165 (27 + v) ∧ J2 165 (27 + v) < m) : AM J2 J m0 m := h.r5 f (e 0 (by decide)) (fun k x => e k (by omega)) (fun _ q => ⟨q.1.of (fun k x y => e k (by omega)), q.2.1.of (fun k x y => e k (by omega)), ⟨h0, hb⟩, q.2.2.2.of (fun k x y => e k (by omega))⟩)
theorem MI.undo {J : zJ} {m : Int} (h : MI J m) (ha : 0 < J 164 10) : MQr (zmv (zup (zup J 164 8 0) 164 10 (J 164 10 - 1)) 165 (189 + 63 * ((J 164 11 + (J 164 10 - 1)) % 40)) 0 63) J := by
  have hT := h.told
  obtain ⟨⟨p1, p2, p3⟩, p4⟩ := h.2.2.1.pop ha
  have e4 : ∀ k, ¬ k = 8 → ¬ k = 10 → zmv (zup (zup J 164 8 0) 164 10 (J 164 10 - 1)) 165 (189 + 63 * ((J 164 11 + (J 164 10 - 1)) % 40)) 0 63 164 k = J 164 k := fun k a b => by
    show zup (zup J 164 8 0) 164 10 (J 164 10 - 1) 164 k = _
    rw [zup_ne b, zup_ne a]
  have e10 : zmv (zup (zup J 164 8 0) 164 10 (J 164 10 - 1)) 165 (189 + 63 * ((J 164 11 + (J 164 10 - 1)) % 40)) 0 63 164 10 = J 164 10 - 1 := rfl
  have g : zOf (zbut [164, 165]) (zmv (zup (zup J 164 8 0) 164 10 (J 164 10 - 1)) 165 (189 + 63 * ((J 164 11 + (J 164 10 - 1)) % 40)) 0 63) J := zOf.mv rfl (zOf.up rfl (zOf.up rfl zOf.rf))
  have hp : 0 ≤ (J 164 11 + (J 164 10 - 1)) % 40 ∧ (J 164 11 + (J 164 10 - 1)) % 40 < 40 := by omega
  have e5 : ∀ k, zmv (zup (zup J 164 8 0) 164 10 (J 164 10 - 1)) 165 (189 + 63 * ((J 164 11 + (J 164 10 - 1)) % 40)) 0 63 165 k = if 0 ≤ k ∧ k < 0 + 63 then J 165 (189 + 63 * ((J 164 11 + (J 164 10 - 1)) % 40) + (k - 0)) else J 165 k := fun k => rfl
  generalize zmv (zup (zup J 164 8 0) 164 10 (J 164 10 - 1)) 165 (189 + 63 * ((J 164 11 + (J 164 10 - 1)) % 40)) 0 63 = J2 at *
  generalize (J 164 11 + (J 164 10 - 1)) % 40 = P at *
  have q1 : ML (fun q => J 165 (189 + 63 * P + q)) (J 165 (189 + 63 * P + 0)) := p1
  have q2 : 0 ≤ J 165 (189 + 63 * P + 0) ∧ J 165 (189 + 63 * P + 0) ≤ m := ⟨p2, p3⟩
  have q4 : MK0 (fun i q => J 165 (189 + 63 * i + q)) (J 164 10 - 1) (J 164 11) (J 165 (189 + 63 * P + 0)) := p4
  have a5 : ∀ k, 0 ≤ k → k < 63 → J2 165 k = J 165 (189 + 63 * P + k) := fun k a b => by
    rw [e5, if_pos (by omega)]
    congr 1
    omega
  have b5 : ∀ k, 63 ≤ k → J2 165 k = J 165 k := fun k a => by rw [e5, if_neg (by omega)]
  refine ⟨⟨J 165 (189 + 63 * P + 0), ⟨h.1.1, (e4 15 (by decide) (by decide)).trans h.1.2.1, (e4 16 (by decide) (by decide)).trans h.1.2.2.1, (e4 17 (by decide) (by decide)).trans h.1.2.2.2.1, a5 0 (by decide) (by decide), ?_⟩, q1.of (fun k a b => a5 k (by omega) (by omega)), ?_, h.2.2.2.of (fun k hk => e4 k (by omega) (by omega)) (fun k a => b5 k (by omega)) (fun k _ _ => ⟨by rw [g 166 rfl], by rw [g 168 rfl]⟩) (fun k _ _ => by rw [g 167 rfl]) (fun k _ _ => by rw [g 170 rfl])⟩, fun c hc => g c ?_, ⟨e4 19 (by decide) (by decide), e4 20 (by decide) (by decide), e4 14 (by decide) (by decide)⟩⟩
  · unfold MTT
    rw [e4 9 (by decide) (by decide), g 166 rfl, g 167 rfl, g 168 rfl, g 170 rfl]
    exact h.1.2.2.2.2.2.cut q2.1 q2.2
  · unfold MK
    rw [e10, e4 11 (by decide) (by decide)]
    exact q4.of (Int.le_refl _) (fun i q x y u v => b5 _ (by omega))
  · exact zbut_lo (by decide) hc
end
section
/-! ===== image, restore ===== -/
theorem MTT.mv {J' J : zJ} {b' b d' d s m : Int} (h : MTT J b d s m) (e6 : ∀ t, 0 ≤ t → t < 400 → J' 166 (b' + t) = J 166 (b + t) ∧ J' 168 (b' + t) = J 168 (b + t)) (e7 : ∀ k, 0 ≤ k → k < 1200 → J' 167 (3 * b' + k) = J 167 (3 * b + k)) (e0 : ∀ k, 0 ≤ k → k < 10 → J' 170 (d' + k) = J 170 (d + k)) : MTT J' b' d' s m := by
  have h1 := h.1
  have h2 := h.2.1
  unfold MTT
  refine TT.congr h ⟨h1.1, fun k x y => ?_⟩ (Int.le_refl _) (fun k x y => e0 k x (by have := h1.1; omega)) (fun t x y => (e6 t x (by omega)).1) (fun t x y i u v => ?_) (fun t x y => (e6 t x (by omega)).2)
  · show 0 ≤ J' 170 (d' + k) ∧ J' 170 (d' + k) ≤ 3
    rw [e0 k x (by have := h1.1; omega)]
    exact h1.2 k x y
  · have := (arh_rg h1 (h.2.2.1 t x y).1.2).2
    have v9 : i < arh (fun k => J 170 (d + k)) (J 166 (b + t)) := v
    have t9 : arh (fun k => J 170 (d + k)) (J 166 (b + t)) ≤ 3 := this
    show J' 167 (3 * (b' + t) + i) = J 167 (3 * (b + t) + i)
    have e := e7 (3 * t + i) (by omega) (by omega)
    rw [show 3 * b' + (3 * t + i) = 3 * (b' + t) + i by omega, show 3 * b + (3 * t + i) = 3 * (b + t) + i by omega] at e
    exact e
def MVD (a b : Int) (J' J : zJ) : Prop := zOf (zbut [166, 167, 168]) J' J ∧ (J' 166 = fcy (J 166) a b 400 ∧ J' 168 = fcy (J 168) a b 400 ∧ J' 167 = fcy (J 167) (3 * a) (3 * b) 1200)
theorem fcy_at {f : Int → Int} {a b m k : Int} : fcy f a b m k = if b ≤ k ∧ k < b + m then f (a + (k - b)) else f k := rfl
theorem fcy_in {f : Int → Int} {a b m k : Int} (h : 0 ≤ k ∧ k < m) : fcy f a b m (b + k) = f (a + k) := by
  rw [fcy_at, if_pos (by omega)]
  congr 1
  omega
theorem fcy_no {f : Int → Int} {a b m k : Int} (h : k < b ∨ b + m ≤ k) : fcy f a b m k = f k := by rw [fcy_at, if_neg (by omega)]
theorem MI.image {J1 J_10 J : zJ} {m : Int} (h : MI J m) (v : MVD 0 400 J_10 (zup J 164 8 0)) (f : zOf (zbut [172]) J1 (zup (zup (zmv (zmv J_10 165 0 2709 63) 165 189 2772 2520) 164 12 (J 164 10)) 164 13 (J 164 11))) : MQi (zup J1 164 14 1) J := by
  have hT := h.told
  obtain ⟨v1, v6, v8, v7⟩ := v
  have g : zOf (zbut [164, 165, 166, 167, 168, 172]) (zup J1 164 14 1) J := zOf.up rfl ((f.mono (zbut_sub (fun c hc => by simp at hc ⊢; omega))).tr (zOf.up rfl (zOf.up rfl (zOf.mv rfl (zOf.mv rfl ((v1.mono (zbut_sub (fun c hc => by simp at hc ⊢; omega))).tr (zOf.up rfl zOf.rf)))))))
  have w6 : (zup J1 164 14 1) 166 = fcy (J 166) 0 400 400 := (f 166 rfl).trans v6
  have w8 : (zup J1 164 14 1) 168 = fcy (J 168) 0 400 400 := (f 168 rfl).trans v8
  have w7 : (zup J1 164 14 1) 167 = fcy (J 167) (3 * 0) (3 * 400) 1200 := (f 167 rfl).trans v7
  have e4 : ∀ k, (zup J1 164 14 1) 164 k = if k = 14 then 1 else if k = 13 then J 164 11 else if k = 12 then J 164 10 else if k = 8 then 0 else J 164 k := fun k => by
    show (if k = 14 then 1 else J1 164 k) = _
    rw [f 164 rfl]
    show (if k = 14 then 1 else if k = 13 then J 164 11 else if k = 12 then J 164 10 else J_10 164 k) = _
    rw [v1 164 rfl]
    rfl
  have e5 : ∀ k, (zup J1 164 14 1) 165 k = if 2772 ≤ k ∧ k < 2772 + 2520 then (if 2709 ≤ 189 + (k - 2772) ∧ 189 + (k - 2772) < 2709 + 63 then J 165 (0 + (189 + (k - 2772) - 2709)) else J 165 (189 + (k - 2772))) else (if 2709 ≤ k ∧ k < 2709 + 63 then J 165 (0 + (k - 2709)) else J 165 k) := fun k => by
    show J1 165 k = _
    rw [f 165 rfl, show J 165 = J_10 165 from (v1 165 rfl).symm]
    rfl
  generalize zup J1 164 14 1 = J9 at *
  have d4 : ∀ k, ¬ k = 14 → ¬ k = 13 → ¬ k = 12 → ¬ k = 8 → J9 164 k = J 164 k := fun k a b c d => by rw [e4, if_neg a, if_neg b, if_neg c, if_neg d]
  have l5 : ∀ k, k < 2709 → J9 165 k = J 165 k := fun k a => by rw [e5, if_neg (by omega), if_neg (by omega)]
  have i5 : ∀ k, 0 ≤ k → k < 63 → J9 165 (2709 + k) = J 165 k := fun k a b => by
    rw [e5, if_neg (by omega), if_pos (by omega)]
    congr 1
    omega
  have k5 : ∀ k, 0 ≤ k → k < 2520 → J9 165 (2772 + k) = J 165 (189 + k) := fun k a b => by
    rw [e5, if_pos (by omega), if_neg (by omega)]
    congr 1
    omega
  refine ⟨⟨m, ⟨h.1.1, (d4 15 (by decide) (by decide) (by decide) (by decide)).trans h.1.2.1, (d4 16 (by decide) (by decide) (by decide) (by decide)).trans h.1.2.2.1, (d4 17 (by decide) (by decide) (by decide) (by decide)).trans h.1.2.2.2.1, (l5 0 (by decide)).trans h.1.2.2.2.2.1, ?_⟩, h.2.1.of (fun k a b => l5 k (by omega)), ?_, ?_, Or.inr ⟨m, ?_, (i5 0 (by decide) (by decide)).trans h.1.2.2.2.2.1, h.2.1.of (fun k a b => i5 k (by omega) (by omega)), ?_⟩⟩, fun c hc => g c ?_, ⟨d4 19 (by decide) (by decide) (by decide) (by decide), d4 20 (by decide) (by decide) (by decide) (by decide), by rw [e4, if_pos rfl]⟩⟩
  · rw [d4 9 (by decide) (by decide) (by decide) (by decide)]
    exact h.1.2.2.2.2.2.of (fun t x y => ⟨by rw [w6, fcy_no (by omega)], by rw [w8, fcy_no (by omega)]⟩) (fun k x y => by rw [w7, fcy_no (by omega)]) (fun k _ _ => by rw [g 170 rfl])
  · unfold MK
    rw [d4 10 (by decide) (by decide) (by decide) (by decide), d4 11 (by decide) (by decide) (by decide) (by decide)]
    exact h.2.2.1.of (Int.le_refl _) (fun i q x y u v => l5 _ (by omega))
  · rw [d4 19 (by decide) (by decide) (by decide) (by decide)]; exact h.2.2.2.1
  · rw [d4 9 (by decide) (by decide) (by decide) (by decide)]
    exact h.1.2.2.2.2.2.mv (fun t x y => ⟨by rw [w6, fcy_in (by omega)], by rw [w8, fcy_in (by omega)]⟩) (fun k x y => by rw [w7, fcy_in (by omega)]) (fun k _ _ => by rw [g 170 rfl])
  · unfold MK
    rw [e4 12, if_neg (by decide), if_neg (by decide), if_pos rfl, e4 13, if_neg (by decide), if_pos rfl]
    refine h.2.2.1.of (Int.le_refl _) (fun i q x y u v => ?_)
    show J9 165 (2772 + 63 * i + q) = J 165 (189 + 63 * i + q)
    rw [show 2772 + 63 * i + q = 2772 + (63 * i + q) by omega, k5 _ (by omega) (by omega)]
    congr 1
    omega
  · exact zbut_lo (by decide) hc
theorem MI.restore {J1 J_19 J : zJ} {m : Int} (h : MI J m) (hi : ¬ J 164 14 = 0) (v : MVD 400 0 J_19 (zup J 164 8 0)) (f : zOf (zbut [172]) J1 (zup (zup (zmv (zmv J_19 165 2709 0 63) 165 2772 189 2520) 164 10 (J 164 12)) 164 11 (J 164 13))) : MQr J1 J := by
  have hT := h.told
  obtain ⟨mi, h1, h2, h3, h4⟩ := h.2.2.2.2.resolve_left hi
  obtain ⟨v1, v6, v8, v7⟩ := v
  have g : zOf (zbut [164, 165, 166, 167, 168, 172]) J1 J := (f.mono (zbut_sub (fun c hc => by simp at hc ⊢; omega))).tr (zOf.up rfl (zOf.up rfl (zOf.mv rfl (zOf.mv rfl ((v1.mono (zbut_sub (fun c hc => by simp at hc ⊢; omega))).tr (zOf.up rfl zOf.rf))))))
  have w6 : J1 166 = fcy (J 166) 400 0 400 := (f 166 rfl).trans v6
  have w8 : J1 168 = fcy (J 168) 400 0 400 := (f 168 rfl).trans v8
  have w7 : J1 167 = fcy (J 167) (3 * 400) (3 * 0) 1200 := (f 167 rfl).trans v7
  have e4 : ∀ k, J1 164 k = if k = 11 then J 164 13 else if k = 10 then J 164 12 else if k = 8 then 0 else J 164 k := fun k => by
    rw [f 164 rfl]
    show (if k = 11 then J 164 13 else if k = 10 then J 164 12 else J_19 164 k) = _
    rw [v1 164 rfl]
    rfl
  have e5 : ∀ k, J1 165 k = if 189 ≤ k ∧ k < 189 + 2520 then (if 0 ≤ 2772 + (k - 189) ∧ 2772 + (k - 189) < 0 + 63 then J 165 (2709 + (2772 + (k - 189) - 0)) else J 165 (2772 + (k - 189))) else (if 0 ≤ k ∧ k < 0 + 63 then J 165 (2709 + (k - 0)) else J 165 k) := fun k => by
    rw [f 165 rfl, show J 165 = J_19 165 from (v1 165 rfl).symm]
    rfl
  have d4 : ∀ k, ¬ k = 11 → ¬ k = 10 → ¬ k = 8 → J1 164 k = J 164 k := fun k a b c => by rw [e4, if_neg a, if_neg b, if_neg c]
  have l5 : ∀ k, 0 ≤ k → k < 63 → J1 165 k = J 165 (2709 + k) := fun k a b => by
    rw [e5, if_neg (by omega), if_pos (by omega)]
    congr 1
    omega
  have i5 : ∀ k, 2709 ≤ k → J1 165 k = J 165 k := fun k a => by rw [e5, if_neg (by omega), if_neg (by omega)]
  have k5 : ∀ k, 0 ≤ k → k < 2520 → J1 165 (189 + k) = J 165 (2772 + k) := fun k a b => by
    rw [e5, if_pos (by omega), if_neg (by omega)]
    congr 1
    omega
  refine ⟨⟨mi, ⟨h.1.1, (d4 15 (by decide) (by decide) (by decide)).trans h.1.2.1, (d4 16 (by decide) (by decide) (by decide)).trans h.1.2.2.1, (d4 17 (by decide) (by decide) (by decide)).trans h.1.2.2.2.1, (l5 0 (by decide) (by decide)).trans h2, ?_⟩, h3.of (fun k a b => l5 k (by omega) (by omega)), ?_, h.2.2.2.of (fun k hk => d4 k (by omega) (by omega) (by omega)) (fun k a => i5 k a) (fun k a b => ⟨by rw [w6, fcy_no (by omega)], by rw [w8, fcy_no (by omega)]⟩) (fun k a b => by rw [w7, fcy_no (by omega)]) (fun k _ _ => by rw [g 170 rfl])⟩, fun c hc => g c ?_, ⟨d4 19 (by decide) (by decide) (by decide), d4 20 (by decide) (by decide) (by decide), d4 14 (by decide) (by decide) (by decide)⟩⟩
  · rw [d4 9 (by decide) (by decide) (by decide)]
    refine h1.mv (fun t x y => ⟨?_, ?_⟩) (fun k x y => ?_) (fun k _ _ => by rw [g 170 rfl])
    · rw [w6, fcy_in (by omega)]
    · rw [w8, fcy_in (by omega)]
    · rw [w7, fcy_in (by omega)]
  · unfold MK
    rw [e4 10, if_neg (by decide), if_pos rfl, e4 11, if_pos rfl]
    refine h4.of (show mi ≤ mi from Int.le_refl _) (fun i q x y u v => ?_)
    show J1 165 (189 + 63 * i + q) = J 165 (2772 + 63 * i + q)
    rw [show 189 + 63 * i + q = 189 + (63 * i + q) by omega, k5 _ (by omega) (by omega)]
    congr 1
    omega
  · exact zbut_lo (by decide) hc
theorem MI.feed {J1 J : zJ} {m v : Int} (h : MI J m) (f : zOf (zbut [173]) J1 (zup J 164 8 0)) (hv : 0 ≤ v ∧ v ≤ 700) : (∃ m, MI (zup J1 164 19 v) m) ∧ (∀ c, c < 164 → (zup J1 164 19 v) c = J c) ∧ (zup J1 164 19 v) 164 19 = v ∧ (zup J1 164 19 v) 164 20 = J 164 20 ∧ (zup J1 164 19 v) 164 14 = J 164 14 := by
  have g : zOf (zbut [164, 173]) (zup J1 164 19 v) J := zOf.up rfl ((f.mono (zbut_sub (fun c hc => by simp at hc ⊢; omega))).tr (zOf.up rfl zOf.rf))
  have e4 : ∀ k, ¬ k = 19 → ¬ k = 8 → (zup J1 164 19 v) 164 k = J 164 k := fun k a b => by rw [zup_ne a, f 164 rfl]; exact zup_ne b
  refine ⟨⟨m, ?_, ?_, ?_, ⟨?_, ?_⟩⟩, fun c hc => g c ?_, zup_at, e4 20 (by decide) (by decide), e4 14 (by decide) (by decide)⟩
  · rw [e4 9 (by decide) (by decide)]
    exact h.1.of ⟨e4 15 (by decide) (by decide), e4 16 (by decide) (by decide), e4 17 (by decide) (by decide)⟩ (by rw [g 165 rfl]) (g _ rfl) (g _ rfl) (g _ rfl) (g _ rfl)
  · rw [g 165 rfl]; exact h.2.1
  · unfold MK
    rw [e4 10 (by decide) (by decide), e4 11 (by decide) (by decide), g 165 rfl]
    exact h.2.2.1
  · rw [zup_at]; exact hv
  · unfold MTT MK
    rw [e4 14 (by decide) (by decide), e4 9 (by decide) (by decide), e4 12 (by decide) (by decide), e4 13 (by decide) (by decide), g 165 rfl, g 166 rfl, g 167 rfl, g 168 rfl, g 170 rfl]
    exact h.2.2.2.2
  · simp [zbut]; omega
end
section
/-! ===== bank ===== -/
theorem MI.rd {J2 J0 J : zJ} {m : Int} (h : MI J m) (z : MZ J0 J) (g : RDf J2 (zup J0 164 19 0)) : MI J2 m ∧ (∀ c, c < 164 ∨ c = 173 → J2 c = J c) ∧ J2 164 19 = 0 := by
  obtain ⟨g1, g5, g6, g7, g9, g4⟩ := g
  have e4 : ∀ k, 9 ≤ k → k ≤ 18 → J2 164 k = J 164 k := fun k a b => by
    rw [g4 k (by simp [clF]; omega), zup_ne (by omega)]
    exact z.2 k a (by omega)
  have e5 : ∀ k, (k < 126 ∨ 189 ≤ k) → J2 165 k = J 165 k := fun k q => by
    rw [g5 k q]
    show J0 165 k = J 165 k
    rw [z.1 165 rfl]
  have e6 : ∀ k, k < 800 → J2 166 k = J 166 k ∧ J2 168 k = J 168 k := fun k q => by
    rw [(g6 k q).1, (g6 k q).2]
    show J0 166 k = J 166 k ∧ J0 168 k = J 168 k
    rw [z.1 166 rfl, z.1 168 rfl]
    exact ⟨rfl, rfl⟩
  have e7 : ∀ k, k < 2400 → J2 167 k = J 167 k := fun k q => by
    rw [g7 k q]
    show J0 167 k = J 167 k
    rw [z.1 167 rfl]
  have e0 : ∀ k, k < 10 → J2 170 k = J 170 k := fun k q => by
    rw [(g9 k q).2.1]
    show J0 170 k = J 170 k
    rw [z.1 170 rfl]
  have h19 : J2 164 19 = 0 := by
    rw [g4 19 (by decide)]
    exact zup_at
  refine ⟨⟨⟨h.1.1, (e4 15 (by decide) (by decide)).trans h.1.2.1, (e4 16 (by decide) (by decide)).trans h.1.2.2.1, (e4 17 (by decide) (by decide)).trans h.1.2.2.2.1, (e5 0 (by decide)).trans h.1.2.2.2.2.1, ?_⟩, h.2.1.of (fun k a b => e5 k (by omega)), ?_, by rw [h19]; decide, ?_⟩, fun c hc => ?_, h19⟩
  · rw [e4 9 (by decide) (by decide)]
    exact h.1.2.2.2.2.2.of (fun t x y => e6 _ (by omega)) (fun k x y => e7 k (by omega)) (fun k x y => e0 _ (by omega))
  · unfold MK
    rw [e4 10 (by decide) (by decide), e4 11 (by decide) (by decide)]
    exact h.2.2.1.of (Int.le_refl _) (fun i q x y u v => e5 _ (by omega))
  · rw [e4 14 (by decide) (by decide), e4 9 (by decide) (by decide), e4 12 (by decide) (by decide), e4 13 (by decide) (by decide)]
    exact h.2.2.2.2.imp id (fun ⟨mi, h1, h2, h3, h4⟩ => ⟨mi, h1.of (fun t x y => e6 _ (by omega)) (fun k x y => e7 k (by omega)) (fun k x y => e0 _ (by omega)), (e5 2709 (by decide)).trans h2, h3.of (fun q x y => e5 _ (by omega)), h4.of (show mi ≤ mi from Int.le_refl _) (fun i q x y u v => e5 _ (by omega))⟩)
  · rw [g1 c (zbut_lo (by decide) hc)]
    exact (zup_nc (by omega)).trans (z.lo c hc)
theorem MI.bank {J1 J_69 J2 : zJ} {s m m0 : Int} (h : MI J2 m0) (h19 : J2 164 19 = 0) (t : TB J2 s m) (v : MVD 800 0 J_69 J2) (f : zOf (zbut [169, 170, 171]) J1 (zup (zmv J_69 165 126 0 63) 164 9 (J2 164 44))) (e : ∀ q, 0 ≤ q → q < 10 → J1 170 q = J2 170 (10 + q)) : MI (zup (zup (zup J1 164 14 0) 164 11 0) 164 10 0) m := by
  obtain ⟨t1, t2, t3, t4, t5⟩ := t
  obtain ⟨v1, v6, v8, v7⟩ := v
  have e4 : ∀ k, (zup (zup (zup J1 164 14 0) 164 11 0) 164 10 0) 164 k = if k = 10 then 0 else if k = 11 then 0 else if k = 14 then 0 else if k = 9 then J2 164 44 else J2 164 k := fun k => by
    show (if k = 10 then 0 else if k = 11 then 0 else if k = 14 then 0 else J1 164 k) = _
    rw [f 164 rfl]
    show (if k = 10 then 0 else if k = 11 then 0 else if k = 14 then 0 else if k = 9 then J2 164 44 else J_69 164 k) = _
    rw [v1 164 rfl]
  have e5 : ∀ k, (zup (zup (zup J1 164 14 0) 164 11 0) 164 10 0) 165 k = if 0 ≤ k ∧ k < 0 + 63 then J2 165 (126 + (k - 0)) else J2 165 k := fun k => by
    show J1 165 k = _
    rw [f 165 rfl, show J2 165 = J_69 165 from (v1 165 rfl).symm]
    rfl
  have w6 : (zup (zup (zup J1 164 14 0) 164 11 0) 164 10 0) 166 = fcy (J2 166) 800 0 400 := (f 166 rfl).trans v6
  have w8 : (zup (zup (zup J1 164 14 0) 164 11 0) 164 10 0) 168 = fcy (J2 168) 800 0 400 := (f 168 rfl).trans v8
  have w7 : (zup (zup (zup J1 164 14 0) 164 11 0) 164 10 0) 167 = fcy (J2 167) (3 * 800) (3 * 0) 1200 := (f 167 rfl).trans v7
  have w0 : ∀ q, 0 ≤ q → q < 10 → (zup (zup (zup J1 164 14 0) 164 11 0) 164 10 0) 170 q = J2 170 (10 + q) := e
  generalize zup (zup (zup J1 164 14 0) 164 11 0) 164 10 0 = J9 at *
  have a5 : ∀ k, 0 ≤ k → k < 63 → J9 165 k = J2 165 (126 + k) := fun k a b => by
    rw [e5, if_pos (by omega)]
    congr 1
    omega
  have h10 : J9 164 10 = 0 := by rw [e4, if_pos rfl]
  have h11 : J9 164 11 = 0 := by rw [e4, if_neg (by decide), if_pos rfl]
  have h14 : J9 164 14 = 0 := by rw [e4, if_neg (by decide), if_neg (by decide), if_pos rfl]
  have h9 : J9 164 9 = s := by rw [e4, if_neg (by decide), if_neg (by decide), if_neg (by decide), if_pos rfl]; exact t3
  have d4 : ∀ k, ¬ k = 10 → ¬ k = 11 → ¬ k = 14 → ¬ k = 9 → J9 164 k = J2 164 k := fun k a b c d => by rw [e4, if_neg a, if_neg b, if_neg c, if_neg d]
  refine ⟨⟨h.1.1, (d4 15 (by decide) (by decide) (by decide) (by decide)).trans h.1.2.1, (d4 16 (by decide) (by decide) (by decide) (by decide)).trans h.1.2.2.1, (d4 17 (by decide) (by decide) (by decide) (by decide)).trans h.1.2.2.2.1, (a5 0 (by decide) (by decide)).trans t2, ?_⟩, t4.of (fun k a b => a5 k (by omega) (by omega)), ?_, ?_, Or.inl h14⟩
  · rw [h9]
    refine t1.mv (fun t x y => ⟨?_, ?_⟩) (fun k x y => ?_) (fun k x y => ?_)
    · rw [w6, fcy_in (by omega)]
    · rw [w8, fcy_in (by omega)]
    · rw [w7, fcy_in (by omega)]
    · rw [Int.zero_add]; exact w0 k x y
  · unfold MK
    rw [h10, h11]
    exact ⟨by decide, fun k x y => by omega⟩
  · rw [d4 19 (by decide) (by decide) (by decide) (by decide), h19]
    decide
end
