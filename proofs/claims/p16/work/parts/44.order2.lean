set_option maxHeartbeats 4000000 in
set_option maxRecDepth 100000 in
theorem c_greater {l : Launch} {G : tb_G} (hl : l.stackTraces = false) (n : Nat) (J : zJ) (s : Int) (t : Int) (hr_s : -2147483648 ≤ s ∧ s < 2147483648) (hr_t : -2147483648 ≤ t ∧ t < 2147483648) (m : Int) (C : CT J m) (hs : 0 ≤ s ∧ s < m) (ht : 0 ≤ t ∧ t < m) : tz_Ok l G M_X4_isGreater 8 0 0 [.ref 156, zi s, zi t] n J (zqi (fun z J' => (z = 0 ∨ z = 1) ∧ zOf (zbut [156, 157]) J' J ∧ J' 156 3 = J 156 3)) zN := by
  refine tz_Ok.of hl (by decide +kernel) rfl (tb_c1 rfl) (Nat.le_of_ble_eq_true rfl) ?_
  show tz_At l G M_X4_isGreater (tb_rm 8 0 0) none (tb_ZM G 0 0 (zQ n 0 (zqi (fun z J' => (z = 0 ∨ z = 1) ∧ zOf (zbut [156, 157]) J' J ∧ J' 156 3 = J 156 3))) (zX n 0 zN)) 0 0 n J 0 [some (.ref 156), some (zi s), some (zi t), none, none, none, none] []
  have hm := C.told
  refine tz_iload_n (pc := 0) dX4_isGreater_0 rfl rfl ?_
  refine tz_istore_n (pc := 1) (L2 := [_, _, _, _, _, _, _]) dX4_isGreater_1 rfl (by decide) rfl ?_
  refine tz_iload_n (pc := 2) dX4_isGreater_2 rfl rfl ?_
  refine tz_istore (pc := 3) (L2 := [_, _, _, _, _, _, _]) dX4_isGreater_3 (by decide) rfl ?_
  refine tz_iconst (pc := 5) dX4_isGreater_5 ?_
  refine tz_istore (pc := 6) (L2 := [_, _, _, _, _, _, _]) dX4_isGreater_6 (by decide) rfl ?_
  have loop8 : ∀ (f9 : Nat) (a : Int) (b : Int) (k : Int) (d6 : Option Value) (J1 : zJ), ((6 - k).toNat) < f9 → (0 ≤ k ∧ k ≤ 6) → (0 ≤ a ∧ a < m) → (0 ≤ b ∧ b < m) → (zOf (zbut [156, 157]) J1 J) → (J1 156 3 = J 156 3) → tz_At l G M_X4_isGreater (tb_rm 8 0 0) none (tb_ZM G 0 0 (zQ n 0 (zqi (fun z J' => (z = 0 ∨ z = 1) ∧ zOf (zbut [156, 157]) J' J ∧ J' 156 3 = J 156 3))) (zX n 0 zN)) 0 0 n J1 8 [some (.ref 156), some (zi s), some (zi t), some (zi a), some (zi b), some (zi k), d6] [] := by
    intro f9
    induction f9 with
    | zero => intro a b k d6 J1 hm9; exact absurd hm9 (Nat.not_lt_zero _)
    | succ f9 ih8 =>
      intro a b k d6 J1 hm8 hk ha hb fr f3
      refine tz_iload (pc := 8) dX4_isGreater_8 rfl ?_
      refine tz_bipush (pc := 10) dX4_isGreater_10 (by decide) ?_
      refine tz_icmp_ge (pc := 12) (tgt := 167) dX4_isGreater_12 (by decide) (by omega) (by decide) (fun h_12 => ?_) (fun h_12 => ?_)
      · refine tz_iconst (pc := 167) dX4_isGreater_167 ?_
        exact tz_zret (pc := 168) (z := 0) dX4_isGreater_168 rfl (Or.inl rfl) (Nat.le_of_ble_eq_true rfl) (Nat.le_of_ble_eq_true rfl) ⟨Nat.le_refl _, Nat.le_add_right _ _⟩ ⟨_, rfl, (by decide), (by first | exact ⟨by omega, f2.tr fr, k2.trans f3⟩ | exact ⟨by omega, fr, f3⟩)⟩
      · refine tz_iload_n (pc := 15) dX4_isGreater_15 rfl rfl ?_
        refine tz_iload (pc := 16) dX4_isGreater_16 rfl ?_
        refine tz_icmp_eq (pc := 18) (tgt := 167) dX4_isGreater_18 (by decide) (by omega) (by omega) (fun h_18 => ?_) (fun h_18 => ?_)
        · refine tz_iconst (pc := 167) dX4_isGreater_167 ?_
          exact tz_zret (pc := 168) (z := 0) dX4_isGreater_168 rfl (Or.inl rfl) (Nat.le_of_ble_eq_true rfl) (Nat.le_of_ble_eq_true rfl) ⟨Nat.le_refl _, Nat.le_add_right _ _⟩ ⟨_, rfl, (by decide), (by first | exact ⟨by omega, f2.tr fr, k2.trans f3⟩ | exact ⟨by omega, fr, f3⟩)⟩
        · refine tz_aload_n (pc := 21) dX4_isGreater_21 rfl rfl ?_
          refine tz_iload_n (pc := 22) dX4_isGreater_22 rfl rfl ?_
          refine tz_iload (pc := 23) dX4_isGreater_23 rfl ?_
          refine tz_cV (pc := 25) (c_weighBoth hl n _ _ _ (by omega) (by omega) m (C.of (fun c hc => fr c (by simp [zbut]; omega))) ha hb) vl_X4_29 dX4_isGreater_25 o_156 rfl rfl (Nat.le_of_ble_eq_true rfl) ⟨(Nat.le_of_ble_eq_true rfl), (Nat.le_of_ble_eq_true rfl)⟩ rfl rfl (Nat.le_of_ble_eq_true rfl) (Nat.le_of_ble_eq_true rfl) (fun r9 J_25 hq9 => ?_)
          obtain ⟨rfl, f2, k2⟩ := hq9
          refine tz_aload_n (pc := 28) dX4_isGreater_28 rfl rfl ?_
          refine tz_cV (pc := 29) (c_lacks hl n _) vl_X4_33 dX4_isGreater_29 o_156 rfl rfl (Nat.le_of_ble_eq_true rfl) ⟨(Nat.le_of_ble_eq_true rfl), (Nat.le_of_ble_eq_true rfl)⟩ rfl rfl (Nat.le_of_ble_eq_true rfl) (Nat.le_of_ble_eq_true rfl) (fun r9 J_29 hq9 => ?_)
          obtain ⟨z_29, rfl, hz_29, rfl, hz⟩ := hq9
          refine tz_if_ne (pc := 32) (tgt := 42) dX4_isGreater_32 (by decide) (by omega) (fun h_32 => ?_) (fun h_32 => ?_)
          · refine tz_iconst (pc := 42) dX4_isGreater_42 ?_
            exact tz_zret (pc := 43) (z := 0) dX4_isGreater_43 rfl (Or.inl rfl) (Nat.le_of_ble_eq_true rfl) (Nat.le_of_ble_eq_true rfl) ⟨Nat.le_refl _, Nat.le_add_right _ _⟩ ⟨_, rfl, (by decide), (by first | exact ⟨by omega, f2.tr fr, k2.trans f3⟩ | exact ⟨by omega, fr, f3⟩)⟩
          · refine tz_aload_n (pc := 35) dX4_isGreater_35 rfl rfl ?_
            refine tz_fI (pc := 36) (kz := 2) (v := (J_25 156 2)) dX4_isGreater_36 fl_X4_15 i_156_2 rfl rfl (fun r_36 => ?_)
            refine tz_if_ge (pc := 39) (tgt := 44) dX4_isGreater_39 (by decide) (by omega) (fun h_39 => ?_) (fun h_39 => ?_)
            · refine tz_aload_n (pc := 44) dX4_isGreater_44 rfl rfl ?_
              refine tz_fI (pc := 45) (kz := 2) (v := (J_25 156 2)) dX4_isGreater_45 fl_X4_15 i_156_2 rfl rfl (fun r_45 => ?_)
              refine tz_if_gt (pc := 48) (tgt := 63) dX4_isGreater_48 (by decide) (by omega) (fun h_48 => ?_) (fun h_48 => ?_)
              · refine tz_iconst (pc := 63) dX4_isGreater_63 ?_
                exact tz_zret (pc := 64) (z := 1) dX4_isGreater_64 rfl (Or.inr rfl) (Nat.le_of_ble_eq_true rfl) (Nat.le_of_ble_eq_true rfl) ⟨Nat.le_refl _, Nat.le_add_right _ _⟩ ⟨_, rfl, (by decide), (by first | exact ⟨by omega, f2.tr fr, k2.trans f3⟩ | exact ⟨by omega, fr, f3⟩)⟩
              · refine tz_aload_n (pc := 51) dX4_isGreater_51 rfl rfl ?_
                refine tz_fR (pc := 52) dX4_isGreater_52 fl_X4_25 r_156_0 ?_
                refine tz_iload (pc := 55) dX4_isGreater_55 rfl ?_
                refine tz_cV (pc := 57) (c_isVar hl n _ _ (by omega) (by omega)) vl_X4_37 dX4_isGreater_57 o_6 rfl rfl (Nat.le_of_ble_eq_true rfl) ⟨(Nat.le_of_ble_eq_true rfl), (Nat.le_of_ble_eq_true rfl)⟩ rfl rfl (Nat.le_of_ble_eq_true rfl) (Nat.le_of_ble_eq_true rfl) (fun r9 J_57 hq9 => ?_)
                obtain ⟨z_57, rfl, hz_57, rfl, rfl⟩ := hq9
                by_cases hw_60 : J_25 7 b < 0
                · rw [show (if J_25 7 b < 0 then 1 else 0 : Int) = 1 from if_pos hw_60]
                  refine tz_if_eqF (pc := 60) (tgt := 65) (by decide) dX4_isGreater_60 (by decide) (by decide) ?_
                  refine tz_iconst (pc := 63) dX4_isGreater_63 ?_
                  exact tz_zret (pc := 64) (z := 1) dX4_isGreater_64 rfl (Or.inr rfl) (Nat.le_of_ble_eq_true rfl) (Nat.le_of_ble_eq_true rfl) ⟨Nat.le_refl _, Nat.le_add_right _ _⟩ ⟨_, rfl, (by decide), (by first | exact ⟨by omega, f2.tr fr, k2.trans f3⟩ | exact ⟨by omega, fr, f3⟩)⟩
                · rw [show (if J_25 7 b < 0 then 1 else 0 : Int) = 0 from if_neg hw_60]
                  refine tz_if_eqT (pc := 60) (tgt := 65) (by decide) dX4_isGreater_60 (by decide) (by decide) ?_
                  refine tz_aload_n (pc := 65) dX4_isGreater_65 rfl rfl ?_
                  refine tz_fR (pc := 66) dX4_isGreater_66 fl_X4_25 r_156_0 ?_
                  refine tz_iload_n (pc := 69) dX4_isGreater_69 rfl rfl ?_
                  refine tz_cV (pc := 70) (c_isVar hl n _ _ (by omega) (by omega)) vl_X4_37 dX4_isGreater_70 o_6 rfl rfl (Nat.le_of_ble_eq_true rfl) ⟨(Nat.le_of_ble_eq_true rfl), (Nat.le_of_ble_eq_true rfl)⟩ rfl rfl (Nat.le_of_ble_eq_true rfl) (Nat.le_of_ble_eq_true rfl) (fun r9 J_70 hq9 => ?_)
                  obtain ⟨z_70, rfl, hz_70, rfl, rfl⟩ := hq9
                  by_cases hw_73 : J_25 7 a < 0
                  · rw [show (if J_25 7 a < 0 then 1 else 0 : Int) = 1 from if_pos hw_73]
                    refine tz_if_eqF (pc := 73) (tgt := 78) (by decide) dX4_isGreater_73 (by decide) (by decide) ?_
                    refine tz_iconst (pc := 76) dX4_isGreater_76 ?_
                    exact tz_zret (pc := 77) (z := 0) dX4_isGreater_77 rfl (Or.inl rfl) (Nat.le_of_ble_eq_true rfl) (Nat.le_of_ble_eq_true rfl) ⟨Nat.le_refl _, Nat.le_add_right _ _⟩ ⟨_, rfl, (by decide), (by first | exact ⟨by omega, f2.tr fr, k2.trans f3⟩ | exact ⟨by omega, fr, f3⟩)⟩
                  · rw [show (if J_25 7 a < 0 then 1 else 0 : Int) = 0 from if_neg hw_73]
                    refine tz_if_eqT (pc := 73) (tgt := 78) (by decide) dX4_isGreater_73 (by decide) (by decide) ?_
                    refine tz_aload_n (pc := 78) dX4_isGreater_78 rfl rfl ?_
                    refine tz_fR (pc := 79) dX4_isGreater_79 fl_X4_25 r_156_0 ?_
                    refine tz_fR (pc := 82) dX4_isGreater_82 fl_X4_43 r_6_1 ?_
                    refine tz_iload_n (pc := 85) dX4_isGreater_85 rfl rfl ?_
                    refine tz_aL (pc := 86) (z := a) (v := (J 7 a)) dX4_isGreater_86 a_7 rfl (by omega) (Eq.trans (congrFun (f2 7 rfl) a) (Eq.trans (congrFun (fr 7 rfl) a) rfl)) (fun r_86 => ?_)
                    refine tz_aload_n (pc := 87) dX4_isGreater_87 rfl rfl ?_
                    refine tz_fR (pc := 88) dX4_isGreater_88 fl_X4_25 r_156_0 ?_
                    refine tz_fR (pc := 91) dX4_isGreater_91 fl_X4_43 r_6_1 ?_
                    refine tz_iload (pc := 94) dX4_isGreater_94 rfl ?_
                    refine tz_aL (pc := 96) (z := b) (v := (J 7 b)) dX4_isGreater_96 a_7 rfl (by omega) (Eq.trans (congrFun (f2 7 rfl) b) (Eq.trans (congrFun (fr 7 rfl) b) rfl)) (fun r_96 => ?_)
                    refine tz_icmp_eq (pc := 97) (tgt := 128) dX4_isGreater_97 (by decide) (by omega) (by omega) (fun h_97 => ?_) (fun h_97 => ?_)
                    · refine tz_aload_n (pc := 128) dX4_isGreater_128 rfl rfl ?_
                      refine tz_iload_n (pc := 129) dX4_isGreater_129 rfl rfl ?_
                      refine tz_iload (pc := 130) dX4_isGreater_130 rfl ?_
                      have C2 : CT J_25 m := C.of (fun c hc => (f2 c (by simp [zbut]; omega)).trans (fr c (by simp [zbut]; omega)))
                      have e7 : J_25 7 = J 7 := (f2 7 rfl).trans (fr 7 rfl)
                      have hq := C2.pos ha hb (by rw [e7]; omega) (by omega)
                      have e8 := C2.arh ha hb (by rw [e7]; omega)
                      have ha8 := (C2.ar ha.1 ha.2).1
                      refine tz_cV (pc := 132) (c_unlikeArg hl n _ _ _ (by omega) (by omega) m C2 ha hb hq) vl_X4_46 dX4_isGreater_132 o_156 rfl rfl (Nat.le_of_ble_eq_true rfl) ⟨(Nat.le_of_ble_eq_true rfl), (Nat.le_of_ble_eq_true rfl)⟩ rfl rfl (Nat.le_of_ble_eq_true rfl) (Nat.le_of_ble_eq_true rfl) (fun r9 J_132 hq9 => ?_)
                      obtain ⟨z_132, rfl, hz_132, rfl, hz1, hz2⟩ := hq9
                      have g1 := (C2.arg (t := a) (i := z_132) (by omega) (by omega) (by omega) (by omega)).1
                      have g2 := (C2.arg (t := b) (i := z_132) (by omega) (by omega) (by omega) (by omega)).1
                      refine tz_istore (pc := 135) (L2 := [_, _, _, _, _, _, _]) dX4_isGreater_135 (by decide) rfl ?_
                      refine tz_aload_n (pc := 137) dX4_isGreater_137 rfl rfl ?_
                      refine tz_fR (pc := 138) dX4_isGreater_138 fl_X4_25 r_156_0 ?_
                      refine tz_iload_n (pc := 141) dX4_isGreater_141 rfl rfl ?_
                      refine tz_iload (pc := 142) dX4_isGreater_142 rfl ?_
                      refine tz_cV (pc := 144) (c_arg hl n _ _ _ (by omega) (by omega) (by omega)) vl_X4_50 dX4_isGreater_144 o_6 rfl rfl (Nat.le_of_ble_eq_true rfl) ⟨(Nat.le_of_ble_eq_true rfl), (Nat.le_of_ble_eq_true rfl)⟩ rfl rfl (Nat.le_of_ble_eq_true rfl) (Nat.le_of_ble_eq_true rfl) (fun r9 J_144 hq9 => ?_)
                      obtain ⟨z_144, rfl, hz_144, rfl, rfl⟩ := hq9
                      refine tz_istore_n (pc := 147) (L2 := [_, _, _, _, _, _, _]) dX4_isGreater_147 rfl (by decide) rfl ?_
                      refine tz_aload_n (pc := 148) dX4_isGreater_148 rfl rfl ?_
                      refine tz_fR (pc := 149) dX4_isGreater_149 fl_X4_25 r_156_0 ?_
                      refine tz_iload (pc := 152) dX4_isGreater_152 rfl ?_
                      refine tz_iload (pc := 154) dX4_isGreater_154 rfl ?_
                      refine tz_cV (pc := 156) (c_arg hl n _ _ _ (by omega) (by omega) (by omega)) vl_X4_50 dX4_isGreater_156 o_6 rfl rfl (Nat.le_of_ble_eq_true rfl) ⟨(Nat.le_of_ble_eq_true rfl), (Nat.le_of_ble_eq_true rfl)⟩ rfl rfl (Nat.le_of_ble_eq_true rfl) (Nat.le_of_ble_eq_true rfl) (fun r9 J_156 hq9 => ?_)
                      obtain ⟨z_156, rfl, hz_156, rfl, rfl⟩ := hq9
                      refine tz_istore (pc := 159) (L2 := [_, _, _, _, _, _, _]) dX4_isGreater_159 (by decide) rfl ?_
                      refine tz_iinc (pc := 161) (z := k + 1) (L2 := [_, _, _, _, _, _, _]) dX4_isGreater_161 rfl (by omega) rfl ?_
                      refine tz_goto (pc := 164) (tgt := 8) dX4_isGreater_164 (by decide) ?_
                      exact ih8 _ _ (k + 1) _ _ (by omega) (by omega) (by omega) (by omega) (f2.tr fr) (k2.trans f3)
                    · refine tz_aload_n (pc := 100) dX4_isGreater_100 rfl rfl ?_
                      refine tz_fR (pc := 101) dX4_isGreater_101 fl_X4_25 r_156_0 ?_
                      refine tz_fR (pc := 104) dX4_isGreater_104 fl_X4_43 r_6_1 ?_
                      refine tz_iload_n (pc := 107) dX4_isGreater_107 rfl rfl ?_
                      refine tz_aL (pc := 108) (z := a) (v := (J 7 a)) dX4_isGreater_108 a_7 rfl (by omega) (Eq.trans (congrFun (f2 7 rfl) a) (Eq.trans (congrFun (fr 7 rfl) a) rfl)) (fun r_108 => ?_)
                      refine tz_aload_n (pc := 109) dX4_isGreater_109 rfl rfl ?_
                      refine tz_fR (pc := 110) dX4_isGreater_110 fl_X4_25 r_156_0 ?_
                      refine tz_fR (pc := 113) dX4_isGreater_113 fl_X4_43 r_6_1 ?_
                      refine tz_iload (pc := 116) dX4_isGreater_116 rfl ?_
                      refine tz_aL (pc := 118) (z := b) (v := (J 7 b)) dX4_isGreater_118 a_7 rfl (by omega) (Eq.trans (congrFun (f2 7 rfl) b) (Eq.trans (congrFun (fr 7 rfl) b) rfl)) (fun r_118 => ?_)
                      refine tz_icmp_le (pc := 119) (tgt := 126) dX4_isGreater_119 (by decide) (by omega) (by omega) (fun h_119 => ?_) (fun h_119 => ?_)
                      · refine tz_iconst (pc := 126) dX4_isGreater_126 ?_
                        exact tz_zret (pc := 127) (z := 0) dX4_isGreater_127 rfl (Or.inl rfl) (Nat.le_of_ble_eq_true rfl) (Nat.le_of_ble_eq_true rfl) ⟨Nat.le_refl _, Nat.le_add_right _ _⟩ ⟨_, rfl, (by decide), (by first | exact ⟨by omega, f2.tr fr, k2.trans f3⟩ | exact ⟨by omega, fr, f3⟩)⟩
                      · refine tz_iconst (pc := 122) dX4_isGreater_122 ?_
                        refine tz_goto (pc := 123) (tgt := 127) dX4_isGreater_123 (by decide) ?_
                        exact tz_zret (pc := 127) (z := 1) dX4_isGreater_127 rfl (Or.inr rfl) (Nat.le_of_ble_eq_true rfl) (Nat.le_of_ble_eq_true rfl) ⟨Nat.le_refl _, Nat.le_add_right _ _⟩ ⟨_, rfl, (by decide), (by first | exact ⟨by omega, f2.tr fr, k2.trans f3⟩ | exact ⟨by omega, fr, f3⟩)⟩
            · refine tz_iconst (pc := 42) dX4_isGreater_42 ?_
              exact tz_zret (pc := 43) (z := 0) dX4_isGreater_43 rfl (Or.inl rfl) (Nat.le_of_ble_eq_true rfl) (Nat.le_of_ble_eq_true rfl) ⟨Nat.le_refl _, Nat.le_add_right _ _⟩ ⟨_, rfl, (by decide), (by first | exact ⟨by omega, f2.tr fr, k2.trans f3⟩ | exact ⟨by omega, fr, f3⟩)⟩
  exact loop8 _ _ _ 0 none _ (Nat.lt_succ_self _) (by omega) hs ht zOf.rf rfl

