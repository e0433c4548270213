section
/-! ===== put of the class, exact ===== -/
theorem x_put7 {l : Launch} {G : tb_G} (hl : l.stackTraces = false) (n : Nat) (J : zJ) (t p x : Int) (hr_t : -2147483648 ≤ t ∧ t < 2147483648) (hr_p : -2147483648 ≤ p ∧ p < 2147483648) (hr_x : -2147483648 ≤ x ∧ x < 2147483648) (m : Int) (C : CT J m) (hm : J 6 12 = m) (ht : 0 ≤ t ∧ t < m) (hp : p < J 10 t) (ho : 0 ≤ x ∧ x < m) (hd : J 12 t ≤ 0) : tz_Ok l G M_X2_replacedPart 0 0 0 [.ref 141, zi t, zi p, zi x, zi 7] n J (zqi (fun z J' => ∃ m', GR J' J m m' ∧ (z = -3 ∨ (0 ≤ z ∧ z < m')) ∧ ∀ S, S 164 21 = 0 → A0 J S → EXO (puO x 0 S t p) z J')) zN := by have := C.nums ht.1 ht.2; omega
set_option maxHeartbeats 4000000 in
set_option maxRecDepth 100000 in
theorem x_put6 {l : Launch} {G : tb_G} (hl : l.stackTraces = false) (n : Nat) (J : zJ) (t : Int) (p : Int) (x : Int) (hr_t : -2147483648 ≤ t ∧ t < 2147483648) (hr_p : -2147483648 ≤ p ∧ p < 2147483648) (hr_x : -2147483648 ≤ x ∧ x < 2147483648) (m : Int) (C : CT J m) (hm : J 6 12 = m) (ht : 0 ≤ t ∧ t < m) (hp : p < J 10 t) (ho : 0 ≤ x ∧ x < m) (hd : J 12 t ≤ 1) : tz_Ok l G M_X2_replacedPart 3 0 0 [.ref 141, zi t, zi p, zi x, zi 6] n J (zqi (fun z J' => ∃ m', GR J' J m m' ∧ (z = -3 ∨ (0 ≤ z ∧ z < m')) ∧ ∀ S, S 164 21 = 0 → A0 J S → EXO (puO x 1 S t p) z J')) zN := by
  refine tz_Ok.of hl (by decide +kernel) rfl (tb_c1 rfl) (Nat.le_of_ble_eq_true rfl) ?_
  show tz_At l G M_X2_replacedPart (tb_rm 3 0 0) none (tb_ZM G 0 0 (zQ n 0 (zqi (fun z J' => ∃ m', GR J' J m m' ∧ (z = -3 ∨ (0 ≤ z ∧ z < m')) ∧ ∀ S, S 164 21 = 0 → A0 J S → EXO (puO x 1 S t p) z J'))) (zX n 0 zN)) 0 0 n J 0 [some (.ref 141), some (zi t), some (zi p), some (zi x), some (zi 6), none, none, none, none, none, none] []
  have hb := C.told
  have har := C.ar ht.1 ht.2
  have hn := C.nums ht.1 ht.2
  refine tz_iload_n (pc := 0) dX2_replacedPart_0 rfl rfl ?_
  refine tz_if_gt (pc := 1) (tgt := 6) dX2_replacedPart_1 (by decide) (by omega) (fun h_1 => ?_) (fun h_1 => ?_)
  · refine tz_iload (pc := 6) dX2_replacedPart_6 rfl ?_
    refine tz_bipush (pc := 8) dX2_replacedPart_8 (by decide) ?_
    refine tz_icmp_leT (pc := 10) (tgt := 16) (by decide) dX2_replacedPart_10 (by decide) (by decide) (by decide) ?_
    refine tz_aload_n (pc := 16) dX2_replacedPart_16 rfl rfl ?_
    refine tz_fR (pc := 17) dX2_replacedPart_17 fl_X2_28 r_141_0 ?_
    refine tz_iload_n (pc := 20) dX2_replacedPart_20 rfl rfl ?_
    refine tz_iload_n (pc := 21) dX2_replacedPart_21 rfl rfl ?_
    refine tz_cV (pc := 22) (c_atPlace hl n _ _ _ (by omega) (by omega) m C (by omega) (by omega)) vl_X2_78 dX2_replacedPart_22 o_6 rfl rfl (Nat.le_of_ble_eq_true rfl) ⟨(Nat.le_of_ble_eq_true rfl), (Nat.le_of_ble_eq_true rfl)⟩ rfl rfl (Nat.le_of_ble_eq_true rfl) (Nat.le_of_ble_eq_true rfl) (fun r9 J_22 hq9 => ?_)
    obtain ⟨z_22, rfl, hz_22, rfl, hz1, hz2, hz3⟩ := hq9
    have hg := C.arg (t := t) (i := z_22) (by omega) (by omega) (by omega) (by omega)
    have hbd := zfr_bd C (t := t) (by omega) (by omega) z_22.toNat (by omega)
    refine tz_istore (pc := 25) (L2 := [_, _, _, _, _, _, _, _, _, _, _]) dX2_replacedPart_25 (by decide) rfl ?_
    refine tz_aload_n (pc := 27) dX2_replacedPart_27 rfl rfl ?_
    refine tz_fR (pc := 28) dX2_replacedPart_28 fl_X2_28 r_141_0 ?_
    refine tz_iload_n (pc := 31) dX2_replacedPart_31 rfl rfl ?_
    refine tz_iload (pc := 32) dX2_replacedPart_32 rfl ?_
    refine tz_cV (pc := 34) (c_arg hl n _ _ _ (by omega) (by omega) (by omega)) vl_X2_48 dX2_replacedPart_34 o_6 rfl rfl (Nat.le_of_ble_eq_true rfl) ⟨(Nat.le_of_ble_eq_true rfl), (Nat.le_of_ble_eq_true rfl)⟩ rfl rfl (Nat.le_of_ble_eq_true rfl) (Nat.le_of_ble_eq_true rfl) (fun r9 J_34 hq9 => ?_)
    obtain ⟨z_34, rfl, hz_34, rfl, rfl⟩ := hq9
    refine tz_istore (pc := 37) (L2 := [_, _, _, _, _, _, _, _, _, _, _]) dX2_replacedPart_37 (by decide) rfl ?_
    refine tz_aload_n (pc := 39) dX2_replacedPart_39 rfl rfl ?_
    refine tz_iload (pc := 40) dX2_replacedPart_40 rfl ?_
    refine tz_aload_n (pc := 42) dX2_replacedPart_42 rfl rfl ?_
    refine tz_fR (pc := 43) dX2_replacedPart_43 fl_X2_28 r_141_0 ?_
    refine tz_iload_n (pc := 46) dX2_replacedPart_46 rfl rfl ?_
    refine tz_iload_n (pc := 47) dX2_replacedPart_47 rfl rfl ?_
    refine tz_iload (pc := 48) dX2_replacedPart_48 rfl ?_
    refine tz_cV (pc := 50) (c_inArg hl n _ _ _ _ (by omega) (by omega) (by omega) m C (by omega) (by omega) (by omega)) vl_X2_81 dX2_replacedPart_50 o_6 rfl rfl (Nat.le_of_ble_eq_true rfl) ⟨(Nat.le_of_ble_eq_true rfl), (Nat.le_of_ble_eq_true rfl)⟩ rfl rfl (Nat.le_of_ble_eq_true rfl) (Nat.le_of_ble_eq_true rfl) (fun r9 J_50 hq9 => ?_)
    obtain ⟨z_50, rfl, hz_50, rfl, rfl⟩ := hq9
    refine tz_iload_n (pc := 53) dX2_replacedPart_53 rfl rfl ?_
    refine tz_iload (pc := 54) dX2_replacedPart_54 rfl ?_
    refine tz_iconst (pc := 56) dX2_replacedPart_56 ?_
    refine tz_iadd (pc := 57) (v := 7) dX2_replacedPart_57 (by decide) ?_
    refine tz_cV (pc := 58) (x_put7 hl n _ _ _ _ (by omega) (by omega) (by omega) m C hm (by omega) (by have := zfr_s (J := J) (t := t) (i := z_22) (by omega); omega) ho (by omega)) vl_X2_75 dX2_replacedPart_58 o_141 rfl rfl (Nat.le_of_ble_eq_true rfl) ⟨(Nat.le_of_ble_eq_true rfl), (Nat.le_of_ble_eq_true rfl)⟩ rfl rfl (Nat.le_of_ble_eq_true rfl) (Nat.le_of_ble_eq_true rfl) (fun r9 J_58 hq9 => ?_)
    obtain ⟨z_58, rfl, hz_58, m1, g1, h1, x1⟩ := hq9
    have d1 := g1.1
    have har2 := g1.2.1.ar (t := t) (by omega) (by omega)
    have e1 := g1.2.2.2.2 1 rfl
    refine tz_istore (pc := 61) (L2 := [_, _, _, _, _, _, _, _, _, _, _]) dX2_replacedPart_61 (by decide) rfl ?_
    refine tz_iload (pc := 63) dX2_replacedPart_63 rfl ?_
    refine tz_if_ne (pc := 65) (tgt := 73) dX2_replacedPart_65 (by decide) (by omega) (fun h_65 => ?_) (fun h_65 => ?_)
    · refine tz_aload_n (pc := 73) dX2_replacedPart_73 rfl rfl ?_
      refine tz_fR (pc := 74) dX2_replacedPart_74 fl_X2_28 r_141_0 ?_
      refine tz_iload_n (pc := 77) dX2_replacedPart_77 rfl rfl ?_
      refine tz_iconst (pc := 78) dX2_replacedPart_78 ?_
      refine tz_cV (pc := 79) (c_arg hl n _ _ _ (by omega) (by decide) (by omega)) vl_X2_48 dX2_replacedPart_79 o_6 rfl rfl (Nat.le_of_ble_eq_true rfl) ⟨(Nat.le_of_ble_eq_true rfl), (Nat.le_of_ble_eq_true rfl)⟩ rfl rfl (Nat.le_of_ble_eq_true rfl) (Nat.le_of_ble_eq_true rfl) (fun r9 J_79 hq9 => ?_)
      obtain ⟨z_79, rfl, hz_79, rfl, rfl⟩ := hq9
      refine tz_istore (pc := 82) (L2 := [_, _, _, _, _, _, _, _, _, _, _]) dX2_replacedPart_82 (by decide) rfl ?_
      refine tz_iload (pc := 84) dX2_replacedPart_84 rfl ?_
      refine tz_iconst (pc := 86) dX2_replacedPart_86 ?_
      refine tz_icmp_ne (pc := 87) (tgt := 95) dX2_replacedPart_87 (by decide) (by omega) (by decide) (fun h_87 => ?_) (fun h_87 => ?_)
      · refine tz_aload_n (pc := 95) dX2_replacedPart_95 rfl rfl ?_
        refine tz_fR (pc := 96) dX2_replacedPart_96 fl_X2_28 r_141_0 ?_
        refine tz_iload_n (pc := 99) dX2_replacedPart_99 rfl rfl ?_
        refine tz_iconst (pc := 100) dX2_replacedPart_100 ?_
        refine tz_cV (pc := 101) (c_arg hl n _ _ _ (by omega) (by decide) (by omega)) vl_X2_48 dX2_replacedPart_101 o_6 rfl rfl (Nat.le_of_ble_eq_true rfl) ⟨(Nat.le_of_ble_eq_true rfl), (Nat.le_of_ble_eq_true rfl)⟩ rfl rfl (Nat.le_of_ble_eq_true rfl) (Nat.le_of_ble_eq_true rfl) (fun r9 J_101 hq9 => ?_)
        obtain ⟨z_101, rfl, hz_101, rfl, rfl⟩ := hq9
        refine tz_istore (pc := 104) (L2 := [_, _, _, _, _, _, _, _, _, _, _]) dX2_replacedPart_104 (by decide) rfl ?_
        refine tz_iload (pc := 106) dX2_replacedPart_106 rfl ?_
        refine tz_iconst (pc := 108) dX2_replacedPart_108 ?_
        refine tz_icmp_ne (pc := 109) (tgt := 117) dX2_replacedPart_109 (by decide) (by omega) (by decide) (fun h_109 => ?_) (fun h_109 => ?_)
        · refine tz_aload_n (pc := 117) dX2_replacedPart_117 rfl rfl ?_
          refine tz_fR (pc := 118) dX2_replacedPart_118 fl_X2_28 r_141_0 ?_
          refine tz_iload_n (pc := 121) dX2_replacedPart_121 rfl rfl ?_
          refine tz_iconst (pc := 122) dX2_replacedPart_122 ?_
          refine tz_cV (pc := 123) (c_arg hl n _ _ _ (by omega) (by decide) (by omega)) vl_X2_48 dX2_replacedPart_123 o_6 rfl rfl (Nat.le_of_ble_eq_true rfl) ⟨(Nat.le_of_ble_eq_true rfl), (Nat.le_of_ble_eq_true rfl)⟩ rfl rfl (Nat.le_of_ble_eq_true rfl) (Nat.le_of_ble_eq_true rfl) (fun r9 J_123 hq9 => ?_)
          obtain ⟨z_123, rfl, hz_123, rfl, rfl⟩ := hq9
          refine tz_istore (pc := 126) (L2 := [_, _, _, _, _, _, _, _, _, _, _]) dX2_replacedPart_126 (by decide) rfl ?_
          refine tz_aload_n (pc := 128) dX2_replacedPart_128 rfl rfl ?_
          refine tz_fR (pc := 129) dX2_replacedPart_129 fl_X2_28 r_141_0 ?_
          refine tz_aload_n (pc := 132) dX2_replacedPart_132 rfl rfl ?_
          refine tz_fR (pc := 133) dX2_replacedPart_133 fl_X2_28 r_141_0 ?_
          refine tz_fR (pc := 136) dX2_replacedPart_136 fl_X2_42 r_6_1 ?_
          refine tz_iload_n (pc := 139) dX2_replacedPart_139 rfl rfl ?_
          refine tz_aL (pc := 140) (z := t) (v := (J_58 7 t)) dX2_replacedPart_140 a_7 rfl (by omega) rfl (fun r_140 => ?_)
          refine tz_iload (pc := 141) dX2_replacedPart_141 rfl ?_
          refine tz_iload (pc := 143) dX2_replacedPart_143 rfl ?_
          refine tz_iload (pc := 145) dX2_replacedPart_145 rfl ?_
          refine tz_cV (pc := 147) (c_made hl n _ _ _ _ _ (by omega) (by omega) (by omega) (by omega) m1 g1.2.1 g1.2.2.1 (by omega) (GR.lt g1 ht (fun h => by have := GR.arg g1 C ht (i := 0) (by omega); omega) (fun h => by have := GR.arg g1 C ht (i := 1) (by omega); omega) (fun h => by have := GR.arg g1 C ht (i := 2) (by omega); omega))) vl_X2_52 dX2_replacedPart_147 o_6 rfl rfl (Nat.le_of_ble_eq_true rfl) ⟨(Nat.le_of_ble_eq_true rfl), (Nat.le_of_ble_eq_true rfl)⟩ rfl rfl (Nat.le_of_ble_eq_true rfl) (Nat.le_of_ble_eq_true rfl) (fun r9 J_147 hq9 => ?_)
          obtain ⟨z_147, rfl, hz_147, p_9⟩ := hq9
          obtain ⟨m9, g9, h9⟩ := GR.made p_9 (by omega)
          have q9 := GR.tr g1 g9
          exact tz_iret (pc := 150) (z := z_147) dX2_replacedPart_150 rfl (Nat.le_of_ble_eq_true rfl) (Nat.le_of_ble_eq_true rfl) ⟨Nat.le_refl _, Nat.le_add_right _ _⟩ ⟨_, rfl, (by omega), ⟨m9, q9, h9, fun S hG E => by rw [puO_s, if_neg (by omega)]; exact pu_end hG E C hm ht hz1 hz2 hz3 g1 h1 x1 p_9 (by first | exact Or.inl ⟨by omega, rfl⟩ | exact Or.inr ⟨by omega, rfl⟩) (by first | exact Or.inl ⟨by omega, rfl⟩ | exact Or.inr ⟨by omega, rfl⟩) (by first | exact Or.inl ⟨by omega, rfl⟩ | exact Or.inr ⟨by omega, rfl⟩)⟩⟩
        · refine tz_iload (pc := 112) dX2_replacedPart_112 rfl ?_
          refine tz_goto (pc := 114) (tgt := 126) dX2_replacedPart_114 (by decide) ?_
          refine tz_istore (pc := 126) (L2 := [_, _, _, _, _, _, _, _, _, _, _]) dX2_replacedPart_126 (by decide) rfl ?_
          refine tz_aload_n (pc := 128) dX2_replacedPart_128 rfl rfl ?_
          refine tz_fR (pc := 129) dX2_replacedPart_129 fl_X2_28 r_141_0 ?_
          refine tz_aload_n (pc := 132) dX2_replacedPart_132 rfl rfl ?_
          refine tz_fR (pc := 133) dX2_replacedPart_133 fl_X2_28 r_141_0 ?_
          refine tz_fR (pc := 136) dX2_replacedPart_136 fl_X2_42 r_6_1 ?_
          refine tz_iload_n (pc := 139) dX2_replacedPart_139 rfl rfl ?_
          refine tz_aL (pc := 140) (z := t) (v := (J_58 7 t)) dX2_replacedPart_140 a_7 rfl (by omega) rfl (fun r_140 => ?_)
          refine tz_iload (pc := 141) dX2_replacedPart_141 rfl ?_
          refine tz_iload (pc := 143) dX2_replacedPart_143 rfl ?_
          refine tz_iload (pc := 145) dX2_replacedPart_145 rfl ?_
          refine tz_cV (pc := 147) (c_made hl n _ _ _ _ _ (by omega) (by omega) (by omega) (by omega) m1 g1.2.1 g1.2.2.1 (by omega) (GR.lt g1 ht (fun h => by have := GR.arg g1 C ht (i := 0) (by omega); omega) (fun h => by have := GR.arg g1 C ht (i := 1) (by omega); omega) (fun h => by have := GR.arg g1 C ht (i := 2) (by omega); omega))) vl_X2_52 dX2_replacedPart_147 o_6 rfl rfl (Nat.le_of_ble_eq_true rfl) ⟨(Nat.le_of_ble_eq_true rfl), (Nat.le_of_ble_eq_true rfl)⟩ rfl rfl (Nat.le_of_ble_eq_true rfl) (Nat.le_of_ble_eq_true rfl) (fun r9 J_147 hq9 => ?_)
          obtain ⟨z_147, rfl, hz_147, p_9⟩ := hq9
          obtain ⟨m9, g9, h9⟩ := GR.made p_9 (by omega)
          have q9 := GR.tr g1 g9
          exact tz_iret (pc := 150) (z := z_147) dX2_replacedPart_150 rfl (Nat.le_of_ble_eq_true rfl) (Nat.le_of_ble_eq_true rfl) ⟨Nat.le_refl _, Nat.le_add_right _ _⟩ ⟨_, rfl, (by omega), ⟨m9, q9, h9, fun S hG E => by rw [puO_s, if_neg (by omega)]; exact pu_end hG E C hm ht hz1 hz2 hz3 g1 h1 x1 p_9 (by first | exact Or.inl ⟨by omega, rfl⟩ | exact Or.inr ⟨by omega, rfl⟩) (by first | exact Or.inl ⟨by omega, rfl⟩ | exact Or.inr ⟨by omega, rfl⟩) (by first | exact Or.inl ⟨by omega, rfl⟩ | exact Or.inr ⟨by omega, rfl⟩)⟩⟩
      · refine tz_iload (pc := 90) dX2_replacedPart_90 rfl ?_
        refine tz_goto (pc := 92) (tgt := 104) dX2_replacedPart_92 (by decide) ?_
        refine tz_istore (pc := 104) (L2 := [_, _, _, _, _, _, _, _, _, _, _]) dX2_replacedPart_104 (by decide) rfl ?_
        refine tz_iload (pc := 106) dX2_replacedPart_106 rfl ?_
        refine tz_iconst (pc := 108) dX2_replacedPart_108 ?_
        refine tz_icmp_ne (pc := 109) (tgt := 117) dX2_replacedPart_109 (by decide) (by omega) (by decide) (fun h_109 => ?_) (fun h_109 => ?_)
        · refine tz_aload_n (pc := 117) dX2_replacedPart_117 rfl rfl ?_
          refine tz_fR (pc := 118) dX2_replacedPart_118 fl_X2_28 r_141_0 ?_
          refine tz_iload_n (pc := 121) dX2_replacedPart_121 rfl rfl ?_
          refine tz_iconst (pc := 122) dX2_replacedPart_122 ?_
          refine tz_cV (pc := 123) (c_arg hl n _ _ _ (by omega) (by decide) (by omega)) vl_X2_48 dX2_replacedPart_123 o_6 rfl rfl (Nat.le_of_ble_eq_true rfl) ⟨(Nat.le_of_ble_eq_true rfl), (Nat.le_of_ble_eq_true rfl)⟩ rfl rfl (Nat.le_of_ble_eq_true rfl) (Nat.le_of_ble_eq_true rfl) (fun r9 J_123 hq9 => ?_)
          obtain ⟨z_123, rfl, hz_123, rfl, rfl⟩ := hq9
          refine tz_istore (pc := 126) (L2 := [_, _, _, _, _, _, _, _, _, _, _]) dX2_replacedPart_126 (by decide) rfl ?_
          refine tz_aload_n (pc := 128) dX2_replacedPart_128 rfl rfl ?_
          refine tz_fR (pc := 129) dX2_replacedPart_129 fl_X2_28 r_141_0 ?_
          refine tz_aload_n (pc := 132) dX2_replacedPart_132 rfl rfl ?_
          refine tz_fR (pc := 133) dX2_replacedPart_133 fl_X2_28 r_141_0 ?_
          refine tz_fR (pc := 136) dX2_replacedPart_136 fl_X2_42 r_6_1 ?_
          refine tz_iload_n (pc := 139) dX2_replacedPart_139 rfl rfl ?_
          refine tz_aL (pc := 140) (z := t) (v := (J_58 7 t)) dX2_replacedPart_140 a_7 rfl (by omega) rfl (fun r_140 => ?_)
          refine tz_iload (pc := 141) dX2_replacedPart_141 rfl ?_
          refine tz_iload (pc := 143) dX2_replacedPart_143 rfl ?_
          refine tz_iload (pc := 145) dX2_replacedPart_145 rfl ?_
          refine tz_cV (pc := 147) (c_made hl n _ _ _ _ _ (by omega) (by omega) (by omega) (by omega) m1 g1.2.1 g1.2.2.1 (by omega) (GR.lt g1 ht (fun h => by have := GR.arg g1 C ht (i := 0) (by omega); omega) (fun h => by have := GR.arg g1 C ht (i := 1) (by omega); omega) (fun h => by have := GR.arg g1 C ht (i := 2) (by omega); omega))) vl_X2_52 dX2_replacedPart_147 o_6 rfl rfl (Nat.le_of_ble_eq_true rfl) ⟨(Nat.le_of_ble_eq_true rfl), (Nat.le_of_ble_eq_true rfl)⟩ rfl rfl (Nat.le_of_ble_eq_true rfl) (Nat.le_of_ble_eq_true rfl) (fun r9 J_147 hq9 => ?_)
          obtain ⟨z_147, rfl, hz_147, p_9⟩ := hq9
          obtain ⟨m9, g9, h9⟩ := GR.made p_9 (by omega)
          have q9 := GR.tr g1 g9
          exact tz_iret (pc := 150) (z := z_147) dX2_replacedPart_150 rfl (Nat.le_of_ble_eq_true rfl) (Nat.le_of_ble_eq_true rfl) ⟨Nat.le_refl _, Nat.le_add_right _ _⟩ ⟨_, rfl, (by omega), ⟨m9, q9, h9, fun S hG E => by rw [puO_s, if_neg (by omega)]; exact pu_end hG E C hm ht hz1 hz2 hz3 g1 h1 x1 p_9 (by first | exact Or.inl ⟨by omega, rfl⟩ | exact Or.inr ⟨by omega, rfl⟩) (by first | exact Or.inl ⟨by omega, rfl⟩ | exact Or.inr ⟨by omega, rfl⟩) (by first | exact Or.inl ⟨by omega, rfl⟩ | exact Or.inr ⟨by omega, rfl⟩)⟩⟩
        · refine tz_iload (pc := 112) dX2_replacedPart_112 rfl ?_
          refine tz_goto (pc := 114) (tgt := 126) dX2_replacedPart_114 (by decide) ?_
          refine tz_istore (pc := 126) (L2 := [_, _, _, _, _, _, _, _, _, _, _]) dX2_replacedPart_126 (by decide) rfl ?_
          refine tz_aload_n (pc := 128) dX2_replacedPart_128 rfl rfl ?_
          refine tz_fR (pc := 129) dX2_replacedPart_129 fl_X2_28 r_141_0 ?_
          refine tz_aload_n (pc := 132) dX2_replacedPart_132 rfl rfl ?_
          refine tz_fR (pc := 133) dX2_replacedPart_133 fl_X2_28 r_141_0 ?_
          refine tz_fR (pc := 136) dX2_replacedPart_136 fl_X2_42 r_6_1 ?_
          refine tz_iload_n (pc := 139) dX2_replacedPart_139 rfl rfl ?_
          refine tz_aL (pc := 140) (z := t) (v := (J_58 7 t)) dX2_replacedPart_140 a_7 rfl (by omega) rfl (fun r_140 => ?_)
          refine tz_iload (pc := 141) dX2_replacedPart_141 rfl ?_
          refine tz_iload (pc := 143) dX2_replacedPart_143 rfl ?_
          refine tz_iload (pc := 145) dX2_replacedPart_145 rfl ?_
          refine tz_cV (pc := 147) (c_made hl n _ _ _ _ _ (by omega) (by omega) (by omega) (by omega) m1 g1.2.1 g1.2.2.1 (by omega) (GR.lt g1 ht (fun h => by have := GR.arg g1 C ht (i := 0) (by omega); omega) (fun h => by have := GR.arg g1 C ht (i := 1) (by omega); omega) (fun h => by have := GR.arg g1 C ht (i := 2) (by omega); omega))) vl_X2_52 dX2_replacedPart_147 o_6 rfl rfl (Nat.le_of_ble_eq_true rfl) ⟨(Nat.le_of_ble_eq_true rfl), (Nat.le_of_ble_eq_true rfl)⟩ rfl rfl (Nat.le_of_ble_eq_true rfl) (Nat.le_of_ble_eq_true rfl) (fun r9 J_147 hq9 => ?_)
          obtain ⟨z_147, rfl, hz_147, p_9⟩ := hq9
          obtain ⟨m9, g9, h9⟩ := GR.made p_9 (by omega)
          have q9 := GR.tr g1 g9
          exact tz_iret (pc := 150) (z := z_147) dX2_replacedPart_150 rfl (Nat.le_of_ble_eq_true rfl) (Nat.le_of_ble_eq_true rfl) ⟨Nat.le_refl _, Nat.le_add_right _ _⟩ ⟨_, rfl, (by omega), ⟨m9, q9, h9, fun S hG E => by rw [puO_s, if_neg (by omega)]; exact pu_end hG E C hm ht hz1 hz2 hz3 g1 h1 x1 p_9 (by first | exact Or.inl ⟨by omega, rfl⟩ | exact Or.inr ⟨by omega, rfl⟩) (by first | exact Or.inl ⟨by omega, rfl⟩ | exact Or.inr ⟨by omega, rfl⟩) (by first | exact Or.inl ⟨by omega, rfl⟩ | exact Or.inr ⟨by omega, rfl⟩)⟩⟩
    · refine tz_iload (pc := 68) dX2_replacedPart_68 rfl ?_
      refine tz_goto (pc := 70) (tgt := 82) dX2_replacedPart_70 (by decide) ?_
      refine tz_istore (pc := 82) (L2 := [_, _, _, _, _, _, _, _, _, _, _]) dX2_replacedPart_82 (by decide) rfl ?_
      refine tz_iload (pc := 84) dX2_replacedPart_84 rfl ?_
      refine tz_iconst (pc := 86) dX2_replacedPart_86 ?_
      refine tz_icmp_ne (pc := 87) (tgt := 95) dX2_replacedPart_87 (by decide) (by omega) (by decide) (fun h_87 => ?_) (fun h_87 => ?_)
      · refine tz_aload_n (pc := 95) dX2_replacedPart_95 rfl rfl ?_
        refine tz_fR (pc := 96) dX2_replacedPart_96 fl_X2_28 r_141_0 ?_
        refine tz_iload_n (pc := 99) dX2_replacedPart_99 rfl rfl ?_
        refine tz_iconst (pc := 100) dX2_replacedPart_100 ?_
        refine tz_cV (pc := 101) (c_arg hl n _ _ _ (by omega) (by decide) (by omega)) vl_X2_48 dX2_replacedPart_101 o_6 rfl rfl (Nat.le_of_ble_eq_true rfl) ⟨(Nat.le_of_ble_eq_true rfl), (Nat.le_of_ble_eq_true rfl)⟩ rfl rfl (Nat.le_of_ble_eq_true rfl) (Nat.le_of_ble_eq_true rfl) (fun r9 J_101 hq9 => ?_)
        obtain ⟨z_101, rfl, hz_101, rfl, rfl⟩ := hq9
        refine tz_istore (pc := 104) (L2 := [_, _, _, _, _, _, _, _, _, _, _]) dX2_replacedPart_104 (by decide) rfl ?_
        refine tz_iload (pc := 106) dX2_replacedPart_106 rfl ?_
        refine tz_iconst (pc := 108) dX2_replacedPart_108 ?_
        refine tz_icmp_ne (pc := 109) (tgt := 117) dX2_replacedPart_109 (by decide) (by omega) (by decide) (fun h_109 => ?_) (fun h_109 => ?_)
        · refine tz_aload_n (pc := 117) dX2_replacedPart_117 rfl rfl ?_
          refine tz_fR (pc := 118) dX2_replacedPart_118 fl_X2_28 r_141_0 ?_
          refine tz_iload_n (pc := 121) dX2_replacedPart_121 rfl rfl ?_
          refine tz_iconst (pc := 122) dX2_replacedPart_122 ?_
          refine tz_cV (pc := 123) (c_arg hl n _ _ _ (by omega) (by decide) (by omega)) vl_X2_48 dX2_replacedPart_123 o_6 rfl rfl (Nat.le_of_ble_eq_true rfl) ⟨(Nat.le_of_ble_eq_true rfl), (Nat.le_of_ble_eq_true rfl)⟩ rfl rfl (Nat.le_of_ble_eq_true rfl) (Nat.le_of_ble_eq_true rfl) (fun r9 J_123 hq9 => ?_)
          obtain ⟨z_123, rfl, hz_123, rfl, rfl⟩ := hq9
          refine tz_istore (pc := 126) (L2 := [_, _, _, _, _, _, _, _, _, _, _]) dX2_replacedPart_126 (by decide) rfl ?_
          refine tz_aload_n (pc := 128) dX2_replacedPart_128 rfl rfl ?_
          refine tz_fR (pc := 129) dX2_replacedPart_129 fl_X2_28 r_141_0 ?_
          refine tz_aload_n (pc := 132) dX2_replacedPart_132 rfl rfl ?_
          refine tz_fR (pc := 133) dX2_replacedPart_133 fl_X2_28 r_141_0 ?_
          refine tz_fR (pc := 136) dX2_replacedPart_136 fl_X2_42 r_6_1 ?_
          refine tz_iload_n (pc := 139) dX2_replacedPart_139 rfl rfl ?_
          refine tz_aL (pc := 140) (z := t) (v := (J_58 7 t)) dX2_replacedPart_140 a_7 rfl (by omega) rfl (fun r_140 => ?_)
          refine tz_iload (pc := 141) dX2_replacedPart_141 rfl ?_
          refine tz_iload (pc := 143) dX2_replacedPart_143 rfl ?_
          refine tz_iload (pc := 145) dX2_replacedPart_145 rfl ?_
          refine tz_cV (pc := 147) (c_made hl n _ _ _ _ _ (by omega) (by omega) (by omega) (by omega) m1 g1.2.1 g1.2.2.1 (by omega) (GR.lt g1 ht (fun h => by have := GR.arg g1 C ht (i := 0) (by omega); omega) (fun h => by have := GR.arg g1 C ht (i := 1) (by omega); omega) (fun h => by have := GR.arg g1 C ht (i := 2) (by omega); omega))) vl_X2_52 dX2_replacedPart_147 o_6 rfl rfl (Nat.le_of_ble_eq_true rfl) ⟨(Nat.le_of_ble_eq_true rfl), (Nat.le_of_ble_eq_true rfl)⟩ rfl rfl (Nat.le_of_ble_eq_true rfl) (Nat.le_of_ble_eq_true rfl) (fun r9 J_147 hq9 => ?_)
          obtain ⟨z_147, rfl, hz_147, p_9⟩ := hq9
          obtain ⟨m9, g9, h9⟩ := GR.made p_9 (by omega)
          have q9 := GR.tr g1 g9
          exact tz_iret (pc := 150) (z := z_147) dX2_replacedPart_150 rfl (Nat.le_of_ble_eq_true rfl) (Nat.le_of_ble_eq_true rfl) ⟨Nat.le_refl _, Nat.le_add_right _ _⟩ ⟨_, rfl, (by omega), ⟨m9, q9, h9, fun S hG E => by rw [puO_s, if_neg (by omega)]; exact pu_end hG E C hm ht hz1 hz2 hz3 g1 h1 x1 p_9 (by first | exact Or.inl ⟨by omega, rfl⟩ | exact Or.inr ⟨by omega, rfl⟩) (by first | exact Or.inl ⟨by omega, rfl⟩ | exact Or.inr ⟨by omega, rfl⟩) (by first | exact Or.inl ⟨by omega, rfl⟩ | exact Or.inr ⟨by omega, rfl⟩)⟩⟩
        · refine tz_iload (pc := 112) dX2_replacedPart_112 rfl ?_
          refine tz_goto (pc := 114) (tgt := 126) dX2_replacedPart_114 (by decide) ?_
          refine tz_istore (pc := 126) (L2 := [_, _, _, _, _, _, _, _, _, _, _]) dX2_replacedPart_126 (by decide) rfl ?_
          refine tz_aload_n (pc := 128) dX2_replacedPart_128 rfl rfl ?_
          refine tz_fR (pc := 129) dX2_replacedPart_129 fl_X2_28 r_141_0 ?_
          refine tz_aload_n (pc := 132) dX2_replacedPart_132 rfl rfl ?_
          refine tz_fR (pc := 133) dX2_replacedPart_133 fl_X2_28 r_141_0 ?_
          refine tz_fR (pc := 136) dX2_replacedPart_136 fl_X2_42 r_6_1 ?_
          refine tz_iload_n (pc := 139) dX2_replacedPart_139 rfl rfl ?_
          refine tz_aL (pc := 140) (z := t) (v := (J_58 7 t)) dX2_replacedPart_140 a_7 rfl (by omega) rfl (fun r_140 => ?_)
          refine tz_iload (pc := 141) dX2_replacedPart_141 rfl ?_
          refine tz_iload (pc := 143) dX2_replacedPart_143 rfl ?_
          refine tz_iload (pc := 145) dX2_replacedPart_145 rfl ?_
          refine tz_cV (pc := 147) (c_made hl n _ _ _ _ _ (by omega) (by omega) (by omega) (by omega) m1 g1.2.1 g1.2.2.1 (by omega) (GR.lt g1 ht (fun h => by have := GR.arg g1 C ht (i := 0) (by omega); omega) (fun h => by have := GR.arg g1 C ht (i := 1) (by omega); omega) (fun h => by have := GR.arg g1 C ht (i := 2) (by omega); omega))) vl_X2_52 dX2_replacedPart_147 o_6 rfl rfl (Nat.le_of_ble_eq_true rfl) ⟨(Nat.le_of_ble_eq_true rfl), (Nat.le_of_ble_eq_true rfl)⟩ rfl rfl (Nat.le_of_ble_eq_true rfl) (Nat.le_of_ble_eq_true rfl) (fun r9 J_147 hq9 => ?_)
          obtain ⟨z_147, rfl, hz_147, p_9⟩ := hq9
          obtain ⟨m9, g9, h9⟩ := GR.made p_9 (by omega)
          have q9 := GR.tr g1 g9
          exact tz_iret (pc := 150) (z := z_147) dX2_replacedPart_150 rfl (Nat.le_of_ble_eq_true rfl) (Nat.le_of_ble_eq_true rfl) ⟨Nat.le_refl _, Nat.le_add_right _ _⟩ ⟨_, rfl, (by omega), ⟨m9, q9, h9, fun S hG E => by rw [puO_s, if_neg (by omega)]; exact pu_end hG E C hm ht hz1 hz2 hz3 g1 h1 x1 p_9 (by first | exact Or.inl ⟨by omega, rfl⟩ | exact Or.inr ⟨by omega, rfl⟩) (by first | exact Or.inl ⟨by omega, rfl⟩ | exact Or.inr ⟨by omega, rfl⟩) (by first | exact Or.inl ⟨by omega, rfl⟩ | exact Or.inr ⟨by omega, rfl⟩)⟩⟩
      · refine tz_iload (pc := 90) dX2_replacedPart_90 rfl ?_
        refine tz_goto (pc := 92) (tgt := 104) dX2_replacedPart_92 (by decide) ?_
        refine tz_istore (pc := 104) (L2 := [_, _, _, _, _, _, _, _, _, _, _]) dX2_replacedPart_104 (by decide) rfl ?_
        refine tz_iload (pc := 106) dX2_replacedPart_106 rfl ?_
        refine tz_iconst (pc := 108) dX2_replacedPart_108 ?_
        refine tz_icmp_ne (pc := 109) (tgt := 117) dX2_replacedPart_109 (by decide) (by omega) (by decide) (fun h_109 => ?_) (fun h_109 => ?_)
        · refine tz_aload_n (pc := 117) dX2_replacedPart_117 rfl rfl ?_
          refine tz_fR (pc := 118) dX2_replacedPart_118 fl_X2_28 r_141_0 ?_
          refine tz_iload_n (pc := 121) dX2_replacedPart_121 rfl rfl ?_
          refine tz_iconst (pc := 122) dX2_replacedPart_122 ?_
          refine tz_cV (pc := 123) (c_arg hl n _ _ _ (by omega) (by decide) (by omega)) vl_X2_48 dX2_replacedPart_123 o_6 rfl rfl (Nat.le_of_ble_eq_true rfl) ⟨(Nat.le_of_ble_eq_true rfl), (Nat.le_of_ble_eq_true rfl)⟩ rfl rfl (Nat.le_of_ble_eq_true rfl) (Nat.le_of_ble_eq_true rfl) (fun r9 J_123 hq9 => ?_)
          obtain ⟨z_123, rfl, hz_123, rfl, rfl⟩ := hq9
          refine tz_istore (pc := 126) (L2 := [_, _, _, _, _, _, _, _, _, _, _]) dX2_replacedPart_126 (by decide) rfl ?_
          refine tz_aload_n (pc := 128) dX2_replacedPart_128 rfl rfl ?_
          refine tz_fR (pc := 129) dX2_replacedPart_129 fl_X2_28 r_141_0 ?_
          refine tz_aload_n (pc := 132) dX2_replacedPart_132 rfl rfl ?_
          refine tz_fR (pc := 133) dX2_replacedPart_133 fl_X2_28 r_141_0 ?_
          refine tz_fR (pc := 136) dX2_replacedPart_136 fl_X2_42 r_6_1 ?_
          refine tz_iload_n (pc := 139) dX2_replacedPart_139 rfl rfl ?_
          refine tz_aL (pc := 140) (z := t) (v := (J_58 7 t)) dX2_replacedPart_140 a_7 rfl (by omega) rfl (fun r_140 => ?_)
          refine tz_iload (pc := 141) dX2_replacedPart_141 rfl ?_
          refine tz_iload (pc := 143) dX2_replacedPart_143 rfl ?_
          refine tz_iload (pc := 145) dX2_replacedPart_145 rfl ?_
          refine tz_cV (pc := 147) (c_made hl n _ _ _ _ _ (by omega) (by omega) (by omega) (by omega) m1 g1.2.1 g1.2.2.1 (by omega) (GR.lt g1 ht (fun h => by have := GR.arg g1 C ht (i := 0) (by omega); omega) (fun h => by have := GR.arg g1 C ht (i := 1) (by omega); omega) (fun h => by have := GR.arg g1 C ht (i := 2) (by omega); omega))) vl_X2_52 dX2_replacedPart_147 o_6 rfl rfl (Nat.le_of_ble_eq_true rfl) ⟨(Nat.le_of_ble_eq_true rfl), (Nat.le_of_ble_eq_true rfl)⟩ rfl rfl (Nat.le_of_ble_eq_true rfl) (Nat.le_of_ble_eq_true rfl) (fun r9 J_147 hq9 => ?_)
          obtain ⟨z_147, rfl, hz_147, p_9⟩ := hq9
          obtain ⟨m9, g9, h9⟩ := GR.made p_9 (by omega)
          have q9 := GR.tr g1 g9
          exact tz_iret (pc := 150) (z := z_147) dX2_replacedPart_150 rfl (Nat.le_of_ble_eq_true rfl) (Nat.le_of_ble_eq_true rfl) ⟨Nat.le_refl _, Nat.le_add_right _ _⟩ ⟨_, rfl, (by omega), ⟨m9, q9, h9, fun S hG E => by rw [puO_s, if_neg (by omega)]; exact pu_end hG E C hm ht hz1 hz2 hz3 g1 h1 x1 p_9 (by first | exact Or.inl ⟨by omega, rfl⟩ | exact Or.inr ⟨by omega, rfl⟩) (by first | exact Or.inl ⟨by omega, rfl⟩ | exact Or.inr ⟨by omega, rfl⟩) (by first | exact Or.inl ⟨by omega, rfl⟩ | exact Or.inr ⟨by omega, rfl⟩)⟩⟩
        · refine tz_iload (pc := 112) dX2_replacedPart_112 rfl ?_
          refine tz_goto (pc := 114) (tgt := 126) dX2_replacedPart_114 (by decide) ?_
          refine tz_istore (pc := 126) (L2 := [_, _, _, _, _, _, _, _, _, _, _]) dX2_replacedPart_126 (by decide) rfl ?_
          refine tz_aload_n (pc := 128) dX2_replacedPart_128 rfl rfl ?_
          refine tz_fR (pc := 129) dX2_replacedPart_129 fl_X2_28 r_141_0 ?_
          refine tz_aload_n (pc := 132) dX2_replacedPart_132 rfl rfl ?_
          refine tz_fR (pc := 133) dX2_replacedPart_133 fl_X2_28 r_141_0 ?_
          refine tz_fR (pc := 136) dX2_replacedPart_136 fl_X2_42 r_6_1 ?_
          refine tz_iload_n (pc := 139) dX2_replacedPart_139 rfl rfl ?_
          refine tz_aL (pc := 140) (z := t) (v := (J_58 7 t)) dX2_replacedPart_140 a_7 rfl (by omega) rfl (fun r_140 => ?_)
          refine tz_iload (pc := 141) dX2_replacedPart_141 rfl ?_
          refine tz_iload (pc := 143) dX2_replacedPart_143 rfl ?_
          refine tz_iload (pc := 145) dX2_replacedPart_145 rfl ?_
          refine tz_cV (pc := 147) (c_made hl n _ _ _ _ _ (by omega) (by omega) (by omega) (by omega) m1 g1.2.1 g1.2.2.1 (by omega) (GR.lt g1 ht (fun h => by have := GR.arg g1 C ht (i := 0) (by omega); omega) (fun h => by have := GR.arg g1 C ht (i := 1) (by omega); omega) (fun h => by have := GR.arg g1 C ht (i := 2) (by omega); omega))) vl_X2_52 dX2_replacedPart_147 o_6 rfl rfl (Nat.le_of_ble_eq_true rfl) ⟨(Nat.le_of_ble_eq_true rfl), (Nat.le_of_ble_eq_true rfl)⟩ rfl rfl (Nat.le_of_ble_eq_true rfl) (Nat.le_of_ble_eq_true rfl) (fun r9 J_147 hq9 => ?_)
          obtain ⟨z_147, rfl, hz_147, p_9⟩ := hq9
          obtain ⟨m9, g9, h9⟩ := GR.made p_9 (by omega)
          have q9 := GR.tr g1 g9
          exact tz_iret (pc := 150) (z := z_147) dX2_replacedPart_150 rfl (Nat.le_of_ble_eq_true rfl) (Nat.le_of_ble_eq_true rfl) ⟨Nat.le_refl _, Nat.le_add_right _ _⟩ ⟨_, rfl, (by omega), ⟨m9, q9, h9, fun S hG E => by rw [puO_s, if_neg (by omega)]; exact pu_end hG E C hm ht hz1 hz2 hz3 g1 h1 x1 p_9 (by first | exact Or.inl ⟨by omega, rfl⟩ | exact Or.inr ⟨by omega, rfl⟩) (by first | exact Or.inl ⟨by omega, rfl⟩ | exact Or.inr ⟨by omega, rfl⟩) (by first | exact Or.inl ⟨by omega, rfl⟩ | exact Or.inr ⟨by omega, rfl⟩)⟩⟩
  · refine tz_iload_n (pc := 4) dX2_replacedPart_4 rfl rfl ?_
    exact tz_iret (pc := 5) (z := x) dX2_replacedPart_5 rfl (Nat.le_of_ble_eq_true rfl) (Nat.le_of_ble_eq_true rfl) ⟨Nat.le_refl _, Nat.le_add_right _ _⟩ ⟨_, rfl, (by omega), ⟨m, GR.rf C hm, by omega, fun S hG E => Or.inr ⟨by omega, by rw [puO_s, if_pos (by omega)]; exact hG, by rw [puO_s, if_pos (by omega)]; exact E, by rw [puO_s, if_pos (by omega)]⟩⟩⟩

set_option maxHeartbeats 4000000 in
set_option maxRecDepth 100000 in
theorem x_put5 {l : Launch} {G : tb_G} (hl : l.stackTraces = false) (n : Nat) (J : zJ) (t : Int) (p : Int) (x : Int) (hr_t : -2147483648 ≤ t ∧ t < 2147483648) (hr_p : -2147483648 ≤ p ∧ p < 2147483648) (hr_x : -2147483648 ≤ x ∧ x < 2147483648) (m : Int) (C : CT J m) (hm : J 6 12 = m) (ht : 0 ≤ t ∧ t < m) (hp : p < J 10 t) (ho : 0 ≤ x ∧ x < m) (hd : J 12 t ≤ 2) : tz_Ok l G M_X2_replacedPart 4 0 0 [.ref 141, zi t, zi p, zi x, zi 5] n J (zqi (fun z J' => ∃ m', GR J' J m m' ∧ (z = -3 ∨ (0 ≤ z ∧ z < m')) ∧ ∀ S, S 164 21 = 0 → A0 J S → EXO (puO x 2 S t p) z J')) zN := by
  refine tz_Ok.of hl (by decide +kernel) rfl (tb_c1 rfl) (Nat.le_of_ble_eq_true rfl) ?_
  show tz_At l G M_X2_replacedPart (tb_rm 4 0 0) none (tb_ZM G 0 0 (zQ n 0 (zqi (fun z J' => ∃ m', GR J' J m m' ∧ (z = -3 ∨ (0 ≤ z ∧ z < m')) ∧ ∀ S, S 164 21 = 0 → A0 J S → EXO (puO x 2 S t p) z J'))) (zX n 0 zN)) 0 0 n J 0 [some (.ref 141), some (zi t), some (zi p), some (zi x), some (zi 5), none, none, none, none, none, none] []
  have hb := C.told
  have har := C.ar ht.1 ht.2
  have hn := C.nums ht.1 ht.2
  refine tz_iload_n (pc := 0) dX2_replacedPart_0 rfl rfl ?_
  refine tz_if_gt (pc := 1) (tgt := 6) dX2_replacedPart_1 (by decide) (by omega) (fun h_1 => ?_) (fun h_1 => ?_)
  · refine tz_iload (pc := 6) dX2_replacedPart_6 rfl ?_
    refine tz_bipush (pc := 8) dX2_replacedPart_8 (by decide) ?_
    refine tz_icmp_leT (pc := 10) (tgt := 16) (by decide) dX2_replacedPart_10 (by decide) (by decide) (by decide) ?_
    refine tz_aload_n (pc := 16) dX2_replacedPart_16 rfl rfl ?_
    refine tz_fR (pc := 17) dX2_replacedPart_17 fl_X2_28 r_141_0 ?_
    refine tz_iload_n (pc := 20) dX2_replacedPart_20 rfl rfl ?_
    refine tz_iload_n (pc := 21) dX2_replacedPart_21 rfl rfl ?_
    refine tz_cV (pc := 22) (c_atPlace hl n _ _ _ (by omega) (by omega) m C (by omega) (by omega)) vl_X2_78 dX2_replacedPart_22 o_6 rfl rfl (Nat.le_of_ble_eq_true rfl) ⟨(Nat.le_of_ble_eq_true rfl), (Nat.le_of_ble_eq_true rfl)⟩ rfl rfl (Nat.le_of_ble_eq_true rfl) (Nat.le_of_ble_eq_true rfl) (fun r9 J_22 hq9 => ?_)
    obtain ⟨z_22, rfl, hz_22, rfl, hz1, hz2, hz3⟩ := hq9
    have hg := C.arg (t := t) (i := z_22) (by omega) (by omega) (by omega) (by omega)
    have hbd := zfr_bd C (t := t) (by omega) (by omega) z_22.toNat (by omega)
    refine tz_istore (pc := 25) (L2 := [_, _, _, _, _, _, _, _, _, _, _]) dX2_replacedPart_25 (by decide) rfl ?_
    refine tz_aload_n (pc := 27) dX2_replacedPart_27 rfl rfl ?_
    refine tz_fR (pc := 28) dX2_replacedPart_28 fl_X2_28 r_141_0 ?_
    refine tz_iload_n (pc := 31) dX2_replacedPart_31 rfl rfl ?_
    refine tz_iload (pc := 32) dX2_replacedPart_32 rfl ?_
    refine tz_cV (pc := 34) (c_arg hl n _ _ _ (by omega) (by omega) (by omega)) vl_X2_48 dX2_replacedPart_34 o_6 rfl rfl (Nat.le_of_ble_eq_true rfl) ⟨(Nat.le_of_ble_eq_true rfl), (Nat.le_of_ble_eq_true rfl)⟩ rfl rfl (Nat.le_of_ble_eq_true rfl) (Nat.le_of_ble_eq_true rfl) (fun r9 J_34 hq9 => ?_)
    obtain ⟨z_34, rfl, hz_34, rfl, rfl⟩ := hq9
    refine tz_istore (pc := 37) (L2 := [_, _, _, _, _, _, _, _, _, _, _]) dX2_replacedPart_37 (by decide) rfl ?_
    refine tz_aload_n (pc := 39) dX2_replacedPart_39 rfl rfl ?_
    refine tz_iload (pc := 40) dX2_replacedPart_40 rfl ?_
    refine tz_aload_n (pc := 42) dX2_replacedPart_42 rfl rfl ?_
    refine tz_fR (pc := 43) dX2_replacedPart_43 fl_X2_28 r_141_0 ?_
    refine tz_iload_n (pc := 46) dX2_replacedPart_46 rfl rfl ?_
    refine tz_iload_n (pc := 47) dX2_replacedPart_47 rfl rfl ?_
    refine tz_iload (pc := 48) dX2_replacedPart_48 rfl ?_
    refine tz_cV (pc := 50) (c_inArg hl n _ _ _ _ (by omega) (by omega) (by omega) m C (by omega) (by omega) (by omega)) vl_X2_81 dX2_replacedPart_50 o_6 rfl rfl (Nat.le_of_ble_eq_true rfl) ⟨(Nat.le_of_ble_eq_true rfl), (Nat.le_of_ble_eq_true rfl)⟩ rfl rfl (Nat.le_of_ble_eq_true rfl) (Nat.le_of_ble_eq_true rfl) (fun r9 J_50 hq9 => ?_)
    obtain ⟨z_50, rfl, hz_50, rfl, rfl⟩ := hq9
    refine tz_iload_n (pc := 53) dX2_replacedPart_53 rfl rfl ?_
    refine tz_iload (pc := 54) dX2_replacedPart_54 rfl ?_
    refine tz_iconst (pc := 56) dX2_replacedPart_56 ?_
    refine tz_iadd (pc := 57) (v := 6) dX2_replacedPart_57 (by decide) ?_
    refine tz_cV (pc := 58) (x_put6 hl n _ _ _ _ (by omega) (by omega) (by omega) m C hm (by omega) (by have := zfr_s (J := J) (t := t) (i := z_22) (by omega); omega) ho (by omega)) vl_X2_75 dX2_replacedPart_58 o_141 rfl rfl (Nat.le_of_ble_eq_true rfl) ⟨(Nat.le_of_ble_eq_true rfl), (Nat.le_of_ble_eq_true rfl)⟩ rfl rfl (Nat.le_of_ble_eq_true rfl) (Nat.le_of_ble_eq_true rfl) (fun r9 J_58 hq9 => ?_)
    obtain ⟨z_58, rfl, hz_58, m1, g1, h1, x1⟩ := hq9
    have d1 := g1.1
    have har2 := g1.2.1.ar (t := t) (by omega) (by omega)
    have e1 := g1.2.2.2.2 1 rfl
    refine tz_istore (pc := 61) (L2 := [_, _, _, _, _, _, _, _, _, _, _]) dX2_replacedPart_61 (by decide) rfl ?_
    refine tz_iload (pc := 63) dX2_replacedPart_63 rfl ?_
    refine tz_if_ne (pc := 65) (tgt := 73) dX2_replacedPart_65 (by decide) (by omega) (fun h_65 => ?_) (fun h_65 => ?_)
    · refine tz_aload_n (pc := 73) dX2_replacedPart_73 rfl rfl ?_
      refine tz_fR (pc := 74) dX2_replacedPart_74 fl_X2_28 r_141_0 ?_
      refine tz_iload_n (pc := 77) dX2_replacedPart_77 rfl rfl ?_
      refine tz_iconst (pc := 78) dX2_replacedPart_78 ?_
      refine tz_cV (pc := 79) (c_arg hl n _ _ _ (by omega) (by decide) (by omega)) vl_X2_48 dX2_replacedPart_79 o_6 rfl rfl (Nat.le_of_ble_eq_true rfl) ⟨(Nat.le_of_ble_eq_true rfl), (Nat.le_of_ble_eq_true rfl)⟩ rfl rfl (Nat.le_of_ble_eq_true rfl) (Nat.le_of_ble_eq_true rfl) (fun r9 J_79 hq9 => ?_)
      obtain ⟨z_79, rfl, hz_79, rfl, rfl⟩ := hq9
      refine tz_istore (pc := 82) (L2 := [_, _, _, _, _, _, _, _, _, _, _]) dX2_replacedPart_82 (by decide) rfl ?_
      refine tz_iload (pc := 84) dX2_replacedPart_84 rfl ?_
      refine tz_iconst (pc := 86) dX2_replacedPart_86 ?_
      refine tz_icmp_ne (pc := 87) (tgt := 95) dX2_replacedPart_87 (by decide) (by omega) (by decide) (fun h_87 => ?_) (fun h_87 => ?_)
      · refine tz_aload_n (pc := 95) dX2_replacedPart_95 rfl rfl ?_
        refine tz_fR (pc := 96) dX2_replacedPart_96 fl_X2_28 r_141_0 ?_
        refine tz_iload_n (pc := 99) dX2_replacedPart_99 rfl rfl ?_
        refine tz_iconst (pc := 100) dX2_replacedPart_100 ?_
        refine tz_cV (pc := 101) (c_arg hl n _ _ _ (by omega) (by decide) (by omega)) vl_X2_48 dX2_replacedPart_101 o_6 rfl rfl (Nat.le_of_ble_eq_true rfl) ⟨(Nat.le_of_ble_eq_true rfl), (Nat.le_of_ble_eq_true rfl)⟩ rfl rfl (Nat.le_of_ble_eq_true rfl) (Nat.le_of_ble_eq_true rfl) (fun r9 J_101 hq9 => ?_)
        obtain ⟨z_101, rfl, hz_101, rfl, rfl⟩ := hq9
        refine tz_istore (pc := 104) (L2 := [_, _, _, _, _, _, _, _, _, _, _]) dX2_replacedPart_104 (by decide) rfl ?_
        refine tz_iload (pc := 106) dX2_replacedPart_106 rfl ?_
        refine tz_iconst (pc := 108) dX2_replacedPart_108 ?_
        refine tz_icmp_ne (pc := 109) (tgt := 117) dX2_replacedPart_109 (by decide) (by omega) (by decide) (fun h_109 => ?_) (fun h_109 => ?_)
        · refine tz_aload_n (pc := 117) dX2_replacedPart_117 rfl rfl ?_
          refine tz_fR (pc := 118) dX2_replacedPart_118 fl_X2_28 r_141_0 ?_
          refine tz_iload_n (pc := 121) dX2_replacedPart_121 rfl rfl ?_
          refine tz_iconst (pc := 122) dX2_replacedPart_122 ?_
          refine tz_cV (pc := 123) (c_arg hl n _ _ _ (by omega) (by decide) (by omega)) vl_X2_48 dX2_replacedPart_123 o_6 rfl rfl (Nat.le_of_ble_eq_true rfl) ⟨(Nat.le_of_ble_eq_true rfl), (Nat.le_of_ble_eq_true rfl)⟩ rfl rfl (Nat.le_of_ble_eq_true rfl) (Nat.le_of_ble_eq_true rfl) (fun r9 J_123 hq9 => ?_)
          obtain ⟨z_123, rfl, hz_123, rfl, rfl⟩ := hq9
          refine tz_istore (pc := 126) (L2 := [_, _, _, _, _, _, _, _, _, _, _]) dX2_replacedPart_126 (by decide) rfl ?_
          refine tz_aload_n (pc := 128) dX2_replacedPart_128 rfl rfl ?_
          refine tz_fR (pc := 129) dX2_replacedPart_129 fl_X2_28 r_141_0 ?_
          refine tz_aload_n (pc := 132) dX2_replacedPart_132 rfl rfl ?_
          refine tz_fR (pc := 133) dX2_replacedPart_133 fl_X2_28 r_141_0 ?_
          refine tz_fR (pc := 136) dX2_replacedPart_136 fl_X2_42 r_6_1 ?_
          refine tz_iload_n (pc := 139) dX2_replacedPart_139 rfl rfl ?_
          refine tz_aL (pc := 140) (z := t) (v := (J_58 7 t)) dX2_replacedPart_140 a_7 rfl (by omega) rfl (fun r_140 => ?_)
          refine tz_iload (pc := 141) dX2_replacedPart_141 rfl ?_
          refine tz_iload (pc := 143) dX2_replacedPart_143 rfl ?_
          refine tz_iload (pc := 145) dX2_replacedPart_145 rfl ?_
          refine tz_cV (pc := 147) (c_made hl n _ _ _ _ _ (by omega) (by omega) (by omega) (by omega) m1 g1.2.1 g1.2.2.1 (by omega) (GR.lt g1 ht (fun h => by have := GR.arg g1 C ht (i := 0) (by omega); omega) (fun h => by have := GR.arg g1 C ht (i := 1) (by omega); omega) (fun h => by have := GR.arg g1 C ht (i := 2) (by omega); omega))) vl_X2_52 dX2_replacedPart_147 o_6 rfl rfl (Nat.le_of_ble_eq_true rfl) ⟨(Nat.le_of_ble_eq_true rfl), (Nat.le_of_ble_eq_true rfl)⟩ rfl rfl (Nat.le_of_ble_eq_true rfl) (Nat.le_of_ble_eq_true rfl) (fun r9 J_147 hq9 => ?_)
          obtain ⟨z_147, rfl, hz_147, p_9⟩ := hq9
          obtain ⟨m9, g9, h9⟩ := GR.made p_9 (by omega)
          have q9 := GR.tr g1 g9
          exact tz_iret (pc := 150) (z := z_147) dX2_replacedPart_150 rfl (Nat.le_of_ble_eq_true rfl) (Nat.le_of_ble_eq_true rfl) ⟨Nat.le_refl _, Nat.le_add_right _ _⟩ ⟨_, rfl, (by omega), ⟨m9, q9, h9, fun S hG E => by rw [puO_s, if_neg (by omega)]; exact pu_end hG E C hm ht hz1 hz2 hz3 g1 h1 x1 p_9 (by first | exact Or.inl ⟨by omega, rfl⟩ | exact Or.inr ⟨by omega, rfl⟩) (by first | exact Or.inl ⟨by omega, rfl⟩ | exact Or.inr ⟨by omega, rfl⟩) (by first | exact Or.inl ⟨by omega, rfl⟩ | exact Or.inr ⟨by omega, rfl⟩)⟩⟩
        · refine tz_iload (pc := 112) dX2_replacedPart_112 rfl ?_
          refine tz_goto (pc := 114) (tgt := 126) dX2_replacedPart_114 (by decide) ?_
          refine tz_istore (pc := 126) (L2 := [_, _, _, _, _, _, _, _, _, _, _]) dX2_replacedPart_126 (by decide) rfl ?_
          refine tz_aload_n (pc := 128) dX2_replacedPart_128 rfl rfl ?_
          refine tz_fR (pc := 129) dX2_replacedPart_129 fl_X2_28 r_141_0 ?_
          refine tz_aload_n (pc := 132) dX2_replacedPart_132 rfl rfl ?_
          refine tz_fR (pc := 133) dX2_replacedPart_133 fl_X2_28 r_141_0 ?_
          refine tz_fR (pc := 136) dX2_replacedPart_136 fl_X2_42 r_6_1 ?_
          refine tz_iload_n (pc := 139) dX2_replacedPart_139 rfl rfl ?_
          refine tz_aL (pc := 140) (z := t) (v := (J_58 7 t)) dX2_replacedPart_140 a_7 rfl (by omega) rfl (fun r_140 => ?_)
          refine tz_iload (pc := 141) dX2_replacedPart_141 rfl ?_
          refine tz_iload (pc := 143) dX2_replacedPart_143 rfl ?_
          refine tz_iload (pc := 145) dX2_replacedPart_145 rfl ?_
          refine tz_cV (pc := 147) (c_made hl n _ _ _ _ _ (by omega) (by omega) (by omega) (by omega) m1 g1.2.1 g1.2.2.1 (by omega) (GR.lt g1 ht (fun h => by have := GR.arg g1 C ht (i := 0) (by omega); omega) (fun h => by have := GR.arg g1 C ht (i := 1) (by omega); omega) (fun h => by have := GR.arg g1 C ht (i := 2) (by omega); omega))) vl_X2_52 dX2_replacedPart_147 o_6 rfl rfl (Nat.le_of_ble_eq_true rfl) ⟨(Nat.le_of_ble_eq_true rfl), (Nat.le_of_ble_eq_true rfl)⟩ rfl rfl (Nat.le_of_ble_eq_true rfl) (Nat.le_of_ble_eq_true rfl) (fun r9 J_147 hq9 => ?_)
          obtain ⟨z_147, rfl, hz_147, p_9⟩ := hq9
          obtain ⟨m9, g9, h9⟩ := GR.made p_9 (by omega)
          have q9 := GR.tr g1 g9
          exact tz_iret (pc := 150) (z := z_147) dX2_replacedPart_150 rfl (Nat.le_of_ble_eq_true rfl) (Nat.le_of_ble_eq_true rfl) ⟨Nat.le_refl _, Nat.le_add_right _ _⟩ ⟨_, rfl, (by omega), ⟨m9, q9, h9, fun S hG E => by rw [puO_s, if_neg (by omega)]; exact pu_end hG E C hm ht hz1 hz2 hz3 g1 h1 x1 p_9 (by first | exact Or.inl ⟨by omega, rfl⟩ | exact Or.inr ⟨by omega, rfl⟩) (by first | exact Or.inl ⟨by omega, rfl⟩ | exact Or.inr ⟨by omega, rfl⟩) (by first | exact Or.inl ⟨by omega, rfl⟩ | exact Or.inr ⟨by omega, rfl⟩)⟩⟩
      · refine tz_iload (pc := 90) dX2_replacedPart_90 rfl ?_
        refine tz_goto (pc := 92) (tgt := 104) dX2_replacedPart_92 (by decide) ?_
        refine tz_istore (pc := 104) (L2 := [_, _, _, _, _, _, _, _, _, _, _]) dX2_replacedPart_104 (by decide) rfl ?_
        refine tz_iload (pc := 106) dX2_replacedPart_106 rfl ?_
        refine tz_iconst (pc := 108) dX2_replacedPart_108 ?_
        refine tz_icmp_ne (pc := 109) (tgt := 117) dX2_replacedPart_109 (by decide) (by omega) (by decide) (fun h_109 => ?_) (fun h_109 => ?_)
        · refine tz_aload_n (pc := 117) dX2_replacedPart_117 rfl rfl ?_
          refine tz_fR (pc := 118) dX2_replacedPart_118 fl_X2_28 r_141_0 ?_
          refine tz_iload_n (pc := 121) dX2_replacedPart_121 rfl rfl ?_
          refine tz_iconst (pc := 122) dX2_replacedPart_122 ?_
          refine tz_cV (pc := 123) (c_arg hl n _ _ _ (by omega) (by decide) (by omega)) vl_X2_48 dX2_replacedPart_123 o_6 rfl rfl (Nat.le_of_ble_eq_true rfl) ⟨(Nat.le_of_ble_eq_true rfl), (Nat.le_of_ble_eq_true rfl)⟩ rfl rfl (Nat.le_of_ble_eq_true rfl) (Nat.le_of_ble_eq_true rfl) (fun r9 J_123 hq9 => ?_)
          obtain ⟨z_123, rfl, hz_123, rfl, rfl⟩ := hq9
          refine tz_istore (pc := 126) (L2 := [_, _, _, _, _, _, _, _, _, _, _]) dX2_replacedPart_126 (by decide) rfl ?_
          refine tz_aload_n (pc := 128) dX2_replacedPart_128 rfl rfl ?_
          refine tz_fR (pc := 129) dX2_replacedPart_129 fl_X2_28 r_141_0 ?_
          refine tz_aload_n (pc := 132) dX2_replacedPart_132 rfl rfl ?_
          refine tz_fR (pc := 133) dX2_replacedPart_133 fl_X2_28 r_141_0 ?_
          refine tz_fR (pc := 136) dX2_replacedPart_136 fl_X2_42 r_6_1 ?_
          refine tz_iload_n (pc := 139) dX2_replacedPart_139 rfl rfl ?_
          refine tz_aL (pc := 140) (z := t) (v := (J_58 7 t)) dX2_replacedPart_140 a_7 rfl (by omega) rfl (fun r_140 => ?_)
          refine tz_iload (pc := 141) dX2_replacedPart_141 rfl ?_
          refine tz_iload (pc := 143) dX2_replacedPart_143 rfl ?_
          refine tz_iload (pc := 145) dX2_replacedPart_145 rfl ?_
          refine tz_cV (pc := 147) (c_made hl n _ _ _ _ _ (by omega) (by omega) (by omega) (by omega) m1 g1.2.1 g1.2.2.1 (by omega) (GR.lt g1 ht (fun h => by have := GR.arg g1 C ht (i := 0) (by omega); omega) (fun h => by have := GR.arg g1 C ht (i := 1) (by omega); omega) (fun h => by have := GR.arg g1 C ht (i := 2) (by omega); omega))) vl_X2_52 dX2_replacedPart_147 o_6 rfl rfl (Nat.le_of_ble_eq_true rfl) ⟨(Nat.le_of_ble_eq_true rfl), (Nat.le_of_ble_eq_true rfl)⟩ rfl rfl (Nat.le_of_ble_eq_true rfl) (Nat.le_of_ble_eq_true rfl) (fun r9 J_147 hq9 => ?_)
          obtain ⟨z_147, rfl, hz_147, p_9⟩ := hq9
          obtain ⟨m9, g9, h9⟩ := GR.made p_9 (by omega)
          have q9 := GR.tr g1 g9
          exact tz_iret (pc := 150) (z := z_147) dX2_replacedPart_150 rfl (Nat.le_of_ble_eq_true rfl) (Nat.le_of_ble_eq_true rfl) ⟨Nat.le_refl _, Nat.le_add_right _ _⟩ ⟨_, rfl, (by omega), ⟨m9, q9, h9, fun S hG E => by rw [puO_s, if_neg (by omega)]; exact pu_end hG E C hm ht hz1 hz2 hz3 g1 h1 x1 p_9 (by first | exact Or.inl ⟨by omega, rfl⟩ | exact Or.inr ⟨by omega, rfl⟩) (by first | exact Or.inl ⟨by omega, rfl⟩ | exact Or.inr ⟨by omega, rfl⟩) (by first | exact Or.inl ⟨by omega, rfl⟩ | exact Or.inr ⟨by omega, rfl⟩)⟩⟩
        · refine tz_iload (pc := 112) dX2_replacedPart_112 rfl ?_
          refine tz_goto (pc := 114) (tgt := 126) dX2_replacedPart_114 (by decide) ?_
          refine tz_istore (pc := 126) (L2 := [_, _, _, _, _, _, _, _, _, _, _]) dX2_replacedPart_126 (by decide) rfl ?_
          refine tz_aload_n (pc := 128) dX2_replacedPart_128 rfl rfl ?_
          refine tz_fR (pc := 129) dX2_replacedPart_129 fl_X2_28 r_141_0 ?_
          refine tz_aload_n (pc := 132) dX2_replacedPart_132 rfl rfl ?_
          refine tz_fR (pc := 133) dX2_replacedPart_133 fl_X2_28 r_141_0 ?_
          refine tz_fR (pc := 136) dX2_replacedPart_136 fl_X2_42 r_6_1 ?_
          refine tz_iload_n (pc := 139) dX2_replacedPart_139 rfl rfl ?_
          refine tz_aL (pc := 140) (z := t) (v := (J_58 7 t)) dX2_replacedPart_140 a_7 rfl (by omega) rfl (fun r_140 => ?_)
          refine tz_iload (pc := 141) dX2_replacedPart_141 rfl ?_
          refine tz_iload (pc := 143) dX2_replacedPart_143 rfl ?_
          refine tz_iload (pc := 145) dX2_replacedPart_145 rfl ?_
          refine tz_cV (pc := 147) (c_made hl n _ _ _ _ _ (by omega) (by omega) (by omega) (by omega) m1 g1.2.1 g1.2.2.1 (by omega) (GR.lt g1 ht (fun h => by have := GR.arg g1 C ht (i := 0) (by omega); omega) (fun h => by have := GR.arg g1 C ht (i := 1) (by omega); omega) (fun h => by have := GR.arg g1 C ht (i := 2) (by omega); omega))) vl_X2_52 dX2_replacedPart_147 o_6 rfl rfl (Nat.le_of_ble_eq_true rfl) ⟨(Nat.le_of_ble_eq_true rfl), (Nat.le_of_ble_eq_true rfl)⟩ rfl rfl (Nat.le_of_ble_eq_true rfl) (Nat.le_of_ble_eq_true rfl) (fun r9 J_147 hq9 => ?_)
          obtain ⟨z_147, rfl, hz_147, p_9⟩ := hq9
          obtain ⟨m9, g9, h9⟩ := GR.made p_9 (by omega)
          have q9 := GR.tr g1 g9
          exact tz_iret (pc := 150) (z := z_147) dX2_replacedPart_150 rfl (Nat.le_of_ble_eq_true rfl) (Nat.le_of_ble_eq_true rfl) ⟨Nat.le_refl _, Nat.le_add_right _ _⟩ ⟨_, rfl, (by omega), ⟨m9, q9, h9, fun S hG E => by rw [puO_s, if_neg (by omega)]; exact pu_end hG E C hm ht hz1 hz2 hz3 g1 h1 x1 p_9 (by first | exact Or.inl ⟨by omega, rfl⟩ | exact Or.inr ⟨by omega, rfl⟩) (by first | exact Or.inl ⟨by omega, rfl⟩ | exact Or.inr ⟨by omega, rfl⟩) (by first | exact Or.inl ⟨by omega, rfl⟩ | exact Or.inr ⟨by omega, rfl⟩)⟩⟩
    · refine tz_iload (pc := 68) dX2_replacedPart_68 rfl ?_
      refine tz_goto (pc := 70) (tgt := 82) dX2_replacedPart_70 (by decide) ?_
      refine tz_istore (pc := 82) (L2 := [_, _, _, _, _, _, _, _, _, _, _]) dX2_replacedPart_82 (by decide) rfl ?_
      refine tz_iload (pc := 84) dX2_replacedPart_84 rfl ?_
      refine tz_iconst (pc := 86) dX2_replacedPart_86 ?_
      refine tz_icmp_ne (pc := 87) (tgt := 95) dX2_replacedPart_87 (by decide) (by omega) (by decide) (fun h_87 => ?_) (fun h_87 => ?_)
      · refine tz_aload_n (pc := 95) dX2_replacedPart_95 rfl rfl ?_
        refine tz_fR (pc := 96) dX2_replacedPart_96 fl_X2_28 r_141_0 ?_
        refine tz_iload_n (pc := 99) dX2_replacedPart_99 rfl rfl ?_
        refine tz_iconst (pc := 100) dX2_replacedPart_100 ?_
        refine tz_cV (pc := 101) (c_arg hl n _ _ _ (by omega) (by decide) (by omega)) vl_X2_48 dX2_replacedPart_101 o_6 rfl rfl (Nat.le_of_ble_eq_true rfl) ⟨(Nat.le_of_ble_eq_true rfl), (Nat.le_of_ble_eq_true rfl)⟩ rfl rfl (Nat.le_of_ble_eq_true rfl) (Nat.le_of_ble_eq_true rfl) (fun r9 J_101 hq9 => ?_)
        obtain ⟨z_101, rfl, hz_101, rfl, rfl⟩ := hq9
        refine tz_istore (pc := 104) (L2 := [_, _, _, _, _, _, _, _, _, _, _]) dX2_replacedPart_104 (by decide) rfl ?_
        refine tz_iload (pc := 106) dX2_replacedPart_106 rfl ?_
        refine tz_iconst (pc := 108) dX2_replacedPart_108 ?_
        refine tz_icmp_ne (pc := 109) (tgt := 117) dX2_replacedPart_109 (by decide) (by omega) (by decide) (fun h_109 => ?_) (fun h_109 => ?_)
        · refine tz_aload_n (pc := 117) dX2_replacedPart_117 rfl rfl ?_
          refine tz_fR (pc := 118) dX2_replacedPart_118 fl_X2_28 r_141_0 ?_
          refine tz_iload_n (pc := 121) dX2_replacedPart_121 rfl rfl ?_
          refine tz_iconst (pc := 122) dX2_replacedPart_122 ?_
          refine tz_cV (pc := 123) (c_arg hl n _ _ _ (by omega) (by decide) (by omega)) vl_X2_48 dX2_replacedPart_123 o_6 rfl rfl (Nat.le_of_ble_eq_true rfl) ⟨(Nat.le_of_ble_eq_true rfl), (Nat.le_of_ble_eq_true rfl)⟩ rfl rfl (Nat.le_of_ble_eq_true rfl) (Nat.le_of_ble_eq_true rfl) (fun r9 J_123 hq9 => ?_)
          obtain ⟨z_123, rfl, hz_123, rfl, rfl⟩ := hq9
          refine tz_istore (pc := 126) (L2 := [_, _, _, _, _, _, _, _, _, _, _]) dX2_replacedPart_126 (by decide) rfl ?_
          refine tz_aload_n (pc := 128) dX2_replacedPart_128 rfl rfl ?_
          refine tz_fR (pc := 129) dX2_replacedPart_129 fl_X2_28 r_141_0 ?_
          refine tz_aload_n (pc := 132) dX2_replacedPart_132 rfl rfl ?_
          refine tz_fR (pc := 133) dX2_replacedPart_133 fl_X2_28 r_141_0 ?_
          refine tz_fR (pc := 136) dX2_replacedPart_136 fl_X2_42 r_6_1 ?_
          refine tz_iload_n (pc := 139) dX2_replacedPart_139 rfl rfl ?_
          refine tz_aL (pc := 140) (z := t) (v := (J_58 7 t)) dX2_replacedPart_140 a_7 rfl (by omega) rfl (fun r_140 => ?_)
          refine tz_iload (pc := 141) dX2_replacedPart_141 rfl ?_
          refine tz_iload (pc := 143) dX2_replacedPart_143 rfl ?_
          refine tz_iload (pc := 145) dX2_replacedPart_145 rfl ?_
          refine tz_cV (pc := 147) (c_made hl n _ _ _ _ _ (by omega) (by omega) (by omega) (by omega) m1 g1.2.1 g1.2.2.1 (by omega) (GR.lt g1 ht (fun h => by have := GR.arg g1 C ht (i := 0) (by omega); omega) (fun h => by have := GR.arg g1 C ht (i := 1) (by omega); omega) (fun h => by have := GR.arg g1 C ht (i := 2) (by omega); omega))) vl_X2_52 dX2_replacedPart_147 o_6 rfl rfl (Nat.le_of_ble_eq_true rfl) ⟨(Nat.le_of_ble_eq_true rfl), (Nat.le_of_ble_eq_true rfl)⟩ rfl rfl (Nat.le_of_ble_eq_true rfl) (Nat.le_of_ble_eq_true rfl) (fun r9 J_147 hq9 => ?_)
          obtain ⟨z_147, rfl, hz_147, p_9⟩ := hq9
          obtain ⟨m9, g9, h9⟩ := GR.made p_9 (by omega)
          have q9 := GR.tr g1 g9
          exact tz_iret (pc := 150) (z := z_147) dX2_replacedPart_150 rfl (Nat.le_of_ble_eq_true rfl) (Nat.le_of_ble_eq_true rfl) ⟨Nat.le_refl _, Nat.le_add_right _ _⟩ ⟨_, rfl, (by omega), ⟨m9, q9, h9, fun S hG E => by rw [puO_s, if_neg (by omega)]; exact pu_end hG E C hm ht hz1 hz2 hz3 g1 h1 x1 p_9 (by first | exact Or.inl ⟨by omega, rfl⟩ | exact Or.inr ⟨by omega, rfl⟩) (by first | exact Or.inl ⟨by omega, rfl⟩ | exact Or.inr ⟨by omega, rfl⟩) (by first | exact Or.inl ⟨by omega, rfl⟩ | exact Or.inr ⟨by omega, rfl⟩)⟩⟩
        · refine tz_iload (pc := 112) dX2_replacedPart_112 rfl ?_
          refine tz_goto (pc := 114) (tgt := 126) dX2_replacedPart_114 (by decide) ?_
          refine tz_istore (pc := 126) (L2 := [_, _, _, _, _, _, _, _, _, _, _]) dX2_replacedPart_126 (by decide) rfl ?_
          refine tz_aload_n (pc := 128) dX2_replacedPart_128 rfl rfl ?_
          refine tz_fR (pc := 129) dX2_replacedPart_129 fl_X2_28 r_141_0 ?_
          refine tz_aload_n (pc := 132) dX2_replacedPart_132 rfl rfl ?_
          refine tz_fR (pc := 133) dX2_replacedPart_133 fl_X2_28 r_141_0 ?_
          refine tz_fR (pc := 136) dX2_replacedPart_136 fl_X2_42 r_6_1 ?_
          refine tz_iload_n (pc := 139) dX2_replacedPart_139 rfl rfl ?_
          refine tz_aL (pc := 140) (z := t) (v := (J_58 7 t)) dX2_replacedPart_140 a_7 rfl (by omega) rfl (fun r_140 => ?_)
          refine tz_iload (pc := 141) dX2_replacedPart_141 rfl ?_
          refine tz_iload (pc := 143) dX2_replacedPart_143 rfl ?_
          refine tz_iload (pc := 145) dX2_replacedPart_145 rfl ?_
          refine tz_cV (pc := 147) (c_made hl n _ _ _ _ _ (by omega) (by omega) (by omega) (by omega) m1 g1.2.1 g1.2.2.1 (by omega) (GR.lt g1 ht (fun h => by have := GR.arg g1 C ht (i := 0) (by omega); omega) (fun h => by have := GR.arg g1 C ht (i := 1) (by omega); omega) (fun h => by have := GR.arg g1 C ht (i := 2) (by omega); omega))) vl_X2_52 dX2_replacedPart_147 o_6 rfl rfl (Nat.le_of_ble_eq_true rfl) ⟨(Nat.le_of_ble_eq_true rfl), (Nat.le_of_ble_eq_true rfl)⟩ rfl rfl (Nat.le_of_ble_eq_true rfl) (Nat.le_of_ble_eq_true rfl) (fun r9 J_147 hq9 => ?_)
          obtain ⟨z_147, rfl, hz_147, p_9⟩ := hq9
          obtain ⟨m9, g9, h9⟩ := GR.made p_9 (by omega)
          have q9 := GR.tr g1 g9
          exact tz_iret (pc := 150) (z := z_147) dX2_replacedPart_150 rfl (Nat.le_of_ble_eq_true rfl) (Nat.le_of_ble_eq_true rfl) ⟨Nat.le_refl _, Nat.le_add_right _ _⟩ ⟨_, rfl, (by omega), ⟨m9, q9, h9, fun S hG E => by rw [puO_s, if_neg (by omega)]; exact pu_end hG E C hm ht hz1 hz2 hz3 g1 h1 x1 p_9 (by first | exact Or.inl ⟨by omega, rfl⟩ | exact Or.inr ⟨by omega, rfl⟩) (by first | exact Or.inl ⟨by omega, rfl⟩ | exact Or.inr ⟨by omega, rfl⟩) (by first | exact Or.inl ⟨by omega, rfl⟩ | exact Or.inr ⟨by omega, rfl⟩)⟩⟩
      · refine tz_iload (pc := 90) dX2_replacedPart_90 rfl ?_
        refine tz_goto (pc := 92) (tgt := 104) dX2_replacedPart_92 (by decide) ?_
        refine tz_istore (pc := 104) (L2 := [_, _, _, _, _, _, _, _, _, _, _]) dX2_replacedPart_104 (by decide) rfl ?_
        refine tz_iload (pc := 106) dX2_replacedPart_106 rfl ?_
        refine tz_iconst (pc := 108) dX2_replacedPart_108 ?_
        refine tz_icmp_ne (pc := 109) (tgt := 117) dX2_replacedPart_109 (by decide) (by omega) (by decide) (fun h_109 => ?_) (fun h_109 => ?_)
        · refine tz_aload_n (pc := 117) dX2_replacedPart_117 rfl rfl ?_
          refine tz_fR (pc := 118) dX2_replacedPart_118 fl_X2_28 r_141_0 ?_
          refine tz_iload_n (pc := 121) dX2_replacedPart_121 rfl rfl ?_
          refine tz_iconst (pc := 122) dX2_replacedPart_122 ?_
          refine tz_cV (pc := 123) (c_arg hl n _ _ _ (by omega) (by decide) (by omega)) vl_X2_48 dX2_replacedPart_123 o_6 rfl rfl (Nat.le_of_ble_eq_true rfl) ⟨(Nat.le_of_ble_eq_true rfl), (Nat.le_of_ble_eq_true rfl)⟩ rfl rfl (Nat.le_of_ble_eq_true rfl) (Nat.le_of_ble_eq_true rfl) (fun r9 J_123 hq9 => ?_)
          obtain ⟨z_123, rfl, hz_123, rfl, rfl⟩ := hq9
          refine tz_istore (pc := 126) (L2 := [_, _, _, _, _, _, _, _, _, _, _]) dX2_replacedPart_126 (by decide) rfl ?_
          refine tz_aload_n (pc := 128) dX2_replacedPart_128 rfl rfl ?_
          refine tz_fR (pc := 129) dX2_replacedPart_129 fl_X2_28 r_141_0 ?_
          refine tz_aload_n (pc := 132) dX2_replacedPart_132 rfl rfl ?_
          refine tz_fR (pc := 133) dX2_replacedPart_133 fl_X2_28 r_141_0 ?_
          refine tz_fR (pc := 136) dX2_replacedPart_136 fl_X2_42 r_6_1 ?_
          refine tz_iload_n (pc := 139) dX2_replacedPart_139 rfl rfl ?_
          refine tz_aL (pc := 140) (z := t) (v := (J_58 7 t)) dX2_replacedPart_140 a_7 rfl (by omega) rfl (fun r_140 => ?_)
          refine tz_iload (pc := 141) dX2_replacedPart_141 rfl ?_
          refine tz_iload (pc := 143) dX2_replacedPart_143 rfl ?_
          refine tz_iload (pc := 145) dX2_replacedPart_145 rfl ?_
          refine tz_cV (pc := 147) (c_made hl n _ _ _ _ _ (by omega) (by omega) (by omega) (by omega) m1 g1.2.1 g1.2.2.1 (by omega) (GR.lt g1 ht (fun h => by have := GR.arg g1 C ht (i := 0) (by omega); omega) (fun h => by have := GR.arg g1 C ht (i := 1) (by omega); omega) (fun h => by have := GR.arg g1 C ht (i := 2) (by omega); omega))) vl_X2_52 dX2_replacedPart_147 o_6 rfl rfl (Nat.le_of_ble_eq_true rfl) ⟨(Nat.le_of_ble_eq_true rfl), (Nat.le_of_ble_eq_true rfl)⟩ rfl rfl (Nat.le_of_ble_eq_true rfl) (Nat.le_of_ble_eq_true rfl) (fun r9 J_147 hq9 => ?_)
          obtain ⟨z_147, rfl, hz_147, p_9⟩ := hq9
          obtain ⟨m9, g9, h9⟩ := GR.made p_9 (by omega)
          have q9 := GR.tr g1 g9
          exact tz_iret (pc := 150) (z := z_147) dX2_replacedPart_150 rfl (Nat.le_of_ble_eq_true rfl) (Nat.le_of_ble_eq_true rfl) ⟨Nat.le_refl _, Nat.le_add_right _ _⟩ ⟨_, rfl, (by omega), ⟨m9, q9, h9, fun S hG E => by rw [puO_s, if_neg (by omega)]; exact pu_end hG E C hm ht hz1 hz2 hz3 g1 h1 x1 p_9 (by first | exact Or.inl ⟨by omega, rfl⟩ | exact Or.inr ⟨by omega, rfl⟩) (by first | exact Or.inl ⟨by omega, rfl⟩ | exact Or.inr ⟨by omega, rfl⟩) (by first | exact Or.inl ⟨by omega, rfl⟩ | exact Or.inr ⟨by omega, rfl⟩)⟩⟩
        · refine tz_iload (pc := 112) dX2_replacedPart_112 rfl ?_
          refine tz_goto (pc := 114) (tgt := 126) dX2_replacedPart_114 (by decide) ?_
          refine tz_istore (pc := 126) (L2 := [_, _, _, _, _, _, _, _, _, _, _]) dX2_replacedPart_126 (by decide) rfl ?_
          refine tz_aload_n (pc := 128) dX2_replacedPart_128 rfl rfl ?_
          refine tz_fR (pc := 129) dX2_replacedPart_129 fl_X2_28 r_141_0 ?_
          refine tz_aload_n (pc := 132) dX2_replacedPart_132 rfl rfl ?_
          refine tz_fR (pc := 133) dX2_replacedPart_133 fl_X2_28 r_141_0 ?_
          refine tz_fR (pc := 136) dX2_replacedPart_136 fl_X2_42 r_6_1 ?_
          refine tz_iload_n (pc := 139) dX2_replacedPart_139 rfl rfl ?_
          refine tz_aL (pc := 140) (z := t) (v := (J_58 7 t)) dX2_replacedPart_140 a_7 rfl (by omega) rfl (fun r_140 => ?_)
          refine tz_iload (pc := 141) dX2_replacedPart_141 rfl ?_
          refine tz_iload (pc := 143) dX2_replacedPart_143 rfl ?_
          refine tz_iload (pc := 145) dX2_replacedPart_145 rfl ?_
          refine tz_cV (pc := 147) (c_made hl n _ _ _ _ _ (by omega) (by omega) (by omega) (by omega) m1 g1.2.1 g1.2.2.1 (by omega) (GR.lt g1 ht (fun h => by have := GR.arg g1 C ht (i := 0) (by omega); omega) (fun h => by have := GR.arg g1 C ht (i := 1) (by omega); omega) (fun h => by have := GR.arg g1 C ht (i := 2) (by omega); omega))) vl_X2_52 dX2_replacedPart_147 o_6 rfl rfl (Nat.le_of_ble_eq_true rfl) ⟨(Nat.le_of_ble_eq_true rfl), (Nat.le_of_ble_eq_true rfl)⟩ rfl rfl (Nat.le_of_ble_eq_true rfl) (Nat.le_of_ble_eq_true rfl) (fun r9 J_147 hq9 => ?_)
          obtain ⟨z_147, rfl, hz_147, p_9⟩ := hq9
          obtain ⟨m9, g9, h9⟩ := GR.made p_9 (by omega)
          have q9 := GR.tr g1 g9
          exact tz_iret (pc := 150) (z := z_147) dX2_replacedPart_150 rfl (Nat.le_of_ble_eq_true rfl) (Nat.le_of_ble_eq_true rfl) ⟨Nat.le_refl _, Nat.le_add_right _ _⟩ ⟨_, rfl, (by omega), ⟨m9, q9, h9, fun S hG E => by rw [puO_s, if_neg (by omega)]; exact pu_end hG E C hm ht hz1 hz2 hz3 g1 h1 x1 p_9 (by first | exact Or.inl ⟨by omega, rfl⟩ | exact Or.inr ⟨by omega, rfl⟩) (by first | exact Or.inl ⟨by omega, rfl⟩ | exact Or.inr ⟨by omega, rfl⟩) (by first | exact Or.inl ⟨by omega, rfl⟩ | exact Or.inr ⟨by omega, rfl⟩)⟩⟩
  · refine tz_iload_n (pc := 4) dX2_replacedPart_4 rfl rfl ?_
    exact tz_iret (pc := 5) (z := x) dX2_replacedPart_5 rfl (Nat.le_of_ble_eq_true rfl) (Nat.le_of_ble_eq_true rfl) ⟨Nat.le_refl _, Nat.le_add_right _ _⟩ ⟨_, rfl, (by omega), ⟨m, GR.rf C hm, by omega, fun S hG E => Or.inr ⟨by omega, by rw [puO_s, if_pos (by omega)]; exact hG, by rw [puO_s, if_pos (by omega)]; exact E, by rw [puO_s, if_pos (by omega)]⟩⟩⟩

set_option maxHeartbeats 4000000 in
set_option maxRecDepth 100000 in
theorem x_put4 {l : Launch} {G : tb_G} (hl : l.stackTraces = false) (n : Nat) (J : zJ) (t : Int) (p : Int) (x : Int) (hr_t : -2147483648 ≤ t ∧ t < 2147483648) (hr_p : -2147483648 ≤ p ∧ p < 2147483648) (hr_x : -2147483648 ≤ x ∧ x < 2147483648) (m : Int) (C : CT J m) (hm : J 6 12 = m) (ht : 0 ≤ t ∧ t < m) (hp : p < J 10 t) (ho : 0 ≤ x ∧ x < m) (hd : J 12 t ≤ 3) : tz_Ok l G M_X2_replacedPart 5 0 0 [.ref 141, zi t, zi p, zi x, zi 4] n J (zqi (fun z J' => ∃ m', GR J' J m m' ∧ (z = -3 ∨ (0 ≤ z ∧ z < m')) ∧ ∀ S, S 164 21 = 0 → A0 J S → EXO (puO x 3 S t p) z J')) zN := by
  refine tz_Ok.of hl (by decide +kernel) rfl (tb_c1 rfl) (Nat.le_of_ble_eq_true rfl) ?_
  show tz_At l G M_X2_replacedPart (tb_rm 5 0 0) none (tb_ZM G 0 0 (zQ n 0 (zqi (fun z J' => ∃ m', GR J' J m m' ∧ (z = -3 ∨ (0 ≤ z ∧ z < m')) ∧ ∀ S, S 164 21 = 0 → A0 J S → EXO (puO x 3 S t p) z J'))) (zX n 0 zN)) 0 0 n J 0 [some (.ref 141), some (zi t), some (zi p), some (zi x), some (zi 4), none, none, none, none, none, none] []
  have hb := C.told
  have har := C.ar ht.1 ht.2
  have hn := C.nums ht.1 ht.2
  refine tz_iload_n (pc := 0) dX2_replacedPart_0 rfl rfl ?_
  refine tz_if_gt (pc := 1) (tgt := 6) dX2_replacedPart_1 (by decide) (by omega) (fun h_1 => ?_) (fun h_1 => ?_)
  · refine tz_iload (pc := 6) dX2_replacedPart_6 rfl ?_
    refine tz_bipush (pc := 8) dX2_replacedPart_8 (by decide) ?_
    refine tz_icmp_leT (pc := 10) (tgt := 16) (by decide) dX2_replacedPart_10 (by decide) (by decide) (by decide) ?_
    refine tz_aload_n (pc := 16) dX2_replacedPart_16 rfl rfl ?_
    refine tz_fR (pc := 17) dX2_replacedPart_17 fl_X2_28 r_141_0 ?_
    refine tz_iload_n (pc := 20) dX2_replacedPart_20 rfl rfl ?_
    refine tz_iload_n (pc := 21) dX2_replacedPart_21 rfl rfl ?_
    refine tz_cV (pc := 22) (c_atPlace hl n _ _ _ (by omega) (by omega) m C (by omega) (by omega)) vl_X2_78 dX2_replacedPart_22 o_6 rfl rfl (Nat.le_of_ble_eq_true rfl) ⟨(Nat.le_of_ble_eq_true rfl), (Nat.le_of_ble_eq_true rfl)⟩ rfl rfl (Nat.le_of_ble_eq_true rfl) (Nat.le_of_ble_eq_true rfl) (fun r9 J_22 hq9 => ?_)
    obtain ⟨z_22, rfl, hz_22, rfl, hz1, hz2, hz3⟩ := hq9
    have hg := C.arg (t := t) (i := z_22) (by omega) (by omega) (by omega) (by omega)
    have hbd := zfr_bd C (t := t) (by omega) (by omega) z_22.toNat (by omega)
    refine tz_istore (pc := 25) (L2 := [_, _, _, _, _, _, _, _, _, _, _]) dX2_replacedPart_25 (by decide) rfl ?_
    refine tz_aload_n (pc := 27) dX2_replacedPart_27 rfl rfl ?_
    refine tz_fR (pc := 28) dX2_replacedPart_28 fl_X2_28 r_141_0 ?_
    refine tz_iload_n (pc := 31) dX2_replacedPart_31 rfl rfl ?_
    refine tz_iload (pc := 32) dX2_replacedPart_32 rfl ?_
    refine tz_cV (pc := 34) (c_arg hl n _ _ _ (by omega) (by omega) (by omega)) vl_X2_48 dX2_replacedPart_34 o_6 rfl rfl (Nat.le_of_ble_eq_true rfl) ⟨(Nat.le_of_ble_eq_true rfl), (Nat.le_of_ble_eq_true rfl)⟩ rfl rfl (Nat.le_of_ble_eq_true rfl) (Nat.le_of_ble_eq_true rfl) (fun r9 J_34 hq9 => ?_)
    obtain ⟨z_34, rfl, hz_34, rfl, rfl⟩ := hq9
    refine tz_istore (pc := 37) (L2 := [_, _, _, _, _, _, _, _, _, _, _]) dX2_replacedPart_37 (by decide) rfl ?_
    refine tz_aload_n (pc := 39) dX2_replacedPart_39 rfl rfl ?_
    refine tz_iload (pc := 40) dX2_replacedPart_40 rfl ?_
    refine tz_aload_n (pc := 42) dX2_replacedPart_42 rfl rfl ?_
    refine tz_fR (pc := 43) dX2_replacedPart_43 fl_X2_28 r_141_0 ?_
    refine tz_iload_n (pc := 46) dX2_replacedPart_46 rfl rfl ?_
    refine tz_iload_n (pc := 47) dX2_replacedPart_47 rfl rfl ?_
    refine tz_iload (pc := 48) dX2_replacedPart_48 rfl ?_
    refine tz_cV (pc := 50) (c_inArg hl n _ _ _ _ (by omega) (by omega) (by omega) m C (by omega) (by omega) (by omega)) vl_X2_81 dX2_replacedPart_50 o_6 rfl rfl (Nat.le_of_ble_eq_true rfl) ⟨(Nat.le_of_ble_eq_true rfl), (Nat.le_of_ble_eq_true rfl)⟩ rfl rfl (Nat.le_of_ble_eq_true rfl) (Nat.le_of_ble_eq_true rfl) (fun r9 J_50 hq9 => ?_)
    obtain ⟨z_50, rfl, hz_50, rfl, rfl⟩ := hq9
    refine tz_iload_n (pc := 53) dX2_replacedPart_53 rfl rfl ?_
    refine tz_iload (pc := 54) dX2_replacedPart_54 rfl ?_
    refine tz_iconst (pc := 56) dX2_replacedPart_56 ?_
    refine tz_iadd (pc := 57) (v := 5) dX2_replacedPart_57 (by decide) ?_
    refine tz_cV (pc := 58) (x_put5 hl n _ _ _ _ (by omega) (by omega) (by omega) m C hm (by omega) (by have := zfr_s (J := J) (t := t) (i := z_22) (by omega); omega) ho (by omega)) vl_X2_75 dX2_replacedPart_58 o_141 rfl rfl (Nat.le_of_ble_eq_true rfl) ⟨(Nat.le_of_ble_eq_true rfl), (Nat.le_of_ble_eq_true rfl)⟩ rfl rfl (Nat.le_of_ble_eq_true rfl) (Nat.le_of_ble_eq_true rfl) (fun r9 J_58 hq9 => ?_)
    obtain ⟨z_58, rfl, hz_58, m1, g1, h1, x1⟩ := hq9
    have d1 := g1.1
    have har2 := g1.2.1.ar (t := t) (by omega) (by omega)
    have e1 := g1.2.2.2.2 1 rfl
    refine tz_istore (pc := 61) (L2 := [_, _, _, _, _, _, _, _, _, _, _]) dX2_replacedPart_61 (by decide) rfl ?_
    refine tz_iload (pc := 63) dX2_replacedPart_63 rfl ?_
    refine tz_if_ne (pc := 65) (tgt := 73) dX2_replacedPart_65 (by decide) (by omega) (fun h_65 => ?_) (fun h_65 => ?_)
    · refine tz_aload_n (pc := 73) dX2_replacedPart_73 rfl rfl ?_
      refine tz_fR (pc := 74) dX2_replacedPart_74 fl_X2_28 r_141_0 ?_
      refine tz_iload_n (pc := 77) dX2_replacedPart_77 rfl rfl ?_
      refine tz_iconst (pc := 78) dX2_replacedPart_78 ?_
      refine tz_cV (pc := 79) (c_arg hl n _ _ _ (by omega) (by decide) (by omega)) vl_X2_48 dX2_replacedPart_79 o_6 rfl rfl (Nat.le_of_ble_eq_true rfl) ⟨(Nat.le_of_ble_eq_true rfl), (Nat.le_of_ble_eq_true rfl)⟩ rfl rfl (Nat.le_of_ble_eq_true rfl) (Nat.le_of_ble_eq_true rfl) (fun r9 J_79 hq9 => ?_)
      obtain ⟨z_79, rfl, hz_79, rfl, rfl⟩ := hq9
      refine tz_istore (pc := 82) (L2 := [_, _, _, _, _, _, _, _, _, _, _]) dX2_replacedPart_82 (by decide) rfl ?_
      refine tz_iload (pc := 84) dX2_replacedPart_84 rfl ?_
      refine tz_iconst (pc := 86) dX2_replacedPart_86 ?_
      refine tz_icmp_ne (pc := 87) (tgt := 95) dX2_replacedPart_87 (by decide) (by omega) (by decide) (fun h_87 => ?_) (fun h_87 => ?_)
      · refine tz_aload_n (pc := 95) dX2_replacedPart_95 rfl rfl ?_
        refine tz_fR (pc := 96) dX2_replacedPart_96 fl_X2_28 r_141_0 ?_
        refine tz_iload_n (pc := 99) dX2_replacedPart_99 rfl rfl ?_
        refine tz_iconst (pc := 100) dX2_replacedPart_100 ?_
        refine tz_cV (pc := 101) (c_arg hl n _ _ _ (by omega) (by decide) (by omega)) vl_X2_48 dX2_replacedPart_101 o_6 rfl rfl (Nat.le_of_ble_eq_true rfl) ⟨(Nat.le_of_ble_eq_true rfl), (Nat.le_of_ble_eq_true rfl)⟩ rfl rfl (Nat.le_of_ble_eq_true rfl) (Nat.le_of_ble_eq_true rfl) (fun r9 J_101 hq9 => ?_)
        obtain ⟨z_101, rfl, hz_101, rfl, rfl⟩ := hq9
        refine tz_istore (pc := 104) (L2 := [_, _, _, _, _, _, _, _, _, _, _]) dX2_replacedPart_104 (by decide) rfl ?_
        refine tz_iload (pc := 106) dX2_replacedPart_106 rfl ?_
        refine tz_iconst (pc := 108) dX2_replacedPart_108 ?_
        refine tz_icmp_ne (pc := 109) (tgt := 117) dX2_replacedPart_109 (by decide) (by omega) (by decide) (fun h_109 => ?_) (fun h_109 => ?_)
        · refine tz_aload_n (pc := 117) dX2_replacedPart_117 rfl rfl ?_
          refine tz_fR (pc := 118) dX2_replacedPart_118 fl_X2_28 r_141_0 ?_
          refine tz_iload_n (pc := 121) dX2_replacedPart_121 rfl rfl ?_
          refine tz_iconst (pc := 122) dX2_replacedPart_122 ?_
          refine tz_cV (pc := 123) (c_arg hl n _ _ _ (by omega) (by decide) (by omega)) vl_X2_48 dX2_replacedPart_123 o_6 rfl rfl (Nat.le_of_ble_eq_true rfl) ⟨(Nat.le_of_ble_eq_true rfl), (Nat.le_of_ble_eq_true rfl)⟩ rfl rfl (Nat.le_of_ble_eq_true rfl) (Nat.le_of_ble_eq_true rfl) (fun r9 J_123 hq9 => ?_)
          obtain ⟨z_123, rfl, hz_123, rfl, rfl⟩ := hq9
          refine tz_istore (pc := 126) (L2 := [_, _, _, _, _, _, _, _, _, _, _]) dX2_replacedPart_126 (by decide) rfl ?_
          refine tz_aload_n (pc := 128) dX2_replacedPart_128 rfl rfl ?_
          refine tz_fR (pc := 129) dX2_replacedPart_129 fl_X2_28 r_141_0 ?_
          refine tz_aload_n (pc := 132) dX2_replacedPart_132 rfl rfl ?_
          refine tz_fR (pc := 133) dX2_replacedPart_133 fl_X2_28 r_141_0 ?_
          refine tz_fR (pc := 136) dX2_replacedPart_136 fl_X2_42 r_6_1 ?_
          refine tz_iload_n (pc := 139) dX2_replacedPart_139 rfl rfl ?_
          refine tz_aL (pc := 140) (z := t) (v := (J_58 7 t)) dX2_replacedPart_140 a_7 rfl (by omega) rfl (fun r_140 => ?_)
          refine tz_iload (pc := 141) dX2_replacedPart_141 rfl ?_
          refine tz_iload (pc := 143) dX2_replacedPart_143 rfl ?_
          refine tz_iload (pc := 145) dX2_replacedPart_145 rfl ?_
          refine tz_cV (pc := 147) (c_made hl n _ _ _ _ _ (by omega) (by omega) (by omega) (by omega) m1 g1.2.1 g1.2.2.1 (by omega) (GR.lt g1 ht (fun h => by have := GR.arg g1 C ht (i := 0) (by omega); omega) (fun h => by have := GR.arg g1 C ht (i := 1) (by omega); omega) (fun h => by have := GR.arg g1 C ht (i := 2) (by omega); omega))) vl_X2_52 dX2_replacedPart_147 o_6 rfl rfl (Nat.le_of_ble_eq_true rfl) ⟨(Nat.le_of_ble_eq_true rfl), (Nat.le_of_ble_eq_true rfl)⟩ rfl rfl (Nat.le_of_ble_eq_true rfl) (Nat.le_of_ble_eq_true rfl) (fun r9 J_147 hq9 => ?_)
          obtain ⟨z_147, rfl, hz_147, p_9⟩ := hq9
          obtain ⟨m9, g9, h9⟩ := GR.made p_9 (by omega)
          have q9 := GR.tr g1 g9
          exact tz_iret (pc := 150) (z := z_147) dX2_replacedPart_150 rfl (Nat.le_of_ble_eq_true rfl) (Nat.le_of_ble_eq_true rfl) ⟨Nat.le_refl _, Nat.le_add_right _ _⟩ ⟨_, rfl, (by omega), ⟨m9, q9, h9, fun S hG E => by rw [puO_s, if_neg (by omega)]; exact pu_end hG E C hm ht hz1 hz2 hz3 g1 h1 x1 p_9 (by first | exact Or.inl ⟨by omega, rfl⟩ | exact Or.inr ⟨by omega, rfl⟩) (by first | exact Or.inl ⟨by omega, rfl⟩ | exact Or.inr ⟨by omega, rfl⟩) (by first | exact Or.inl ⟨by omega, rfl⟩ | exact Or.inr ⟨by omega, rfl⟩)⟩⟩
        · refine tz_iload (pc := 112) dX2_replacedPart_112 rfl ?_
          refine tz_goto (pc := 114) (tgt := 126) dX2_replacedPart_114 (by decide) ?_
          refine tz_istore (pc := 126) (L2 := [_, _, _, _, _, _, _, _, _, _, _]) dX2_replacedPart_126 (by decide) rfl ?_
          refine tz_aload_n (pc := 128) dX2_replacedPart_128 rfl rfl ?_
          refine tz_fR (pc := 129) dX2_replacedPart_129 fl_X2_28 r_141_0 ?_
          refine tz_aload_n (pc := 132) dX2_replacedPart_132 rfl rfl ?_
          refine tz_fR (pc := 133) dX2_replacedPart_133 fl_X2_28 r_141_0 ?_
          refine tz_fR (pc := 136) dX2_replacedPart_136 fl_X2_42 r_6_1 ?_
          refine tz_iload_n (pc := 139) dX2_replacedPart_139 rfl rfl ?_
          refine tz_aL (pc := 140) (z := t) (v := (J_58 7 t)) dX2_replacedPart_140 a_7 rfl (by omega) rfl (fun r_140 => ?_)
          refine tz_iload (pc := 141) dX2_replacedPart_141 rfl ?_
          refine tz_iload (pc := 143) dX2_replacedPart_143 rfl ?_
          refine tz_iload (pc := 145) dX2_replacedPart_145 rfl ?_
          refine tz_cV (pc := 147) (c_made hl n _ _ _ _ _ (by omega) (by omega) (by omega) (by omega) m1 g1.2.1 g1.2.2.1 (by omega) (GR.lt g1 ht (fun h => by have := GR.arg g1 C ht (i := 0) (by omega); omega) (fun h => by have := GR.arg g1 C ht (i := 1) (by omega); omega) (fun h => by have := GR.arg g1 C ht (i := 2) (by omega); omega))) vl_X2_52 dX2_replacedPart_147 o_6 rfl rfl (Nat.le_of_ble_eq_true rfl) ⟨(Nat.le_of_ble_eq_true rfl), (Nat.le_of_ble_eq_true rfl)⟩ rfl rfl (Nat.le_of_ble_eq_true rfl) (Nat.le_of_ble_eq_true rfl) (fun r9 J_147 hq9 => ?_)
          obtain ⟨z_147, rfl, hz_147, p_9⟩ := hq9
          obtain ⟨m9, g9, h9⟩ := GR.made p_9 (by omega)
          have q9 := GR.tr g1 g9
          exact tz_iret (pc := 150) (z := z_147) dX2_replacedPart_150 rfl (Nat.le_of_ble_eq_true rfl) (Nat.le_of_ble_eq_true rfl) ⟨Nat.le_refl _, Nat.le_add_right _ _⟩ ⟨_, rfl, (by omega), ⟨m9, q9, h9, fun S hG E => by rw [puO_s, if_neg (by omega)]; exact pu_end hG E C hm ht hz1 hz2 hz3 g1 h1 x1 p_9 (by first | exact Or.inl ⟨by omega, rfl⟩ | exact Or.inr ⟨by omega, rfl⟩) (by first | exact Or.inl ⟨by omega, rfl⟩ | exact Or.inr ⟨by omega, rfl⟩) (by first | exact Or.inl ⟨by omega, rfl⟩ | exact Or.inr ⟨by omega, rfl⟩)⟩⟩
      · refine tz_iload (pc := 90) dX2_replacedPart_90 rfl ?_
        refine tz_goto (pc := 92) (tgt := 104) dX2_replacedPart_92 (by decide) ?_
        refine tz_istore (pc := 104) (L2 := [_, _, _, _, _, _, _, _, _, _, _]) dX2_replacedPart_104 (by decide) rfl ?_
        refine tz_iload (pc := 106) dX2_replacedPart_106 rfl ?_
        refine tz_iconst (pc := 108) dX2_replacedPart_108 ?_
        refine tz_icmp_ne (pc := 109) (tgt := 117) dX2_replacedPart_109 (by decide) (by omega) (by decide) (fun h_109 => ?_) (fun h_109 => ?_)
        · refine tz_aload_n (pc := 117) dX2_replacedPart_117 rfl rfl ?_
          refine tz_fR (pc := 118) dX2_replacedPart_118 fl_X2_28 r_141_0 ?_
          refine tz_iload_n (pc := 121) dX2_replacedPart_121 rfl rfl ?_
          refine tz_iconst (pc := 122) dX2_replacedPart_122 ?_
          refine tz_cV (pc := 123) (c_arg hl n _ _ _ (by omega) (by decide) (by omega)) vl_X2_48 dX2_replacedPart_123 o_6 rfl rfl (Nat.le_of_ble_eq_true rfl) ⟨(Nat.le_of_ble_eq_true rfl), (Nat.le_of_ble_eq_true rfl)⟩ rfl rfl (Nat.le_of_ble_eq_true rfl) (Nat.le_of_ble_eq_true rfl) (fun r9 J_123 hq9 => ?_)
          obtain ⟨z_123, rfl, hz_123, rfl, rfl⟩ := hq9
          refine tz_istore (pc := 126) (L2 := [_, _, _, _, _, _, _, _, _, _, _]) dX2_replacedPart_126 (by decide) rfl ?_
          refine tz_aload_n (pc := 128) dX2_replacedPart_128 rfl rfl ?_
          refine tz_fR (pc := 129) dX2_replacedPart_129 fl_X2_28 r_141_0 ?_
          refine tz_aload_n (pc := 132) dX2_replacedPart_132 rfl rfl ?_
          refine tz_fR (pc := 133) dX2_replacedPart_133 fl_X2_28 r_141_0 ?_
          refine tz_fR (pc := 136) dX2_replacedPart_136 fl_X2_42 r_6_1 ?_
          refine tz_iload_n (pc := 139) dX2_replacedPart_139 rfl rfl ?_
          refine tz_aL (pc := 140) (z := t) (v := (J_58 7 t)) dX2_replacedPart_140 a_7 rfl (by omega) rfl (fun r_140 => ?_)
          refine tz_iload (pc := 141) dX2_replacedPart_141 rfl ?_
          refine tz_iload (pc := 143) dX2_replacedPart_143 rfl ?_
          refine tz_iload (pc := 145) dX2_replacedPart_145 rfl ?_
          refine tz_cV (pc := 147) (c_made hl n _ _ _ _ _ (by omega) (by omega) (by omega) (by omega) m1 g1.2.1 g1.2.2.1 (by omega) (GR.lt g1 ht (fun h => by have := GR.arg g1 C ht (i := 0) (by omega); omega) (fun h => by have := GR.arg g1 C ht (i := 1) (by omega); omega) (fun h => by have := GR.arg g1 C ht (i := 2) (by omega); omega))) vl_X2_52 dX2_replacedPart_147 o_6 rfl rfl (Nat.le_of_ble_eq_true rfl) ⟨(Nat.le_of_ble_eq_true rfl), (Nat.le_of_ble_eq_true rfl)⟩ rfl rfl (Nat.le_of_ble_eq_true rfl) (Nat.le_of_ble_eq_true rfl) (fun r9 J_147 hq9 => ?_)
          obtain ⟨z_147, rfl, hz_147, p_9⟩ := hq9
          obtain ⟨m9, g9, h9⟩ := GR.made p_9 (by omega)
          have q9 := GR.tr g1 g9
          exact tz_iret (pc := 150) (z := z_147) dX2_replacedPart_150 rfl (Nat.le_of_ble_eq_true rfl) (Nat.le_of_ble_eq_true rfl) ⟨Nat.le_refl _, Nat.le_add_right _ _⟩ ⟨_, rfl, (by omega), ⟨m9, q9, h9, fun S hG E => by rw [puO_s, if_neg (by omega)]; exact pu_end hG E C hm ht hz1 hz2 hz3 g1 h1 x1 p_9 (by first | exact Or.inl ⟨by omega, rfl⟩ | exact Or.inr ⟨by omega, rfl⟩) (by first | exact Or.inl ⟨by omega, rfl⟩ | exact Or.inr ⟨by omega, rfl⟩) (by first | exact Or.inl ⟨by omega, rfl⟩ | exact Or.inr ⟨by omega, rfl⟩)⟩⟩
        · refine tz_iload (pc := 112) dX2_replacedPart_112 rfl ?_
          refine tz_goto (pc := 114) (tgt := 126) dX2_replacedPart_114 (by decide) ?_
          refine tz_istore (pc := 126) (L2 := [_, _, _, _, _, _, _, _, _, _, _]) dX2_replacedPart_126 (by decide) rfl ?_
          refine tz_aload_n (pc := 128) dX2_replacedPart_128 rfl rfl ?_
          refine tz_fR (pc := 129) dX2_replacedPart_129 fl_X2_28 r_141_0 ?_
          refine tz_aload_n (pc := 132) dX2_replacedPart_132 rfl rfl ?_
          refine tz_fR (pc := 133) dX2_replacedPart_133 fl_X2_28 r_141_0 ?_
          refine tz_fR (pc := 136) dX2_replacedPart_136 fl_X2_42 r_6_1 ?_
          refine tz_iload_n (pc := 139) dX2_replacedPart_139 rfl rfl ?_
          refine tz_aL (pc := 140) (z := t) (v := (J_58 7 t)) dX2_replacedPart_140 a_7 rfl (by omega) rfl (fun r_140 => ?_)
          refine tz_iload (pc := 141) dX2_replacedPart_141 rfl ?_
          refine tz_iload (pc := 143) dX2_replacedPart_143 rfl ?_
          refine tz_iload (pc := 145) dX2_replacedPart_145 rfl ?_
          refine tz_cV (pc := 147) (c_made hl n _ _ _ _ _ (by omega) (by omega) (by omega) (by omega) m1 g1.2.1 g1.2.2.1 (by omega) (GR.lt g1 ht (fun h => by have := GR.arg g1 C ht (i := 0) (by omega); omega) (fun h => by have := GR.arg g1 C ht (i := 1) (by omega); omega) (fun h => by have := GR.arg g1 C ht (i := 2) (by omega); omega))) vl_X2_52 dX2_replacedPart_147 o_6 rfl rfl (Nat.le_of_ble_eq_true rfl) ⟨(Nat.le_of_ble_eq_true rfl), (Nat.le_of_ble_eq_true rfl)⟩ rfl rfl (Nat.le_of_ble_eq_true rfl) (Nat.le_of_ble_eq_true rfl) (fun r9 J_147 hq9 => ?_)
          obtain ⟨z_147, rfl, hz_147, p_9⟩ := hq9
          obtain ⟨m9, g9, h9⟩ := GR.made p_9 (by omega)
          have q9 := GR.tr g1 g9
          exact tz_iret (pc := 150) (z := z_147) dX2_replacedPart_150 rfl (Nat.le_of_ble_eq_true rfl) (Nat.le_of_ble_eq_true rfl) ⟨Nat.le_refl _, Nat.le_add_right _ _⟩ ⟨_, rfl, (by omega), ⟨m9, q9, h9, fun S hG E => by rw [puO_s, if_neg (by omega)]; exact pu_end hG E C hm ht hz1 hz2 hz3 g1 h1 x1 p_9 (by first | exact Or.inl ⟨by omega, rfl⟩ | exact Or.inr ⟨by omega, rfl⟩) (by first | exact Or.inl ⟨by omega, rfl⟩ | exact Or.inr ⟨by omega, rfl⟩) (by first | exact Or.inl ⟨by omega, rfl⟩ | exact Or.inr ⟨by omega, rfl⟩)⟩⟩
    · refine tz_iload (pc := 68) dX2_replacedPart_68 rfl ?_
      refine tz_goto (pc := 70) (tgt := 82) dX2_replacedPart_70 (by decide) ?_
      refine tz_istore (pc := 82) (L2 := [_, _, _, _, _, _, _, _, _, _, _]) dX2_replacedPart_82 (by decide) rfl ?_
      refine tz_iload (pc := 84) dX2_replacedPart_84 rfl ?_
      refine tz_iconst (pc := 86) dX2_replacedPart_86 ?_
      refine tz_icmp_ne (pc := 87) (tgt := 95) dX2_replacedPart_87 (by decide) (by omega) (by decide) (fun h_87 => ?_) (fun h_87 => ?_)
      · refine tz_aload_n (pc := 95) dX2_replacedPart_95 rfl rfl ?_
        refine tz_fR (pc := 96) dX2_replacedPart_96 fl_X2_28 r_141_0 ?_
        refine tz_iload_n (pc := 99) dX2_replacedPart_99 rfl rfl ?_
        refine tz_iconst (pc := 100) dX2_replacedPart_100 ?_
        refine tz_cV (pc := 101) (c_arg hl n _ _ _ (by omega) (by decide) (by omega)) vl_X2_48 dX2_replacedPart_101 o_6 rfl rfl (Nat.le_of_ble_eq_true rfl) ⟨(Nat.le_of_ble_eq_true rfl), (Nat.le_of_ble_eq_true rfl)⟩ rfl rfl (Nat.le_of_ble_eq_true rfl) (Nat.le_of_ble_eq_true rfl) (fun r9 J_101 hq9 => ?_)
        obtain ⟨z_101, rfl, hz_101, rfl, rfl⟩ := hq9
        refine tz_istore (pc := 104) (L2 := [_, _, _, _, _, _, _, _, _, _, _]) dX2_replacedPart_104 (by decide) rfl ?_
        refine tz_iload (pc := 106) dX2_replacedPart_106 rfl ?_
        refine tz_iconst (pc := 108) dX2_replacedPart_108 ?_
        refine tz_icmp_ne (pc := 109) (tgt := 117) dX2_replacedPart_109 (by decide) (by omega) (by decide) (fun h_109 => ?_) (fun h_109 => ?_)
        · refine tz_aload_n (pc := 117) dX2_replacedPart_117 rfl rfl ?_
          refine tz_fR (pc := 118) dX2_replacedPart_118 fl_X2_28 r_141_0 ?_
          refine tz_iload_n (pc := 121) dX2_replacedPart_121 rfl rfl ?_
          refine tz_iconst (pc := 122) dX2_replacedPart_122 ?_
          refine tz_cV (pc := 123) (c_arg hl n _ _ _ (by omega) (by decide) (by omega)) vl_X2_48 dX2_replacedPart_123 o_6 rfl rfl (Nat.le_of_ble_eq_true rfl) ⟨(Nat.le_of_ble_eq_true rfl), (Nat.le_of_ble_eq_true rfl)⟩ rfl rfl (Nat.le_of_ble_eq_true rfl) (Nat.le_of_ble_eq_true rfl) (fun r9 J_123 hq9 => ?_)
          obtain ⟨z_123, rfl, hz_123, rfl, rfl⟩ := hq9
          refine tz_istore (pc := 126) (L2 := [_, _, _, _, _, _, _, _, _, _, _]) dX2_replacedPart_126 (by decide) rfl ?_
          refine tz_aload_n (pc := 128) dX2_replacedPart_128 rfl rfl ?_
          refine tz_fR (pc := 129) dX2_replacedPart_129 fl_X2_28 r_141_0 ?_
          refine tz_aload_n (pc := 132) dX2_replacedPart_132 rfl rfl ?_
          refine tz_fR (pc := 133) dX2_replacedPart_133 fl_X2_28 r_141_0 ?_
          refine tz_fR (pc := 136) dX2_replacedPart_136 fl_X2_42 r_6_1 ?_
          refine tz_iload_n (pc := 139) dX2_replacedPart_139 rfl rfl ?_
          refine tz_aL (pc := 140) (z := t) (v := (J_58 7 t)) dX2_replacedPart_140 a_7 rfl (by omega) rfl (fun r_140 => ?_)
          refine tz_iload (pc := 141) dX2_replacedPart_141 rfl ?_
          refine tz_iload (pc := 143) dX2_replacedPart_143 rfl ?_
          refine tz_iload (pc := 145) dX2_replacedPart_145 rfl ?_
          refine tz_cV (pc := 147) (c_made hl n _ _ _ _ _ (by omega) (by omega) (by omega) (by omega) m1 g1.2.1 g1.2.2.1 (by omega) (GR.lt g1 ht (fun h => by have := GR.arg g1 C ht (i := 0) (by omega); omega) (fun h => by have := GR.arg g1 C ht (i := 1) (by omega); omega) (fun h => by have := GR.arg g1 C ht (i := 2) (by omega); omega))) vl_X2_52 dX2_replacedPart_147 o_6 rfl rfl (Nat.le_of_ble_eq_true rfl) ⟨(Nat.le_of_ble_eq_true rfl), (Nat.le_of_ble_eq_true rfl)⟩ rfl rfl (Nat.le_of_ble_eq_true rfl) (Nat.le_of_ble_eq_true rfl) (fun r9 J_147 hq9 => ?_)
          obtain ⟨z_147, rfl, hz_147, p_9⟩ := hq9
          obtain ⟨m9, g9, h9⟩ := GR.made p_9 (by omega)
          have q9 := GR.tr g1 g9
          exact tz_iret (pc := 150) (z := z_147) dX2_replacedPart_150 rfl (Nat.le_of_ble_eq_true rfl) (Nat.le_of_ble_eq_true rfl) ⟨Nat.le_refl _, Nat.le_add_right _ _⟩ ⟨_, rfl, (by omega), ⟨m9, q9, h9, fun S hG E => by rw [puO_s, if_neg (by omega)]; exact pu_end hG E C hm ht hz1 hz2 hz3 g1 h1 x1 p_9 (by first | exact Or.inl ⟨by omega, rfl⟩ | exact Or.inr ⟨by omega, rfl⟩) (by first | exact Or.inl ⟨by omega, rfl⟩ | exact Or.inr ⟨by omega, rfl⟩) (by first | exact Or.inl ⟨by omega, rfl⟩ | exact Or.inr ⟨by omega, rfl⟩)⟩⟩
        · refine tz_iload (pc := 112) dX2_replacedPart_112 rfl ?_
          refine tz_goto (pc := 114) (tgt := 126) dX2_replacedPart_114 (by decide) ?_
          refine tz_istore (pc := 126) (L2 := [_, _, _, _, _, _, _, _, _, _, _]) dX2_replacedPart_126 (by decide) rfl ?_
          refine tz_aload_n (pc := 128) dX2_replacedPart_128 rfl rfl ?_
          refine tz_fR (pc := 129) dX2_replacedPart_129 fl_X2_28 r_141_0 ?_
          refine tz_aload_n (pc := 132) dX2_replacedPart_132 rfl rfl ?_
          refine tz_fR (pc := 133) dX2_replacedPart_133 fl_X2_28 r_141_0 ?_
          refine tz_fR (pc := 136) dX2_replacedPart_136 fl_X2_42 r_6_1 ?_
          refine tz_iload_n (pc := 139) dX2_replacedPart_139 rfl rfl ?_
          refine tz_aL (pc := 140) (z := t) (v := (J_58 7 t)) dX2_replacedPart_140 a_7 rfl (by omega) rfl (fun r_140 => ?_)
          refine tz_iload (pc := 141) dX2_replacedPart_141 rfl ?_
          refine tz_iload (pc := 143) dX2_replacedPart_143 rfl ?_
          refine tz_iload (pc := 145) dX2_replacedPart_145 rfl ?_
          refine tz_cV (pc := 147) (c_made hl n _ _ _ _ _ (by omega) (by omega) (by omega) (by omega) m1 g1.2.1 g1.2.2.1 (by omega) (GR.lt g1 ht (fun h => by have := GR.arg g1 C ht (i := 0) (by omega); omega) (fun h => by have := GR.arg g1 C ht (i := 1) (by omega); omega) (fun h => by have := GR.arg g1 C ht (i := 2) (by omega); omega))) vl_X2_52 dX2_replacedPart_147 o_6 rfl rfl (Nat.le_of_ble_eq_true rfl) ⟨(Nat.le_of_ble_eq_true rfl), (Nat.le_of_ble_eq_true rfl)⟩ rfl rfl (Nat.le_of_ble_eq_true rfl) (Nat.le_of_ble_eq_true rfl) (fun r9 J_147 hq9 => ?_)
          obtain ⟨z_147, rfl, hz_147, p_9⟩ := hq9
          obtain ⟨m9, g9, h9⟩ := GR.made p_9 (by omega)
          have q9 := GR.tr g1 g9
          exact tz_iret (pc := 150) (z := z_147) dX2_replacedPart_150 rfl (Nat.le_of_ble_eq_true rfl) (Nat.le_of_ble_eq_true rfl) ⟨Nat.le_refl _, Nat.le_add_right _ _⟩ ⟨_, rfl, (by omega), ⟨m9, q9, h9, fun S hG E => by rw [puO_s, if_neg (by omega)]; exact pu_end hG E C hm ht hz1 hz2 hz3 g1 h1 x1 p_9 (by first | exact Or.inl ⟨by omega, rfl⟩ | exact Or.inr ⟨by omega, rfl⟩) (by first | exact Or.inl ⟨by omega, rfl⟩ | exact Or.inr ⟨by omega, rfl⟩) (by first | exact Or.inl ⟨by omega, rfl⟩ | exact Or.inr ⟨by omega, rfl⟩)⟩⟩
      · refine tz_iload (pc := 90) dX2_replacedPart_90 rfl ?_
        refine tz_goto (pc := 92) (tgt := 104) dX2_replacedPart_92 (by decide) ?_
        refine tz_istore (pc := 104) (L2 := [_, _, _, _, _, _, _, _, _, _, _]) dX2_replacedPart_104 (by decide) rfl ?_
        refine tz_iload (pc := 106) dX2_replacedPart_106 rfl ?_
        refine tz_iconst (pc := 108) dX2_replacedPart_108 ?_
        refine tz_icmp_ne (pc := 109) (tgt := 117) dX2_replacedPart_109 (by decide) (by omega) (by decide) (fun h_109 => ?_) (fun h_109 => ?_)
        · refine tz_aload_n (pc := 117) dX2_replacedPart_117 rfl rfl ?_
          refine tz_fR (pc := 118) dX2_replacedPart_118 fl_X2_28 r_141_0 ?_
          refine tz_iload_n (pc := 121) dX2_replacedPart_121 rfl rfl ?_
          refine tz_iconst (pc := 122) dX2_replacedPart_122 ?_
          refine tz_cV (pc := 123) (c_arg hl n _ _ _ (by omega) (by decide) (by omega)) vl_X2_48 dX2_replacedPart_123 o_6 rfl rfl (Nat.le_of_ble_eq_true rfl) ⟨(Nat.le_of_ble_eq_true rfl), (Nat.le_of_ble_eq_true rfl)⟩ rfl rfl (Nat.le_of_ble_eq_true rfl) (Nat.le_of_ble_eq_true rfl) (fun r9 J_123 hq9 => ?_)
          obtain ⟨z_123, rfl, hz_123, rfl, rfl⟩ := hq9
          refine tz_istore (pc := 126) (L2 := [_, _, _, _, _, _, _, _, _, _, _]) dX2_replacedPart_126 (by decide) rfl ?_
          refine tz_aload_n (pc := 128) dX2_replacedPart_128 rfl rfl ?_
          refine tz_fR (pc := 129) dX2_replacedPart_129 fl_X2_28 r_141_0 ?_
          refine tz_aload_n (pc := 132) dX2_replacedPart_132 rfl rfl ?_
          refine tz_fR (pc := 133) dX2_replacedPart_133 fl_X2_28 r_141_0 ?_
          refine tz_fR (pc := 136) dX2_replacedPart_136 fl_X2_42 r_6_1 ?_
          refine tz_iload_n (pc := 139) dX2_replacedPart_139 rfl rfl ?_
          refine tz_aL (pc := 140) (z := t) (v := (J_58 7 t)) dX2_replacedPart_140 a_7 rfl (by omega) rfl (fun r_140 => ?_)
          refine tz_iload (pc := 141) dX2_replacedPart_141 rfl ?_
          refine tz_iload (pc := 143) dX2_replacedPart_143 rfl ?_
          refine tz_iload (pc := 145) dX2_replacedPart_145 rfl ?_
          refine tz_cV (pc := 147) (c_made hl n _ _ _ _ _ (by omega) (by omega) (by omega) (by omega) m1 g1.2.1 g1.2.2.1 (by omega) (GR.lt g1 ht (fun h => by have := GR.arg g1 C ht (i := 0) (by omega); omega) (fun h => by have := GR.arg g1 C ht (i := 1) (by omega); omega) (fun h => by have := GR.arg g1 C ht (i := 2) (by omega); omega))) vl_X2_52 dX2_replacedPart_147 o_6 rfl rfl (Nat.le_of_ble_eq_true rfl) ⟨(Nat.le_of_ble_eq_true rfl), (Nat.le_of_ble_eq_true rfl)⟩ rfl rfl (Nat.le_of_ble_eq_true rfl) (Nat.le_of_ble_eq_true rfl) (fun r9 J_147 hq9 => ?_)
          obtain ⟨z_147, rfl, hz_147, p_9⟩ := hq9
          obtain ⟨m9, g9, h9⟩ := GR.made p_9 (by omega)
          have q9 := GR.tr g1 g9
          exact tz_iret (pc := 150) (z := z_147) dX2_replacedPart_150 rfl (Nat.le_of_ble_eq_true rfl) (Nat.le_of_ble_eq_true rfl) ⟨Nat.le_refl _, Nat.le_add_right _ _⟩ ⟨_, rfl, (by omega), ⟨m9, q9, h9, fun S hG E => by rw [puO_s, if_neg (by omega)]; exact pu_end hG E C hm ht hz1 hz2 hz3 g1 h1 x1 p_9 (by first | exact Or.inl ⟨by omega, rfl⟩ | exact Or.inr ⟨by omega, rfl⟩) (by first | exact Or.inl ⟨by omega, rfl⟩ | exact Or.inr ⟨by omega, rfl⟩) (by first | exact Or.inl ⟨by omega, rfl⟩ | exact Or.inr ⟨by omega, rfl⟩)⟩⟩
        · refine tz_iload (pc := 112) dX2_replacedPart_112 rfl ?_
          refine tz_goto (pc := 114) (tgt := 126) dX2_replacedPart_114 (by decide) ?_
          refine tz_istore (pc := 126) (L2 := [_, _, _, _, _, _, _, _, _, _, _]) dX2_replacedPart_126 (by decide) rfl ?_
          refine tz_aload_n (pc := 128) dX2_replacedPart_128 rfl rfl ?_
          refine tz_fR (pc := 129) dX2_replacedPart_129 fl_X2_28 r_141_0 ?_
          refine tz_aload_n (pc := 132) dX2_replacedPart_132 rfl rfl ?_
          refine tz_fR (pc := 133) dX2_replacedPart_133 fl_X2_28 r_141_0 ?_
          refine tz_fR (pc := 136) dX2_replacedPart_136 fl_X2_42 r_6_1 ?_
          refine tz_iload_n (pc := 139) dX2_replacedPart_139 rfl rfl ?_
          refine tz_aL (pc := 140) (z := t) (v := (J_58 7 t)) dX2_replacedPart_140 a_7 rfl (by omega) rfl (fun r_140 => ?_)
          refine tz_iload (pc := 141) dX2_replacedPart_141 rfl ?_
          refine tz_iload (pc := 143) dX2_replacedPart_143 rfl ?_
          refine tz_iload (pc := 145) dX2_replacedPart_145 rfl ?_
          refine tz_cV (pc := 147) (c_made hl n _ _ _ _ _ (by omega) (by omega) (by omega) (by omega) m1 g1.2.1 g1.2.2.1 (by omega) (GR.lt g1 ht (fun h => by have := GR.arg g1 C ht (i := 0) (by omega); omega) (fun h => by have := GR.arg g1 C ht (i := 1) (by omega); omega) (fun h => by have := GR.arg g1 C ht (i := 2) (by omega); omega))) vl_X2_52 dX2_replacedPart_147 o_6 rfl rfl (Nat.le_of_ble_eq_true rfl) ⟨(Nat.le_of_ble_eq_true rfl), (Nat.le_of_ble_eq_true rfl)⟩ rfl rfl (Nat.le_of_ble_eq_true rfl) (Nat.le_of_ble_eq_true rfl) (fun r9 J_147 hq9 => ?_)
          obtain ⟨z_147, rfl, hz_147, p_9⟩ := hq9
          obtain ⟨m9, g9, h9⟩ := GR.made p_9 (by omega)
          have q9 := GR.tr g1 g9
          exact tz_iret (pc := 150) (z := z_147) dX2_replacedPart_150 rfl (Nat.le_of_ble_eq_true rfl) (Nat.le_of_ble_eq_true rfl) ⟨Nat.le_refl _, Nat.le_add_right _ _⟩ ⟨_, rfl, (by omega), ⟨m9, q9, h9, fun S hG E => by rw [puO_s, if_neg (by omega)]; exact pu_end hG E C hm ht hz1 hz2 hz3 g1 h1 x1 p_9 (by first | exact Or.inl ⟨by omega, rfl⟩ | exact Or.inr ⟨by omega, rfl⟩) (by first | exact Or.inl ⟨by omega, rfl⟩ | exact Or.inr ⟨by omega, rfl⟩) (by first | exact Or.inl ⟨by omega, rfl⟩ | exact Or.inr ⟨by omega, rfl⟩)⟩⟩
  · refine tz_iload_n (pc := 4) dX2_replacedPart_4 rfl rfl ?_
    exact tz_iret (pc := 5) (z := x) dX2_replacedPart_5 rfl (Nat.le_of_ble_eq_true rfl) (Nat.le_of_ble_eq_true rfl) ⟨Nat.le_refl _, Nat.le_add_right _ _⟩ ⟨_, rfl, (by omega), ⟨m, GR.rf C hm, by omega, fun S hG E => Or.inr ⟨by omega, by rw [puO_s, if_pos (by omega)]; exact hG, by rw [puO_s, if_pos (by omega)]; exact E, by rw [puO_s, if_pos (by omega)]⟩⟩⟩

set_option maxHeartbeats 4000000 in
set_option maxRecDepth 100000 in
theorem x_put3 {l : Launch} {G : tb_G} (hl : l.stackTraces = false) (n : Nat) (J : zJ) (t : Int) (p : Int) (x : Int) (hr_t : -2147483648 ≤ t ∧ t < 2147483648) (hr_p : -2147483648 ≤ p ∧ p < 2147483648) (hr_x : -2147483648 ≤ x ∧ x < 2147483648) (m : Int) (C : CT J m) (hm : J 6 12 = m) (ht : 0 ≤ t ∧ t < m) (hp : p < J 10 t) (ho : 0 ≤ x ∧ x < m) (hd : J 12 t ≤ 4) : tz_Ok l G M_X2_replacedPart 6 0 0 [.ref 141, zi t, zi p, zi x, zi 3] n J (zqi (fun z J' => ∃ m', GR J' J m m' ∧ (z = -3 ∨ (0 ≤ z ∧ z < m')) ∧ ∀ S, S 164 21 = 0 → A0 J S → EXO (puO x 4 S t p) z J')) zN := by
  refine tz_Ok.of hl (by decide +kernel) rfl (tb_c1 rfl) (Nat.le_of_ble_eq_true rfl) ?_
  show tz_At l G M_X2_replacedPart (tb_rm 6 0 0) none (tb_ZM G 0 0 (zQ n 0 (zqi (fun z J' => ∃ m', GR J' J m m' ∧ (z = -3 ∨ (0 ≤ z ∧ z < m')) ∧ ∀ S, S 164 21 = 0 → A0 J S → EXO (puO x 4 S t p) z J'))) (zX n 0 zN)) 0 0 n J 0 [some (.ref 141), some (zi t), some (zi p), some (zi x), some (zi 3), none, none, none, none, none, none] []
  have hb := C.told
  have har := C.ar ht.1 ht.2
  have hn := C.nums ht.1 ht.2
  refine tz_iload_n (pc := 0) dX2_replacedPart_0 rfl rfl ?_
  refine tz_if_gt (pc := 1) (tgt := 6) dX2_replacedPart_1 (by decide) (by omega) (fun h_1 => ?_) (fun h_1 => ?_)
  · refine tz_iload (pc := 6) dX2_replacedPart_6 rfl ?_
    refine tz_bipush (pc := 8) dX2_replacedPart_8 (by decide) ?_
    refine tz_icmp_leT (pc := 10) (tgt := 16) (by decide) dX2_replacedPart_10 (by decide) (by decide) (by decide) ?_
    refine tz_aload_n (pc := 16) dX2_replacedPart_16 rfl rfl ?_
    refine tz_fR (pc := 17) dX2_replacedPart_17 fl_X2_28 r_141_0 ?_
    refine tz_iload_n (pc := 20) dX2_replacedPart_20 rfl rfl ?_
    refine tz_iload_n (pc := 21) dX2_replacedPart_21 rfl rfl ?_
    refine tz_cV (pc := 22) (c_atPlace hl n _ _ _ (by omega) (by omega) m C (by omega) (by omega)) vl_X2_78 dX2_replacedPart_22 o_6 rfl rfl (Nat.le_of_ble_eq_true rfl) ⟨(Nat.le_of_ble_eq_true rfl), (Nat.le_of_ble_eq_true rfl)⟩ rfl rfl (Nat.le_of_ble_eq_true rfl) (Nat.le_of_ble_eq_true rfl) (fun r9 J_22 hq9 => ?_)
    obtain ⟨z_22, rfl, hz_22, rfl, hz1, hz2, hz3⟩ := hq9
    have hg := C.arg (t := t) (i := z_22) (by omega) (by omega) (by omega) (by omega)
    have hbd := zfr_bd C (t := t) (by omega) (by omega) z_22.toNat (by omega)
    refine tz_istore (pc := 25) (L2 := [_, _, _, _, _, _, _, _, _, _, _]) dX2_replacedPart_25 (by decide) rfl ?_
    refine tz_aload_n (pc := 27) dX2_replacedPart_27 rfl rfl ?_
    refine tz_fR (pc := 28) dX2_replacedPart_28 fl_X2_28 r_141_0 ?_
    refine tz_iload_n (pc := 31) dX2_replacedPart_31 rfl rfl ?_
    refine tz_iload (pc := 32) dX2_replacedPart_32 rfl ?_
    refine tz_cV (pc := 34) (c_arg hl n _ _ _ (by omega) (by omega) (by omega)) vl_X2_48 dX2_replacedPart_34 o_6 rfl rfl (Nat.le_of_ble_eq_true rfl) ⟨(Nat.le_of_ble_eq_true rfl), (Nat.le_of_ble_eq_true rfl)⟩ rfl rfl (Nat.le_of_ble_eq_true rfl) (Nat.le_of_ble_eq_true rfl) (fun r9 J_34 hq9 => ?_)
    obtain ⟨z_34, rfl, hz_34, rfl, rfl⟩ := hq9
    refine tz_istore (pc := 37) (L2 := [_, _, _, _, _, _, _, _, _, _, _]) dX2_replacedPart_37 (by decide) rfl ?_
    refine tz_aload_n (pc := 39) dX2_replacedPart_39 rfl rfl ?_
    refine tz_iload (pc := 40) dX2_replacedPart_40 rfl ?_
    refine tz_aload_n (pc := 42) dX2_replacedPart_42 rfl rfl ?_
    refine tz_fR (pc := 43) dX2_replacedPart_43 fl_X2_28 r_141_0 ?_
    refine tz_iload_n (pc := 46) dX2_replacedPart_46 rfl rfl ?_
    refine tz_iload_n (pc := 47) dX2_replacedPart_47 rfl rfl ?_
    refine tz_iload (pc := 48) dX2_replacedPart_48 rfl ?_
    refine tz_cV (pc := 50) (c_inArg hl n _ _ _ _ (by omega) (by omega) (by omega) m C (by omega) (by omega) (by omega)) vl_X2_81 dX2_replacedPart_50 o_6 rfl rfl (Nat.le_of_ble_eq_true rfl) ⟨(Nat.le_of_ble_eq_true rfl), (Nat.le_of_ble_eq_true rfl)⟩ rfl rfl (Nat.le_of_ble_eq_true rfl) (Nat.le_of_ble_eq_true rfl) (fun r9 J_50 hq9 => ?_)
    obtain ⟨z_50, rfl, hz_50, rfl, rfl⟩ := hq9
    refine tz_iload_n (pc := 53) dX2_replacedPart_53 rfl rfl ?_
    refine tz_iload (pc := 54) dX2_replacedPart_54 rfl ?_
    refine tz_iconst (pc := 56) dX2_replacedPart_56 ?_
    refine tz_iadd (pc := 57) (v := 4) dX2_replacedPart_57 (by decide) ?_
    refine tz_cV (pc := 58) (x_put4 hl n _ _ _ _ (by omega) (by omega) (by omega) m C hm (by omega) (by have := zfr_s (J := J) (t := t) (i := z_22) (by omega); omega) ho (by omega)) vl_X2_75 dX2_replacedPart_58 o_141 rfl rfl (Nat.le_of_ble_eq_true rfl) ⟨(Nat.le_of_ble_eq_true rfl), (Nat.le_of_ble_eq_true rfl)⟩ rfl rfl (Nat.le_of_ble_eq_true rfl) (Nat.le_of_ble_eq_true rfl) (fun r9 J_58 hq9 => ?_)
    obtain ⟨z_58, rfl, hz_58, m1, g1, h1, x1⟩ := hq9
    have d1 := g1.1
    have har2 := g1.2.1.ar (t := t) (by omega) (by omega)
    have e1 := g1.2.2.2.2 1 rfl
    refine tz_istore (pc := 61) (L2 := [_, _, _, _, _, _, _, _, _, _, _]) dX2_replacedPart_61 (by decide) rfl ?_
    refine tz_iload (pc := 63) dX2_replacedPart_63 rfl ?_
    refine tz_if_ne (pc := 65) (tgt := 73) dX2_replacedPart_65 (by decide) (by omega) (fun h_65 => ?_) (fun h_65 => ?_)
    · refine tz_aload_n (pc := 73) dX2_replacedPart_73 rfl rfl ?_
      refine tz_fR (pc := 74) dX2_replacedPart_74 fl_X2_28 r_141_0 ?_
      refine tz_iload_n (pc := 77) dX2_replacedPart_77 rfl rfl ?_
      refine tz_iconst (pc := 78) dX2_replacedPart_78 ?_
      refine tz_cV (pc := 79) (c_arg hl n _ _ _ (by omega) (by decide) (by omega)) vl_X2_48 dX2_replacedPart_79 o_6 rfl rfl (Nat.le_of_ble_eq_true rfl) ⟨(Nat.le_of_ble_eq_true rfl), (Nat.le_of_ble_eq_true rfl)⟩ rfl rfl (Nat.le_of_ble_eq_true rfl) (Nat.le_of_ble_eq_true rfl) (fun r9 J_79 hq9 => ?_)
      obtain ⟨z_79, rfl, hz_79, rfl, rfl⟩ := hq9
      refine tz_istore (pc := 82) (L2 := [_, _, _, _, _, _, _, _, _, _, _]) dX2_replacedPart_82 (by decide) rfl ?_
      refine tz_iload (pc := 84) dX2_replacedPart_84 rfl ?_
      refine tz_iconst (pc := 86) dX2_replacedPart_86 ?_
      refine tz_icmp_ne (pc := 87) (tgt := 95) dX2_replacedPart_87 (by decide) (by omega) (by decide) (fun h_87 => ?_) (fun h_87 => ?_)
      · refine tz_aload_n (pc := 95) dX2_replacedPart_95 rfl rfl ?_
        refine tz_fR (pc := 96) dX2_replacedPart_96 fl_X2_28 r_141_0 ?_
        refine tz_iload_n (pc := 99) dX2_replacedPart_99 rfl rfl ?_
        refine tz_iconst (pc := 100) dX2_replacedPart_100 ?_
        refine tz_cV (pc := 101) (c_arg hl n _ _ _ (by omega) (by decide) (by omega)) vl_X2_48 dX2_replacedPart_101 o_6 rfl rfl (Nat.le_of_ble_eq_true rfl) ⟨(Nat.le_of_ble_eq_true rfl), (Nat.le_of_ble_eq_true rfl)⟩ rfl rfl (Nat.le_of_ble_eq_true rfl) (Nat.le_of_ble_eq_true rfl) (fun r9 J_101 hq9 => ?_)
        obtain ⟨z_101, rfl, hz_101, rfl, rfl⟩ := hq9
        refine tz_istore (pc := 104) (L2 := [_, _, _, _, _, _, _, _, _, _, _]) dX2_replacedPart_104 (by decide) rfl ?_
        refine tz_iload (pc := 106) dX2_replacedPart_106 rfl ?_
        refine tz_iconst (pc := 108) dX2_replacedPart_108 ?_
        refine tz_icmp_ne (pc := 109) (tgt := 117) dX2_replacedPart_109 (by decide) (by omega) (by decide) (fun h_109 => ?_) (fun h_109 => ?_)
        · refine tz_aload_n (pc := 117) dX2_replacedPart_117 rfl rfl ?_
          refine tz_fR (pc := 118) dX2_replacedPart_118 fl_X2_28 r_141_0 ?_
          refine tz_iload_n (pc := 121) dX2_replacedPart_121 rfl rfl ?_
          refine tz_iconst (pc := 122) dX2_replacedPart_122 ?_
          refine tz_cV (pc := 123) (c_arg hl n _ _ _ (by omega) (by decide) (by omega)) vl_X2_48 dX2_replacedPart_123 o_6 rfl rfl (Nat.le_of_ble_eq_true rfl) ⟨(Nat.le_of_ble_eq_true rfl), (Nat.le_of_ble_eq_true rfl)⟩ rfl rfl (Nat.le_of_ble_eq_true rfl) (Nat.le_of_ble_eq_true rfl) (fun r9 J_123 hq9 => ?_)
          obtain ⟨z_123, rfl, hz_123, rfl, rfl⟩ := hq9
          refine tz_istore (pc := 126) (L2 := [_, _, _, _, _, _, _, _, _, _, _]) dX2_replacedPart_126 (by decide) rfl ?_
          refine tz_aload_n (pc := 128) dX2_replacedPart_128 rfl rfl ?_
          refine tz_fR (pc := 129) dX2_replacedPart_129 fl_X2_28 r_141_0 ?_
          refine tz_aload_n (pc := 132) dX2_replacedPart_132 rfl rfl ?_
          refine tz_fR (pc := 133) dX2_replacedPart_133 fl_X2_28 r_141_0 ?_
          refine tz_fR (pc := 136) dX2_replacedPart_136 fl_X2_42 r_6_1 ?_
          refine tz_iload_n (pc := 139) dX2_replacedPart_139 rfl rfl ?_
          refine tz_aL (pc := 140) (z := t) (v := (J_58 7 t)) dX2_replacedPart_140 a_7 rfl (by omega) rfl (fun r_140 => ?_)
          refine tz_iload (pc := 141) dX2_replacedPart_141 rfl ?_
          refine tz_iload (pc := 143) dX2_replacedPart_143 rfl ?_
          refine tz_iload (pc := 145) dX2_replacedPart_145 rfl ?_
          refine tz_cV (pc := 147) (c_made hl n _ _ _ _ _ (by omega) (by omega) (by omega) (by omega) m1 g1.2.1 g1.2.2.1 (by omega) (GR.lt g1 ht (fun h => by have := GR.arg g1 C ht (i := 0) (by omega); omega) (fun h => by have := GR.arg g1 C ht (i := 1) (by omega); omega) (fun h => by have := GR.arg g1 C ht (i := 2) (by omega); omega))) vl_X2_52 dX2_replacedPart_147 o_6 rfl rfl (Nat.le_of_ble_eq_true rfl) ⟨(Nat.le_of_ble_eq_true rfl), (Nat.le_of_ble_eq_true rfl)⟩ rfl rfl (Nat.le_of_ble_eq_true rfl) (Nat.le_of_ble_eq_true rfl) (fun r9 J_147 hq9 => ?_)
          obtain ⟨z_147, rfl, hz_147, p_9⟩ := hq9
          obtain ⟨m9, g9, h9⟩ := GR.made p_9 (by omega)
          have q9 := GR.tr g1 g9
          exact tz_iret (pc := 150) (z := z_147) dX2_replacedPart_150 rfl (Nat.le_of_ble_eq_true rfl) (Nat.le_of_ble_eq_true rfl) ⟨Nat.le_refl _, Nat.le_add_right _ _⟩ ⟨_, rfl, (by omega), ⟨m9, q9, h9, fun S hG E => by rw [puO_s, if_neg (by omega)]; exact pu_end hG E C hm ht hz1 hz2 hz3 g1 h1 x1 p_9 (by first | exact Or.inl ⟨by omega, rfl⟩ | exact Or.inr ⟨by omega, rfl⟩) (by first | exact Or.inl ⟨by omega, rfl⟩ | exact Or.inr ⟨by omega, rfl⟩) (by first | exact Or.inl ⟨by omega, rfl⟩ | exact Or.inr ⟨by omega, rfl⟩)⟩⟩
        · refine tz_iload (pc := 112) dX2_replacedPart_112 rfl ?_
          refine tz_goto (pc := 114) (tgt := 126) dX2_replacedPart_114 (by decide) ?_
          refine tz_istore (pc := 126) (L2 := [_, _, _, _, _, _, _, _, _, _, _]) dX2_replacedPart_126 (by decide) rfl ?_
          refine tz_aload_n (pc := 128) dX2_replacedPart_128 rfl rfl ?_
          refine tz_fR (pc := 129) dX2_replacedPart_129 fl_X2_28 r_141_0 ?_
          refine tz_aload_n (pc := 132) dX2_replacedPart_132 rfl rfl ?_
          refine tz_fR (pc := 133) dX2_replacedPart_133 fl_X2_28 r_141_0 ?_
          refine tz_fR (pc := 136) dX2_replacedPart_136 fl_X2_42 r_6_1 ?_
          refine tz_iload_n (pc := 139) dX2_replacedPart_139 rfl rfl ?_
          refine tz_aL (pc := 140) (z := t) (v := (J_58 7 t)) dX2_replacedPart_140 a_7 rfl (by omega) rfl (fun r_140 => ?_)
          refine tz_iload (pc := 141) dX2_replacedPart_141 rfl ?_
          refine tz_iload (pc := 143) dX2_replacedPart_143 rfl ?_
          refine tz_iload (pc := 145) dX2_replacedPart_145 rfl ?_
          refine tz_cV (pc := 147) (c_made hl n _ _ _ _ _ (by omega) (by omega) (by omega) (by omega) m1 g1.2.1 g1.2.2.1 (by omega) (GR.lt g1 ht (fun h => by have := GR.arg g1 C ht (i := 0) (by omega); omega) (fun h => by have := GR.arg g1 C ht (i := 1) (by omega); omega) (fun h => by have := GR.arg g1 C ht (i := 2) (by omega); omega))) vl_X2_52 dX2_replacedPart_147 o_6 rfl rfl (Nat.le_of_ble_eq_true rfl) ⟨(Nat.le_of_ble_eq_true rfl), (Nat.le_of_ble_eq_true rfl)⟩ rfl rfl (Nat.le_of_ble_eq_true rfl) (Nat.le_of_ble_eq_true rfl) (fun r9 J_147 hq9 => ?_)
          obtain ⟨z_147, rfl, hz_147, p_9⟩ := hq9
          obtain ⟨m9, g9, h9⟩ := GR.made p_9 (by omega)
          have q9 := GR.tr g1 g9
          exact tz_iret (pc := 150) (z := z_147) dX2_replacedPart_150 rfl (Nat.le_of_ble_eq_true rfl) (Nat.le_of_ble_eq_true rfl) ⟨Nat.le_refl _, Nat.le_add_right _ _⟩ ⟨_, rfl, (by omega), ⟨m9, q9, h9, fun S hG E => by rw [puO_s, if_neg (by omega)]; exact pu_end hG E C hm ht hz1 hz2 hz3 g1 h1 x1 p_9 (by first | exact Or.inl ⟨by omega, rfl⟩ | exact Or.inr ⟨by omega, rfl⟩) (by first | exact Or.inl ⟨by omega, rfl⟩ | exact Or.inr ⟨by omega, rfl⟩) (by first | exact Or.inl ⟨by omega, rfl⟩ | exact Or.inr ⟨by omega, rfl⟩)⟩⟩
      · refine tz_iload (pc := 90) dX2_replacedPart_90 rfl ?_
        refine tz_goto (pc := 92) (tgt := 104) dX2_replacedPart_92 (by decide) ?_
        refine tz_istore (pc := 104) (L2 := [_, _, _, _, _, _, _, _, _, _, _]) dX2_replacedPart_104 (by decide) rfl ?_
        refine tz_iload (pc := 106) dX2_replacedPart_106 rfl ?_
        refine tz_iconst (pc := 108) dX2_replacedPart_108 ?_
        refine tz_icmp_ne (pc := 109) (tgt := 117) dX2_replacedPart_109 (by decide) (by omega) (by decide) (fun h_109 => ?_) (fun h_109 => ?_)
        · refine tz_aload_n (pc := 117) dX2_replacedPart_117 rfl rfl ?_
          refine tz_fR (pc := 118) dX2_replacedPart_118 fl_X2_28 r_141_0 ?_
          refine tz_iload_n (pc := 121) dX2_replacedPart_121 rfl rfl ?_
          refine tz_iconst (pc := 122) dX2_replacedPart_122 ?_
          refine tz_cV (pc := 123) (c_arg hl n _ _ _ (by omega) (by decide) (by omega)) vl_X2_48 dX2_replacedPart_123 o_6 rfl rfl (Nat.le_of_ble_eq_true rfl) ⟨(Nat.le_of_ble_eq_true rfl), (Nat.le_of_ble_eq_true rfl)⟩ rfl rfl (Nat.le_of_ble_eq_true rfl) (Nat.le_of_ble_eq_true rfl) (fun r9 J_123 hq9 => ?_)
          obtain ⟨z_123, rfl, hz_123, rfl, rfl⟩ := hq9
          refine tz_istore (pc := 126) (L2 := [_, _, _, _, _, _, _, _, _, _, _]) dX2_replacedPart_126 (by decide) rfl ?_
          refine tz_aload_n (pc := 128) dX2_replacedPart_128 rfl rfl ?_
          refine tz_fR (pc := 129) dX2_replacedPart_129 fl_X2_28 r_141_0 ?_
          refine tz_aload_n (pc := 132) dX2_replacedPart_132 rfl rfl ?_
          refine tz_fR (pc := 133) dX2_replacedPart_133 fl_X2_28 r_141_0 ?_
          refine tz_fR (pc := 136) dX2_replacedPart_136 fl_X2_42 r_6_1 ?_
          refine tz_iload_n (pc := 139) dX2_replacedPart_139 rfl rfl ?_
          refine tz_aL (pc := 140) (z := t) (v := (J_58 7 t)) dX2_replacedPart_140 a_7 rfl (by omega) rfl (fun r_140 => ?_)
          refine tz_iload (pc := 141) dX2_replacedPart_141 rfl ?_
          refine tz_iload (pc := 143) dX2_replacedPart_143 rfl ?_
          refine tz_iload (pc := 145) dX2_replacedPart_145 rfl ?_
          refine tz_cV (pc := 147) (c_made hl n _ _ _ _ _ (by omega) (by omega) (by omega) (by omega) m1 g1.2.1 g1.2.2.1 (by omega) (GR.lt g1 ht (fun h => by have := GR.arg g1 C ht (i := 0) (by omega); omega) (fun h => by have := GR.arg g1 C ht (i := 1) (by omega); omega) (fun h => by have := GR.arg g1 C ht (i := 2) (by omega); omega))) vl_X2_52 dX2_replacedPart_147 o_6 rfl rfl (Nat.le_of_ble_eq_true rfl) ⟨(Nat.le_of_ble_eq_true rfl), (Nat.le_of_ble_eq_true rfl)⟩ rfl rfl (Nat.le_of_ble_eq_true rfl) (Nat.le_of_ble_eq_true rfl) (fun r9 J_147 hq9 => ?_)
          obtain ⟨z_147, rfl, hz_147, p_9⟩ := hq9
          obtain ⟨m9, g9, h9⟩ := GR.made p_9 (by omega)
          have q9 := GR.tr g1 g9
          exact tz_iret (pc := 150) (z := z_147) dX2_replacedPart_150 rfl (Nat.le_of_ble_eq_true rfl) (Nat.le_of_ble_eq_true rfl) ⟨Nat.le_refl _, Nat.le_add_right _ _⟩ ⟨_, rfl, (by omega), ⟨m9, q9, h9, fun S hG E => by rw [puO_s, if_neg (by omega)]; exact pu_end hG E C hm ht hz1 hz2 hz3 g1 h1 x1 p_9 (by first | exact Or.inl ⟨by omega, rfl⟩ | exact Or.inr ⟨by omega, rfl⟩) (by first | exact Or.inl ⟨by omega, rfl⟩ | exact Or.inr ⟨by omega, rfl⟩) (by first | exact Or.inl ⟨by omega, rfl⟩ | exact Or.inr ⟨by omega, rfl⟩)⟩⟩
        · refine tz_iload (pc := 112) dX2_replacedPart_112 rfl ?_
          refine tz_goto (pc := 114) (tgt := 126) dX2_replacedPart_114 (by decide) ?_
          refine tz_istore (pc := 126) (L2 := [_, _, _, _, _, _, _, _, _, _, _]) dX2_replacedPart_126 (by decide) rfl ?_
          refine tz_aload_n (pc := 128) dX2_replacedPart_128 rfl rfl ?_
          refine tz_fR (pc := 129) dX2_replacedPart_129 fl_X2_28 r_141_0 ?_
          refine tz_aload_n (pc := 132) dX2_replacedPart_132 rfl rfl ?_
          refine tz_fR (pc := 133) dX2_replacedPart_133 fl_X2_28 r_141_0 ?_
          refine tz_fR (pc := 136) dX2_replacedPart_136 fl_X2_42 r_6_1 ?_
          refine tz_iload_n (pc := 139) dX2_replacedPart_139 rfl rfl ?_
          refine tz_aL (pc := 140) (z := t) (v := (J_58 7 t)) dX2_replacedPart_140 a_7 rfl (by omega) rfl (fun r_140 => ?_)
          refine tz_iload (pc := 141) dX2_replacedPart_141 rfl ?_
          refine tz_iload (pc := 143) dX2_replacedPart_143 rfl ?_
          refine tz_iload (pc := 145) dX2_replacedPart_145 rfl ?_
          refine tz_cV (pc := 147) (c_made hl n _ _ _ _ _ (by omega) (by omega) (by omega) (by omega) m1 g1.2.1 g1.2.2.1 (by omega) (GR.lt g1 ht (fun h => by have := GR.arg g1 C ht (i := 0) (by omega); omega) (fun h => by have := GR.arg g1 C ht (i := 1) (by omega); omega) (fun h => by have := GR.arg g1 C ht (i := 2) (by omega); omega))) vl_X2_52 dX2_replacedPart_147 o_6 rfl rfl (Nat.le_of_ble_eq_true rfl) ⟨(Nat.le_of_ble_eq_true rfl), (Nat.le_of_ble_eq_true rfl)⟩ rfl rfl (Nat.le_of_ble_eq_true rfl) (Nat.le_of_ble_eq_true rfl) (fun r9 J_147 hq9 => ?_)
          obtain ⟨z_147, rfl, hz_147, p_9⟩ := hq9
          obtain ⟨m9, g9, h9⟩ := GR.made p_9 (by omega)
          have q9 := GR.tr g1 g9
          exact tz_iret (pc := 150) (z := z_147) dX2_replacedPart_150 rfl (Nat.le_of_ble_eq_true rfl) (Nat.le_of_ble_eq_true rfl) ⟨Nat.le_refl _, Nat.le_add_right _ _⟩ ⟨_, rfl, (by omega), ⟨m9, q9, h9, fun S hG E => by rw [puO_s, if_neg (by omega)]; exact pu_end hG E C hm ht hz1 hz2 hz3 g1 h1 x1 p_9 (by first | exact Or.inl ⟨by omega, rfl⟩ | exact Or.inr ⟨by omega, rfl⟩) (by first | exact Or.inl ⟨by omega, rfl⟩ | exact Or.inr ⟨by omega, rfl⟩) (by first | exact Or.inl ⟨by omega, rfl⟩ | exact Or.inr ⟨by omega, rfl⟩)⟩⟩
    · refine tz_iload (pc := 68) dX2_replacedPart_68 rfl ?_
      refine tz_goto (pc := 70) (tgt := 82) dX2_replacedPart_70 (by decide) ?_
      refine tz_istore (pc := 82) (L2 := [_, _, _, _, _, _, _, _, _, _, _]) dX2_replacedPart_82 (by decide) rfl ?_
      refine tz_iload (pc := 84) dX2_replacedPart_84 rfl ?_
      refine tz_iconst (pc := 86) dX2_replacedPart_86 ?_
      refine tz_icmp_ne (pc := 87) (tgt := 95) dX2_replacedPart_87 (by decide) (by omega) (by decide) (fun h_87 => ?_) (fun h_87 => ?_)
      · refine tz_aload_n (pc := 95) dX2_replacedPart_95 rfl rfl ?_
        refine tz_fR (pc := 96) dX2_replacedPart_96 fl_X2_28 r_141_0 ?_
        refine tz_iload_n (pc := 99) dX2_replacedPart_99 rfl rfl ?_
        refine tz_iconst (pc := 100) dX2_replacedPart_100 ?_
        refine tz_cV (pc := 101) (c_arg hl n _ _ _ (by omega) (by decide) (by omega)) vl_X2_48 dX2_replacedPart_101 o_6 rfl rfl (Nat.le_of_ble_eq_true rfl) ⟨(Nat.le_of_ble_eq_true rfl), (Nat.le_of_ble_eq_true rfl)⟩ rfl rfl (Nat.le_of_ble_eq_true rfl) (Nat.le_of_ble_eq_true rfl) (fun r9 J_101 hq9 => ?_)
        obtain ⟨z_101, rfl, hz_101, rfl, rfl⟩ := hq9
        refine tz_istore (pc := 104) (L2 := [_, _, _, _, _, _, _, _, _, _, _]) dX2_replacedPart_104 (by decide) rfl ?_
        refine tz_iload (pc := 106) dX2_replacedPart_106 rfl ?_
        refine tz_iconst (pc := 108) dX2_replacedPart_108 ?_
        refine tz_icmp_ne (pc := 109) (tgt := 117) dX2_replacedPart_109 (by decide) (by omega) (by decide) (fun h_109 => ?_) (fun h_109 => ?_)
        · refine tz_aload_n (pc := 117) dX2_replacedPart_117 rfl rfl ?_
          refine tz_fR (pc := 118) dX2_replacedPart_118 fl_X2_28 r_141_0 ?_
          refine tz_iload_n (pc := 121) dX2_replacedPart_121 rfl rfl ?_
          refine tz_iconst (pc := 122) dX2_replacedPart_122 ?_
          refine tz_cV (pc := 123) (c_arg hl n _ _ _ (by omega) (by decide) (by omega)) vl_X2_48 dX2_replacedPart_123 o_6 rfl rfl (Nat.le_of_ble_eq_true rfl) ⟨(Nat.le_of_ble_eq_true rfl), (Nat.le_of_ble_eq_true rfl)⟩ rfl rfl (Nat.le_of_ble_eq_true rfl) (Nat.le_of_ble_eq_true rfl) (fun r9 J_123 hq9 => ?_)
          obtain ⟨z_123, rfl, hz_123, rfl, rfl⟩ := hq9
          refine tz_istore (pc := 126) (L2 := [_, _, _, _, _, _, _, _, _, _, _]) dX2_replacedPart_126 (by decide) rfl ?_
          refine tz_aload_n (pc := 128) dX2_replacedPart_128 rfl rfl ?_
          refine tz_fR (pc := 129) dX2_replacedPart_129 fl_X2_28 r_141_0 ?_
          refine tz_aload_n (pc := 132) dX2_replacedPart_132 rfl rfl ?_
          refine tz_fR (pc := 133) dX2_replacedPart_133 fl_X2_28 r_141_0 ?_
          refine tz_fR (pc := 136) dX2_replacedPart_136 fl_X2_42 r_6_1 ?_
          refine tz_iload_n (pc := 139) dX2_replacedPart_139 rfl rfl ?_
          refine tz_aL (pc := 140) (z := t) (v := (J_58 7 t)) dX2_replacedPart_140 a_7 rfl (by omega) rfl (fun r_140 => ?_)
          refine tz_iload (pc := 141) dX2_replacedPart_141 rfl ?_
          refine tz_iload (pc := 143) dX2_replacedPart_143 rfl ?_
          refine tz_iload (pc := 145) dX2_replacedPart_145 rfl ?_
          refine tz_cV (pc := 147) (c_made hl n _ _ _ _ _ (by omega) (by omega) (by omega) (by omega) m1 g1.2.1 g1.2.2.1 (by omega) (GR.lt g1 ht (fun h => by have := GR.arg g1 C ht (i := 0) (by omega); omega) (fun h => by have := GR.arg g1 C ht (i := 1) (by omega); omega) (fun h => by have := GR.arg g1 C ht (i := 2) (by omega); omega))) vl_X2_52 dX2_replacedPart_147 o_6 rfl rfl (Nat.le_of_ble_eq_true rfl) ⟨(Nat.le_of_ble_eq_true rfl), (Nat.le_of_ble_eq_true rfl)⟩ rfl rfl (Nat.le_of_ble_eq_true rfl) (Nat.le_of_ble_eq_true rfl) (fun r9 J_147 hq9 => ?_)
          obtain ⟨z_147, rfl, hz_147, p_9⟩ := hq9
          obtain ⟨m9, g9, h9⟩ := GR.made p_9 (by omega)
          have q9 := GR.tr g1 g9
          exact tz_iret (pc := 150) (z := z_147) dX2_replacedPart_150 rfl (Nat.le_of_ble_eq_true rfl) (Nat.le_of_ble_eq_true rfl) ⟨Nat.le_refl _, Nat.le_add_right _ _⟩ ⟨_, rfl, (by omega), ⟨m9, q9, h9, fun S hG E => by rw [puO_s, if_neg (by omega)]; exact pu_end hG E C hm ht hz1 hz2 hz3 g1 h1 x1 p_9 (by first | exact Or.inl ⟨by omega, rfl⟩ | exact Or.inr ⟨by omega, rfl⟩) (by first | exact Or.inl ⟨by omega, rfl⟩ | exact Or.inr ⟨by omega, rfl⟩) (by first | exact Or.inl ⟨by omega, rfl⟩ | exact Or.inr ⟨by omega, rfl⟩)⟩⟩
        · refine tz_iload (pc := 112) dX2_replacedPart_112 rfl ?_
          refine tz_goto (pc := 114) (tgt := 126) dX2_replacedPart_114 (by decide) ?_
          refine tz_istore (pc := 126) (L2 := [_, _, _, _, _, _, _, _, _, _, _]) dX2_replacedPart_126 (by decide) rfl ?_
          refine tz_aload_n (pc := 128) dX2_replacedPart_128 rfl rfl ?_
          refine tz_fR (pc := 129) dX2_replacedPart_129 fl_X2_28 r_141_0 ?_
          refine tz_aload_n (pc := 132) dX2_replacedPart_132 rfl rfl ?_
          refine tz_fR (pc := 133) dX2_replacedPart_133 fl_X2_28 r_141_0 ?_
          refine tz_fR (pc := 136) dX2_replacedPart_136 fl_X2_42 r_6_1 ?_
          refine tz_iload_n (pc := 139) dX2_replacedPart_139 rfl rfl ?_
          refine tz_aL (pc := 140) (z := t) (v := (J_58 7 t)) dX2_replacedPart_140 a_7 rfl (by omega) rfl (fun r_140 => ?_)
          refine tz_iload (pc := 141) dX2_replacedPart_141 rfl ?_
          refine tz_iload (pc := 143) dX2_replacedPart_143 rfl ?_
          refine tz_iload (pc := 145) dX2_replacedPart_145 rfl ?_
          refine tz_cV (pc := 147) (c_made hl n _ _ _ _ _ (by omega) (by omega) (by omega) (by omega) m1 g1.2.1 g1.2.2.1 (by omega) (GR.lt g1 ht (fun h => by have := GR.arg g1 C ht (i := 0) (by omega); omega) (fun h => by have := GR.arg g1 C ht (i := 1) (by omega); omega) (fun h => by have := GR.arg g1 C ht (i := 2) (by omega); omega))) vl_X2_52 dX2_replacedPart_147 o_6 rfl rfl (Nat.le_of_ble_eq_true rfl) ⟨(Nat.le_of_ble_eq_true rfl), (Nat.le_of_ble_eq_true rfl)⟩ rfl rfl (Nat.le_of_ble_eq_true rfl) (Nat.le_of_ble_eq_true rfl) (fun r9 J_147 hq9 => ?_)
          obtain ⟨z_147, rfl, hz_147, p_9⟩ := hq9
          obtain ⟨m9, g9, h9⟩ := GR.made p_9 (by omega)
          have q9 := GR.tr g1 g9
          exact tz_iret (pc := 150) (z := z_147) dX2_replacedPart_150 rfl (Nat.le_of_ble_eq_true rfl) (Nat.le_of_ble_eq_true rfl) ⟨Nat.le_refl _, Nat.le_add_right _ _⟩ ⟨_, rfl, (by omega), ⟨m9, q9, h9, fun S hG E => by rw [puO_s, if_neg (by omega)]; exact pu_end hG E C hm ht hz1 hz2 hz3 g1 h1 x1 p_9 (by first | exact Or.inl ⟨by omega, rfl⟩ | exact Or.inr ⟨by omega, rfl⟩) (by first | exact Or.inl ⟨by omega, rfl⟩ | exact Or.inr ⟨by omega, rfl⟩) (by first | exact Or.inl ⟨by omega, rfl⟩ | exact Or.inr ⟨by omega, rfl⟩)⟩⟩
      · refine tz_iload (pc := 90) dX2_replacedPart_90 rfl ?_
        refine tz_goto (pc := 92) (tgt := 104) dX2_replacedPart_92 (by decide) ?_
        refine tz_istore (pc := 104) (L2 := [_, _, _, _, _, _, _, _, _, _, _]) dX2_replacedPart_104 (by decide) rfl ?_
        refine tz_iload (pc := 106) dX2_replacedPart_106 rfl ?_
        refine tz_iconst (pc := 108) dX2_replacedPart_108 ?_
        refine tz_icmp_ne (pc := 109) (tgt := 117) dX2_replacedPart_109 (by decide) (by omega) (by decide) (fun h_109 => ?_) (fun h_109 => ?_)
        · refine tz_aload_n (pc := 117) dX2_replacedPart_117 rfl rfl ?_
          refine tz_fR (pc := 118) dX2_replacedPart_118 fl_X2_28 r_141_0 ?_
          refine tz_iload_n (pc := 121) dX2_replacedPart_121 rfl rfl ?_
          refine tz_iconst (pc := 122) dX2_replacedPart_122 ?_
          refine tz_cV (pc := 123) (c_arg hl n _ _ _ (by omega) (by decide) (by omega)) vl_X2_48 dX2_replacedPart_123 o_6 rfl rfl (Nat.le_of_ble_eq_true rfl) ⟨(Nat.le_of_ble_eq_true rfl), (Nat.le_of_ble_eq_true rfl)⟩ rfl rfl (Nat.le_of_ble_eq_true rfl) (Nat.le_of_ble_eq_true rfl) (fun r9 J_123 hq9 => ?_)
          obtain ⟨z_123, rfl, hz_123, rfl, rfl⟩ := hq9
          refine tz_istore (pc := 126) (L2 := [_, _, _, _, _, _, _, _, _, _, _]) dX2_replacedPart_126 (by decide) rfl ?_
          refine tz_aload_n (pc := 128) dX2_replacedPart_128 rfl rfl ?_
          refine tz_fR (pc := 129) dX2_replacedPart_129 fl_X2_28 r_141_0 ?_
          refine tz_aload_n (pc := 132) dX2_replacedPart_132 rfl rfl ?_
          refine tz_fR (pc := 133) dX2_replacedPart_133 fl_X2_28 r_141_0 ?_
          refine tz_fR (pc := 136) dX2_replacedPart_136 fl_X2_42 r_6_1 ?_
          refine tz_iload_n (pc := 139) dX2_replacedPart_139 rfl rfl ?_
          refine tz_aL (pc := 140) (z := t) (v := (J_58 7 t)) dX2_replacedPart_140 a_7 rfl (by omega) rfl (fun r_140 => ?_)
          refine tz_iload (pc := 141) dX2_replacedPart_141 rfl ?_
          refine tz_iload (pc := 143) dX2_replacedPart_143 rfl ?_
          refine tz_iload (pc := 145) dX2_replacedPart_145 rfl ?_
          refine tz_cV (pc := 147) (c_made hl n _ _ _ _ _ (by omega) (by omega) (by omega) (by omega) m1 g1.2.1 g1.2.2.1 (by omega) (GR.lt g1 ht (fun h => by have := GR.arg g1 C ht (i := 0) (by omega); omega) (fun h => by have := GR.arg g1 C ht (i := 1) (by omega); omega) (fun h => by have := GR.arg g1 C ht (i := 2) (by omega); omega))) vl_X2_52 dX2_replacedPart_147 o_6 rfl rfl (Nat.le_of_ble_eq_true rfl) ⟨(Nat.le_of_ble_eq_true rfl), (Nat.le_of_ble_eq_true rfl)⟩ rfl rfl (Nat.le_of_ble_eq_true rfl) (Nat.le_of_ble_eq_true rfl) (fun r9 J_147 hq9 => ?_)
          obtain ⟨z_147, rfl, hz_147, p_9⟩ := hq9
          obtain ⟨m9, g9, h9⟩ := GR.made p_9 (by omega)
          have q9 := GR.tr g1 g9
          exact tz_iret (pc := 150) (z := z_147) dX2_replacedPart_150 rfl (Nat.le_of_ble_eq_true rfl) (Nat.le_of_ble_eq_true rfl) ⟨Nat.le_refl _, Nat.le_add_right _ _⟩ ⟨_, rfl, (by omega), ⟨m9, q9, h9, fun S hG E => by rw [puO_s, if_neg (by omega)]; exact pu_end hG E C hm ht hz1 hz2 hz3 g1 h1 x1 p_9 (by first | exact Or.inl ⟨by omega, rfl⟩ | exact Or.inr ⟨by omega, rfl⟩) (by first | exact Or.inl ⟨by omega, rfl⟩ | exact Or.inr ⟨by omega, rfl⟩) (by first | exact Or.inl ⟨by omega, rfl⟩ | exact Or.inr ⟨by omega, rfl⟩)⟩⟩
        · refine tz_iload (pc := 112) dX2_replacedPart_112 rfl ?_
          refine tz_goto (pc := 114) (tgt := 126) dX2_replacedPart_114 (by decide) ?_
          refine tz_istore (pc := 126) (L2 := [_, _, _, _, _, _, _, _, _, _, _]) dX2_replacedPart_126 (by decide) rfl ?_
          refine tz_aload_n (pc := 128) dX2_replacedPart_128 rfl rfl ?_
          refine tz_fR (pc := 129) dX2_replacedPart_129 fl_X2_28 r_141_0 ?_
          refine tz_aload_n (pc := 132) dX2_replacedPart_132 rfl rfl ?_
          refine tz_fR (pc := 133) dX2_replacedPart_133 fl_X2_28 r_141_0 ?_
          refine tz_fR (pc := 136) dX2_replacedPart_136 fl_X2_42 r_6_1 ?_
          refine tz_iload_n (pc := 139) dX2_replacedPart_139 rfl rfl ?_
          refine tz_aL (pc := 140) (z := t) (v := (J_58 7 t)) dX2_replacedPart_140 a_7 rfl (by omega) rfl (fun r_140 => ?_)
          refine tz_iload (pc := 141) dX2_replacedPart_141 rfl ?_
          refine tz_iload (pc := 143) dX2_replacedPart_143 rfl ?_
          refine tz_iload (pc := 145) dX2_replacedPart_145 rfl ?_
          refine tz_cV (pc := 147) (c_made hl n _ _ _ _ _ (by omega) (by omega) (by omega) (by omega) m1 g1.2.1 g1.2.2.1 (by omega) (GR.lt g1 ht (fun h => by have := GR.arg g1 C ht (i := 0) (by omega); omega) (fun h => by have := GR.arg g1 C ht (i := 1) (by omega); omega) (fun h => by have := GR.arg g1 C ht (i := 2) (by omega); omega))) vl_X2_52 dX2_replacedPart_147 o_6 rfl rfl (Nat.le_of_ble_eq_true rfl) ⟨(Nat.le_of_ble_eq_true rfl), (Nat.le_of_ble_eq_true rfl)⟩ rfl rfl (Nat.le_of_ble_eq_true rfl) (Nat.le_of_ble_eq_true rfl) (fun r9 J_147 hq9 => ?_)
          obtain ⟨z_147, rfl, hz_147, p_9⟩ := hq9
          obtain ⟨m9, g9, h9⟩ := GR.made p_9 (by omega)
          have q9 := GR.tr g1 g9
          exact tz_iret (pc := 150) (z := z_147) dX2_replacedPart_150 rfl (Nat.le_of_ble_eq_true rfl) (Nat.le_of_ble_eq_true rfl) ⟨Nat.le_refl _, Nat.le_add_right _ _⟩ ⟨_, rfl, (by omega), ⟨m9, q9, h9, fun S hG E => by rw [puO_s, if_neg (by omega)]; exact pu_end hG E C hm ht hz1 hz2 hz3 g1 h1 x1 p_9 (by first | exact Or.inl ⟨by omega, rfl⟩ | exact Or.inr ⟨by omega, rfl⟩) (by first | exact Or.inl ⟨by omega, rfl⟩ | exact Or.inr ⟨by omega, rfl⟩) (by first | exact Or.inl ⟨by omega, rfl⟩ | exact Or.inr ⟨by omega, rfl⟩)⟩⟩
  · refine tz_iload_n (pc := 4) dX2_replacedPart_4 rfl rfl ?_
    exact tz_iret (pc := 5) (z := x) dX2_replacedPart_5 rfl (Nat.le_of_ble_eq_true rfl) (Nat.le_of_ble_eq_true rfl) ⟨Nat.le_refl _, Nat.le_add_right _ _⟩ ⟨_, rfl, (by omega), ⟨m, GR.rf C hm, by omega, fun S hG E => Or.inr ⟨by omega, by rw [puO_s, if_pos (by omega)]; exact hG, by rw [puO_s, if_pos (by omega)]; exact E, by rw [puO_s, if_pos (by omega)]⟩⟩⟩

set_option maxHeartbeats 4000000 in
set_option maxRecDepth 100000 in
theorem x_put2 {l : Launch} {G : tb_G} (hl : l.stackTraces = false) (n : Nat) (J : zJ) (t : Int) (p : Int) (x : Int) (hr_t : -2147483648 ≤ t ∧ t < 2147483648) (hr_p : -2147483648 ≤ p ∧ p < 2147483648) (hr_x : -2147483648 ≤ x ∧ x < 2147483648) (m : Int) (C : CT J m) (hm : J 6 12 = m) (ht : 0 ≤ t ∧ t < m) (hp : p < J 10 t) (ho : 0 ≤ x ∧ x < m) (hd : J 12 t ≤ 5) : tz_Ok l G M_X2_replacedPart 7 0 0 [.ref 141, zi t, zi p, zi x, zi 2] n J (zqi (fun z J' => ∃ m', GR J' J m m' ∧ (z = -3 ∨ (0 ≤ z ∧ z < m')) ∧ ∀ S, S 164 21 = 0 → A0 J S → EXO (puO x 5 S t p) z J')) zN := by
  refine tz_Ok.of hl (by decide +kernel) rfl (tb_c1 rfl) (Nat.le_of_ble_eq_true rfl) ?_
  show tz_At l G M_X2_replacedPart (tb_rm 7 0 0) none (tb_ZM G 0 0 (zQ n 0 (zqi (fun z J' => ∃ m', GR J' J m m' ∧ (z = -3 ∨ (0 ≤ z ∧ z < m')) ∧ ∀ S, S 164 21 = 0 → A0 J S → EXO (puO x 5 S t p) z J'))) (zX n 0 zN)) 0 0 n J 0 [some (.ref 141), some (zi t), some (zi p), some (zi x), some (zi 2), none, none, none, none, none, none] []
  have hb := C.told
  have har := C.ar ht.1 ht.2
  have hn := C.nums ht.1 ht.2
  refine tz_iload_n (pc := 0) dX2_replacedPart_0 rfl rfl ?_
  refine tz_if_gt (pc := 1) (tgt := 6) dX2_replacedPart_1 (by decide) (by omega) (fun h_1 => ?_) (fun h_1 => ?_)
  · refine tz_iload (pc := 6) dX2_replacedPart_6 rfl ?_
    refine tz_bipush (pc := 8) dX2_replacedPart_8 (by decide) ?_
    refine tz_icmp_leT (pc := 10) (tgt := 16) (by decide) dX2_replacedPart_10 (by decide) (by decide) (by decide) ?_
    refine tz_aload_n (pc := 16) dX2_replacedPart_16 rfl rfl ?_
    refine tz_fR (pc := 17) dX2_replacedPart_17 fl_X2_28 r_141_0 ?_
    refine tz_iload_n (pc := 20) dX2_replacedPart_20 rfl rfl ?_
    refine tz_iload_n (pc := 21) dX2_replacedPart_21 rfl rfl ?_
    refine tz_cV (pc := 22) (c_atPlace hl n _ _ _ (by omega) (by omega) m C (by omega) (by omega)) vl_X2_78 dX2_replacedPart_22 o_6 rfl rfl (Nat.le_of_ble_eq_true rfl) ⟨(Nat.le_of_ble_eq_true rfl), (Nat.le_of_ble_eq_true rfl)⟩ rfl rfl (Nat.le_of_ble_eq_true rfl) (Nat.le_of_ble_eq_true rfl) (fun r9 J_22 hq9 => ?_)
    obtain ⟨z_22, rfl, hz_22, rfl, hz1, hz2, hz3⟩ := hq9
    have hg := C.arg (t := t) (i := z_22) (by omega) (by omega) (by omega) (by omega)
    have hbd := zfr_bd C (t := t) (by omega) (by omega) z_22.toNat (by omega)
    refine tz_istore (pc := 25) (L2 := [_, _, _, _, _, _, _, _, _, _, _]) dX2_replacedPart_25 (by decide) rfl ?_
    refine tz_aload_n (pc := 27) dX2_replacedPart_27 rfl rfl ?_
    refine tz_fR (pc := 28) dX2_replacedPart_28 fl_X2_28 r_141_0 ?_
    refine tz_iload_n (pc := 31) dX2_replacedPart_31 rfl rfl ?_
    refine tz_iload (pc := 32) dX2_replacedPart_32 rfl ?_
    refine tz_cV (pc := 34) (c_arg hl n _ _ _ (by omega) (by omega) (by omega)) vl_X2_48 dX2_replacedPart_34 o_6 rfl rfl (Nat.le_of_ble_eq_true rfl) ⟨(Nat.le_of_ble_eq_true rfl), (Nat.le_of_ble_eq_true rfl)⟩ rfl rfl (Nat.le_of_ble_eq_true rfl) (Nat.le_of_ble_eq_true rfl) (fun r9 J_34 hq9 => ?_)
    obtain ⟨z_34, rfl, hz_34, rfl, rfl⟩ := hq9
    refine tz_istore (pc := 37) (L2 := [_, _, _, _, _, _, _, _, _, _, _]) dX2_replacedPart_37 (by decide) rfl ?_
    refine tz_aload_n (pc := 39) dX2_replacedPart_39 rfl rfl ?_
    refine tz_iload (pc := 40) dX2_replacedPart_40 rfl ?_
    refine tz_aload_n (pc := 42) dX2_replacedPart_42 rfl rfl ?_
    refine tz_fR (pc := 43) dX2_replacedPart_43 fl_X2_28 r_141_0 ?_
    refine tz_iload_n (pc := 46) dX2_replacedPart_46 rfl rfl ?_
    refine tz_iload_n (pc := 47) dX2_replacedPart_47 rfl rfl ?_
    refine tz_iload (pc := 48) dX2_replacedPart_48 rfl ?_
    refine tz_cV (pc := 50) (c_inArg hl n _ _ _ _ (by omega) (by omega) (by omega) m C (by omega) (by omega) (by omega)) vl_X2_81 dX2_replacedPart_50 o_6 rfl rfl (Nat.le_of_ble_eq_true rfl) ⟨(Nat.le_of_ble_eq_true rfl), (Nat.le_of_ble_eq_true rfl)⟩ rfl rfl (Nat.le_of_ble_eq_true rfl) (Nat.le_of_ble_eq_true rfl) (fun r9 J_50 hq9 => ?_)
    obtain ⟨z_50, rfl, hz_50, rfl, rfl⟩ := hq9
    refine tz_iload_n (pc := 53) dX2_replacedPart_53 rfl rfl ?_
    refine tz_iload (pc := 54) dX2_replacedPart_54 rfl ?_
    refine tz_iconst (pc := 56) dX2_replacedPart_56 ?_
    refine tz_iadd (pc := 57) (v := 3) dX2_replacedPart_57 (by decide) ?_
    refine tz_cV (pc := 58) (x_put3 hl n _ _ _ _ (by omega) (by omega) (by omega) m C hm (by omega) (by have := zfr_s (J := J) (t := t) (i := z_22) (by omega); omega) ho (by omega)) vl_X2_75 dX2_replacedPart_58 o_141 rfl rfl (Nat.le_of_ble_eq_true rfl) ⟨(Nat.le_of_ble_eq_true rfl), (Nat.le_of_ble_eq_true rfl)⟩ rfl rfl (Nat.le_of_ble_eq_true rfl) (Nat.le_of_ble_eq_true rfl) (fun r9 J_58 hq9 => ?_)
    obtain ⟨z_58, rfl, hz_58, m1, g1, h1, x1⟩ := hq9
    have d1 := g1.1
    have har2 := g1.2.1.ar (t := t) (by omega) (by omega)
    have e1 := g1.2.2.2.2 1 rfl
    refine tz_istore (pc := 61) (L2 := [_, _, _, _, _, _, _, _, _, _, _]) dX2_replacedPart_61 (by decide) rfl ?_
    refine tz_iload (pc := 63) dX2_replacedPart_63 rfl ?_
    refine tz_if_ne (pc := 65) (tgt := 73) dX2_replacedPart_65 (by decide) (by omega) (fun h_65 => ?_) (fun h_65 => ?_)
    · refine tz_aload_n (pc := 73) dX2_replacedPart_73 rfl rfl ?_
      refine tz_fR (pc := 74) dX2_replacedPart_74 fl_X2_28 r_141_0 ?_
      refine tz_iload_n (pc := 77) dX2_replacedPart_77 rfl rfl ?_
      refine tz_iconst (pc := 78) dX2_replacedPart_78 ?_
      refine tz_cV (pc := 79) (c_arg hl n _ _ _ (by omega) (by decide) (by omega)) vl_X2_48 dX2_replacedPart_79 o_6 rfl rfl (Nat.le_of_ble_eq_true rfl) ⟨(Nat.le_of_ble_eq_true rfl), (Nat.le_of_ble_eq_true rfl)⟩ rfl rfl (Nat.le_of_ble_eq_true rfl) (Nat.le_of_ble_eq_true rfl) (fun r9 J_79 hq9 => ?_)
      obtain ⟨z_79, rfl, hz_79, rfl, rfl⟩ := hq9
      refine tz_istore (pc := 82) (L2 := [_, _, _, _, _, _, _, _, _, _, _]) dX2_replacedPart_82 (by decide) rfl ?_
      refine tz_iload (pc := 84) dX2_replacedPart_84 rfl ?_
      refine tz_iconst (pc := 86) dX2_replacedPart_86 ?_
      refine tz_icmp_ne (pc := 87) (tgt := 95) dX2_replacedPart_87 (by decide) (by omega) (by decide) (fun h_87 => ?_) (fun h_87 => ?_)
      · refine tz_aload_n (pc := 95) dX2_replacedPart_95 rfl rfl ?_
        refine tz_fR (pc := 96) dX2_replacedPart_96 fl_X2_28 r_141_0 ?_
        refine tz_iload_n (pc := 99) dX2_replacedPart_99 rfl rfl ?_
        refine tz_iconst (pc := 100) dX2_replacedPart_100 ?_
        refine tz_cV (pc := 101) (c_arg hl n _ _ _ (by omega) (by decide) (by omega)) vl_X2_48 dX2_replacedPart_101 o_6 rfl rfl (Nat.le_of_ble_eq_true rfl) ⟨(Nat.le_of_ble_eq_true rfl), (Nat.le_of_ble_eq_true rfl)⟩ rfl rfl (Nat.le_of_ble_eq_true rfl) (Nat.le_of_ble_eq_true rfl) (fun r9 J_101 hq9 => ?_)
        obtain ⟨z_101, rfl, hz_101, rfl, rfl⟩ := hq9
        refine tz_istore (pc := 104) (L2 := [_, _, _, _, _, _, _, _, _, _, _]) dX2_replacedPart_104 (by decide) rfl ?_
        refine tz_iload (pc := 106) dX2_replacedPart_106 rfl ?_
        refine tz_iconst (pc := 108) dX2_replacedPart_108 ?_
        refine tz_icmp_ne (pc := 109) (tgt := 117) dX2_replacedPart_109 (by decide) (by omega) (by decide) (fun h_109 => ?_) (fun h_109 => ?_)
        · refine tz_aload_n (pc := 117) dX2_replacedPart_117 rfl rfl ?_
          refine tz_fR (pc := 118) dX2_replacedPart_118 fl_X2_28 r_141_0 ?_
          refine tz_iload_n (pc := 121) dX2_replacedPart_121 rfl rfl ?_
          refine tz_iconst (pc := 122) dX2_replacedPart_122 ?_
          refine tz_cV (pc := 123) (c_arg hl n _ _ _ (by omega) (by decide) (by omega)) vl_X2_48 dX2_replacedPart_123 o_6 rfl rfl (Nat.le_of_ble_eq_true rfl) ⟨(Nat.le_of_ble_eq_true rfl), (Nat.le_of_ble_eq_true rfl)⟩ rfl rfl (Nat.le_of_ble_eq_true rfl) (Nat.le_of_ble_eq_true rfl) (fun r9 J_123 hq9 => ?_)
          obtain ⟨z_123, rfl, hz_123, rfl, rfl⟩ := hq9
          refine tz_istore (pc := 126) (L2 := [_, _, _, _, _, _, _, _, _, _, _]) dX2_replacedPart_126 (by decide) rfl ?_
          refine tz_aload_n (pc := 128) dX2_replacedPart_128 rfl rfl ?_
          refine tz_fR (pc := 129) dX2_replacedPart_129 fl_X2_28 r_141_0 ?_
          refine tz_aload_n (pc := 132) dX2_replacedPart_132 rfl rfl ?_
          refine tz_fR (pc := 133) dX2_replacedPart_133 fl_X2_28 r_141_0 ?_
          refine tz_fR (pc := 136) dX2_replacedPart_136 fl_X2_42 r_6_1 ?_
          refine tz_iload_n (pc := 139) dX2_replacedPart_139 rfl rfl ?_
          refine tz_aL (pc := 140) (z := t) (v := (J_58 7 t)) dX2_replacedPart_140 a_7 rfl (by omega) rfl (fun r_140 => ?_)
          refine tz_iload (pc := 141) dX2_replacedPart_141 rfl ?_
          refine tz_iload (pc := 143) dX2_replacedPart_143 rfl ?_
          refine tz_iload (pc := 145) dX2_replacedPart_145 rfl ?_
          refine tz_cV (pc := 147) (c_made hl n _ _ _ _ _ (by omega) (by omega) (by omega) (by omega) m1 g1.2.1 g1.2.2.1 (by omega) (GR.lt g1 ht (fun h => by have := GR.arg g1 C ht (i := 0) (by omega); omega) (fun h => by have := GR.arg g1 C ht (i := 1) (by omega); omega) (fun h => by have := GR.arg g1 C ht (i := 2) (by omega); omega))) vl_X2_52 dX2_replacedPart_147 o_6 rfl rfl (Nat.le_of_ble_eq_true rfl) ⟨(Nat.le_of_ble_eq_true rfl), (Nat.le_of_ble_eq_true rfl)⟩ rfl rfl (Nat.le_of_ble_eq_true rfl) (Nat.le_of_ble_eq_true rfl) (fun r9 J_147 hq9 => ?_)
          obtain ⟨z_147, rfl, hz_147, p_9⟩ := hq9
          obtain ⟨m9, g9, h9⟩ := GR.made p_9 (by omega)
          have q9 := GR.tr g1 g9
          exact tz_iret (pc := 150) (z := z_147) dX2_replacedPart_150 rfl (Nat.le_of_ble_eq_true rfl) (Nat.le_of_ble_eq_true rfl) ⟨Nat.le_refl _, Nat.le_add_right _ _⟩ ⟨_, rfl, (by omega), ⟨m9, q9, h9, fun S hG E => by rw [puO_s, if_neg (by omega)]; exact pu_end hG E C hm ht hz1 hz2 hz3 g1 h1 x1 p_9 (by first | exact Or.inl ⟨by omega, rfl⟩ | exact Or.inr ⟨by omega, rfl⟩) (by first | exact Or.inl ⟨by omega, rfl⟩ | exact Or.inr ⟨by omega, rfl⟩) (by first | exact Or.inl ⟨by omega, rfl⟩ | exact Or.inr ⟨by omega, rfl⟩)⟩⟩
        · refine tz_iload (pc := 112) dX2_replacedPart_112 rfl ?_
          refine tz_goto (pc := 114) (tgt := 126) dX2_replacedPart_114 (by decide) ?_
          refine tz_istore (pc := 126) (L2 := [_, _, _, _, _, _, _, _, _, _, _]) dX2_replacedPart_126 (by decide) rfl ?_
          refine tz_aload_n (pc := 128) dX2_replacedPart_128 rfl rfl ?_
          refine tz_fR (pc := 129) dX2_replacedPart_129 fl_X2_28 r_141_0 ?_
          refine tz_aload_n (pc := 132) dX2_replacedPart_132 rfl rfl ?_
          refine tz_fR (pc := 133) dX2_replacedPart_133 fl_X2_28 r_141_0 ?_
          refine tz_fR (pc := 136) dX2_replacedPart_136 fl_X2_42 r_6_1 ?_
          refine tz_iload_n (pc := 139) dX2_replacedPart_139 rfl rfl ?_
          refine tz_aL (pc := 140) (z := t) (v := (J_58 7 t)) dX2_replacedPart_140 a_7 rfl (by omega) rfl (fun r_140 => ?_)
          refine tz_iload (pc := 141) dX2_replacedPart_141 rfl ?_
          refine tz_iload (pc := 143) dX2_replacedPart_143 rfl ?_
          refine tz_iload (pc := 145) dX2_replacedPart_145 rfl ?_
          refine tz_cV (pc := 147) (c_made hl n _ _ _ _ _ (by omega) (by omega) (by omega) (by omega) m1 g1.2.1 g1.2.2.1 (by omega) (GR.lt g1 ht (fun h => by have := GR.arg g1 C ht (i := 0) (by omega); omega) (fun h => by have := GR.arg g1 C ht (i := 1) (by omega); omega) (fun h => by have := GR.arg g1 C ht (i := 2) (by omega); omega))) vl_X2_52 dX2_replacedPart_147 o_6 rfl rfl (Nat.le_of_ble_eq_true rfl) ⟨(Nat.le_of_ble_eq_true rfl), (Nat.le_of_ble_eq_true rfl)⟩ rfl rfl (Nat.le_of_ble_eq_true rfl) (Nat.le_of_ble_eq_true rfl) (fun r9 J_147 hq9 => ?_)
          obtain ⟨z_147, rfl, hz_147, p_9⟩ := hq9
          obtain ⟨m9, g9, h9⟩ := GR.made p_9 (by omega)
          have q9 := GR.tr g1 g9
          exact tz_iret (pc := 150) (z := z_147) dX2_replacedPart_150 rfl (Nat.le_of_ble_eq_true rfl) (Nat.le_of_ble_eq_true rfl) ⟨Nat.le_refl _, Nat.le_add_right _ _⟩ ⟨_, rfl, (by omega), ⟨m9, q9, h9, fun S hG E => by rw [puO_s, if_neg (by omega)]; exact pu_end hG E C hm ht hz1 hz2 hz3 g1 h1 x1 p_9 (by first | exact Or.inl ⟨by omega, rfl⟩ | exact Or.inr ⟨by omega, rfl⟩) (by first | exact Or.inl ⟨by omega, rfl⟩ | exact Or.inr ⟨by omega, rfl⟩) (by first | exact Or.inl ⟨by omega, rfl⟩ | exact Or.inr ⟨by omega, rfl⟩)⟩⟩
      · refine tz_iload (pc := 90) dX2_replacedPart_90 rfl ?_
        refine tz_goto (pc := 92) (tgt := 104) dX2_replacedPart_92 (by decide) ?_
        refine tz_istore (pc := 104) (L2 := [_, _, _, _, _, _, _, _, _, _, _]) dX2_replacedPart_104 (by decide) rfl ?_
        refine tz_iload (pc := 106) dX2_replacedPart_106 rfl ?_
        refine tz_iconst (pc := 108) dX2_replacedPart_108 ?_
        refine tz_icmp_ne (pc := 109) (tgt := 117) dX2_replacedPart_109 (by decide) (by omega) (by decide) (fun h_109 => ?_) (fun h_109 => ?_)
        · refine tz_aload_n (pc := 117) dX2_replacedPart_117 rfl rfl ?_
          refine tz_fR (pc := 118) dX2_replacedPart_118 fl_X2_28 r_141_0 ?_
          refine tz_iload_n (pc := 121) dX2_replacedPart_121 rfl rfl ?_
          refine tz_iconst (pc := 122) dX2_replacedPart_122 ?_
          refine tz_cV (pc := 123) (c_arg hl n _ _ _ (by omega) (by decide) (by omega)) vl_X2_48 dX2_replacedPart_123 o_6 rfl rfl (Nat.le_of_ble_eq_true rfl) ⟨(Nat.le_of_ble_eq_true rfl), (Nat.le_of_ble_eq_true rfl)⟩ rfl rfl (Nat.le_of_ble_eq_true rfl) (Nat.le_of_ble_eq_true rfl) (fun r9 J_123 hq9 => ?_)
          obtain ⟨z_123, rfl, hz_123, rfl, rfl⟩ := hq9
          refine tz_istore (pc := 126) (L2 := [_, _, _, _, _, _, _, _, _, _, _]) dX2_replacedPart_126 (by decide) rfl ?_
          refine tz_aload_n (pc := 128) dX2_replacedPart_128 rfl rfl ?_
          refine tz_fR (pc := 129) dX2_replacedPart_129 fl_X2_28 r_141_0 ?_
          refine tz_aload_n (pc := 132) dX2_replacedPart_132 rfl rfl ?_
          refine tz_fR (pc := 133) dX2_replacedPart_133 fl_X2_28 r_141_0 ?_
          refine tz_fR (pc := 136) dX2_replacedPart_136 fl_X2_42 r_6_1 ?_
          refine tz_iload_n (pc := 139) dX2_replacedPart_139 rfl rfl ?_
          refine tz_aL (pc := 140) (z := t) (v := (J_58 7 t)) dX2_replacedPart_140 a_7 rfl (by omega) rfl (fun r_140 => ?_)
          refine tz_iload (pc := 141) dX2_replacedPart_141 rfl ?_
          refine tz_iload (pc := 143) dX2_replacedPart_143 rfl ?_
          refine tz_iload (pc := 145) dX2_replacedPart_145 rfl ?_
          refine tz_cV (pc := 147) (c_made hl n _ _ _ _ _ (by omega) (by omega) (by omega) (by omega) m1 g1.2.1 g1.2.2.1 (by omega) (GR.lt g1 ht (fun h => by have := GR.arg g1 C ht (i := 0) (by omega); omega) (fun h => by have := GR.arg g1 C ht (i := 1) (by omega); omega) (fun h => by have := GR.arg g1 C ht (i := 2) (by omega); omega))) vl_X2_52 dX2_replacedPart_147 o_6 rfl rfl (Nat.le_of_ble_eq_true rfl) ⟨(Nat.le_of_ble_eq_true rfl), (Nat.le_of_ble_eq_true rfl)⟩ rfl rfl (Nat.le_of_ble_eq_true rfl) (Nat.le_of_ble_eq_true rfl) (fun r9 J_147 hq9 => ?_)
          obtain ⟨z_147, rfl, hz_147, p_9⟩ := hq9
          obtain ⟨m9, g9, h9⟩ := GR.made p_9 (by omega)
          have q9 := GR.tr g1 g9
          exact tz_iret (pc := 150) (z := z_147) dX2_replacedPart_150 rfl (Nat.le_of_ble_eq_true rfl) (Nat.le_of_ble_eq_true rfl) ⟨Nat.le_refl _, Nat.le_add_right _ _⟩ ⟨_, rfl, (by omega), ⟨m9, q9, h9, fun S hG E => by rw [puO_s, if_neg (by omega)]; exact pu_end hG E C hm ht hz1 hz2 hz3 g1 h1 x1 p_9 (by first | exact Or.inl ⟨by omega, rfl⟩ | exact Or.inr ⟨by omega, rfl⟩) (by first | exact Or.inl ⟨by omega, rfl⟩ | exact Or.inr ⟨by omega, rfl⟩) (by first | exact Or.inl ⟨by omega, rfl⟩ | exact Or.inr ⟨by omega, rfl⟩)⟩⟩
        · refine tz_iload (pc := 112) dX2_replacedPart_112 rfl ?_
          refine tz_goto (pc := 114) (tgt := 126) dX2_replacedPart_114 (by decide) ?_
          refine tz_istore (pc := 126) (L2 := [_, _, _, _, _, _, _, _, _, _, _]) dX2_replacedPart_126 (by decide) rfl ?_
          refine tz_aload_n (pc := 128) dX2_replacedPart_128 rfl rfl ?_
          refine tz_fR (pc := 129) dX2_replacedPart_129 fl_X2_28 r_141_0 ?_
          refine tz_aload_n (pc := 132) dX2_replacedPart_132 rfl rfl ?_
          refine tz_fR (pc := 133) dX2_replacedPart_133 fl_X2_28 r_141_0 ?_
          refine tz_fR (pc := 136) dX2_replacedPart_136 fl_X2_42 r_6_1 ?_
          refine tz_iload_n (pc := 139) dX2_replacedPart_139 rfl rfl ?_
          refine tz_aL (pc := 140) (z := t) (v := (J_58 7 t)) dX2_replacedPart_140 a_7 rfl (by omega) rfl (fun r_140 => ?_)
          refine tz_iload (pc := 141) dX2_replacedPart_141 rfl ?_
          refine tz_iload (pc := 143) dX2_replacedPart_143 rfl ?_
          refine tz_iload (pc := 145) dX2_replacedPart_145 rfl ?_
          refine tz_cV (pc := 147) (c_made hl n _ _ _ _ _ (by omega) (by omega) (by omega) (by omega) m1 g1.2.1 g1.2.2.1 (by omega) (GR.lt g1 ht (fun h => by have := GR.arg g1 C ht (i := 0) (by omega); omega) (fun h => by have := GR.arg g1 C ht (i := 1) (by omega); omega) (fun h => by have := GR.arg g1 C ht (i := 2) (by omega); omega))) vl_X2_52 dX2_replacedPart_147 o_6 rfl rfl (Nat.le_of_ble_eq_true rfl) ⟨(Nat.le_of_ble_eq_true rfl), (Nat.le_of_ble_eq_true rfl)⟩ rfl rfl (Nat.le_of_ble_eq_true rfl) (Nat.le_of_ble_eq_true rfl) (fun r9 J_147 hq9 => ?_)
          obtain ⟨z_147, rfl, hz_147, p_9⟩ := hq9
          obtain ⟨m9, g9, h9⟩ := GR.made p_9 (by omega)
          have q9 := GR.tr g1 g9
          exact tz_iret (pc := 150) (z := z_147) dX2_replacedPart_150 rfl (Nat.le_of_ble_eq_true rfl) (Nat.le_of_ble_eq_true rfl) ⟨Nat.le_refl _, Nat.le_add_right _ _⟩ ⟨_, rfl, (by omega), ⟨m9, q9, h9, fun S hG E => by rw [puO_s, if_neg (by omega)]; exact pu_end hG E C hm ht hz1 hz2 hz3 g1 h1 x1 p_9 (by first | exact Or.inl ⟨by omega, rfl⟩ | exact Or.inr ⟨by omega, rfl⟩) (by first | exact Or.inl ⟨by omega, rfl⟩ | exact Or.inr ⟨by omega, rfl⟩) (by first | exact Or.inl ⟨by omega, rfl⟩ | exact Or.inr ⟨by omega, rfl⟩)⟩⟩
    · refine tz_iload (pc := 68) dX2_replacedPart_68 rfl ?_
      refine tz_goto (pc := 70) (tgt := 82) dX2_replacedPart_70 (by decide) ?_
      refine tz_istore (pc := 82) (L2 := [_, _, _, _, _, _, _, _, _, _, _]) dX2_replacedPart_82 (by decide) rfl ?_
      refine tz_iload (pc := 84) dX2_replacedPart_84 rfl ?_
      refine tz_iconst (pc := 86) dX2_replacedPart_86 ?_
      refine tz_icmp_ne (pc := 87) (tgt := 95) dX2_replacedPart_87 (by decide) (by omega) (by decide) (fun h_87 => ?_) (fun h_87 => ?_)
      · refine tz_aload_n (pc := 95) dX2_replacedPart_95 rfl rfl ?_
        refine tz_fR (pc := 96) dX2_replacedPart_96 fl_X2_28 r_141_0 ?_
        refine tz_iload_n (pc := 99) dX2_replacedPart_99 rfl rfl ?_
        refine tz_iconst (pc := 100) dX2_replacedPart_100 ?_
        refine tz_cV (pc := 101) (c_arg hl n _ _ _ (by omega) (by decide) (by omega)) vl_X2_48 dX2_replacedPart_101 o_6 rfl rfl (Nat.le_of_ble_eq_true rfl) ⟨(Nat.le_of_ble_eq_true rfl), (Nat.le_of_ble_eq_true rfl)⟩ rfl rfl (Nat.le_of_ble_eq_true rfl) (Nat.le_of_ble_eq_true rfl) (fun r9 J_101 hq9 => ?_)
        obtain ⟨z_101, rfl, hz_101, rfl, rfl⟩ := hq9
        refine tz_istore (pc := 104) (L2 := [_, _, _, _, _, _, _, _, _, _, _]) dX2_replacedPart_104 (by decide) rfl ?_
        refine tz_iload (pc := 106) dX2_replacedPart_106 rfl ?_
        refine tz_iconst (pc := 108) dX2_replacedPart_108 ?_
        refine tz_icmp_ne (pc := 109) (tgt := 117) dX2_replacedPart_109 (by decide) (by omega) (by decide) (fun h_109 => ?_) (fun h_109 => ?_)
        · refine tz_aload_n (pc := 117) dX2_replacedPart_117 rfl rfl ?_
          refine tz_fR (pc := 118) dX2_replacedPart_118 fl_X2_28 r_141_0 ?_
          refine tz_iload_n (pc := 121) dX2_replacedPart_121 rfl rfl ?_
          refine tz_iconst (pc := 122) dX2_replacedPart_122 ?_
          refine tz_cV (pc := 123) (c_arg hl n _ _ _ (by omega) (by decide) (by omega)) vl_X2_48 dX2_replacedPart_123 o_6 rfl rfl (Nat.le_of_ble_eq_true rfl) ⟨(Nat.le_of_ble_eq_true rfl), (Nat.le_of_ble_eq_true rfl)⟩ rfl rfl (Nat.le_of_ble_eq_true rfl) (Nat.le_of_ble_eq_true rfl) (fun r9 J_123 hq9 => ?_)
          obtain ⟨z_123, rfl, hz_123, rfl, rfl⟩ := hq9
          refine tz_istore (pc := 126) (L2 := [_, _, _, _, _, _, _, _, _, _, _]) dX2_replacedPart_126 (by decide) rfl ?_
          refine tz_aload_n (pc := 128) dX2_replacedPart_128 rfl rfl ?_
          refine tz_fR (pc := 129) dX2_replacedPart_129 fl_X2_28 r_141_0 ?_
          refine tz_aload_n (pc := 132) dX2_replacedPart_132 rfl rfl ?_
          refine tz_fR (pc := 133) dX2_replacedPart_133 fl_X2_28 r_141_0 ?_
          refine tz_fR (pc := 136) dX2_replacedPart_136 fl_X2_42 r_6_1 ?_
          refine tz_iload_n (pc := 139) dX2_replacedPart_139 rfl rfl ?_
          refine tz_aL (pc := 140) (z := t) (v := (J_58 7 t)) dX2_replacedPart_140 a_7 rfl (by omega) rfl (fun r_140 => ?_)
          refine tz_iload (pc := 141) dX2_replacedPart_141 rfl ?_
          refine tz_iload (pc := 143) dX2_replacedPart_143 rfl ?_
          refine tz_iload (pc := 145) dX2_replacedPart_145 rfl ?_
          refine tz_cV (pc := 147) (c_made hl n _ _ _ _ _ (by omega) (by omega) (by omega) (by omega) m1 g1.2.1 g1.2.2.1 (by omega) (GR.lt g1 ht (fun h => by have := GR.arg g1 C ht (i := 0) (by omega); omega) (fun h => by have := GR.arg g1 C ht (i := 1) (by omega); omega) (fun h => by have := GR.arg g1 C ht (i := 2) (by omega); omega))) vl_X2_52 dX2_replacedPart_147 o_6 rfl rfl (Nat.le_of_ble_eq_true rfl) ⟨(Nat.le_of_ble_eq_true rfl), (Nat.le_of_ble_eq_true rfl)⟩ rfl rfl (Nat.le_of_ble_eq_true rfl) (Nat.le_of_ble_eq_true rfl) (fun r9 J_147 hq9 => ?_)
          obtain ⟨z_147, rfl, hz_147, p_9⟩ := hq9
          obtain ⟨m9, g9, h9⟩ := GR.made p_9 (by omega)
          have q9 := GR.tr g1 g9
          exact tz_iret (pc := 150) (z := z_147) dX2_replacedPart_150 rfl (Nat.le_of_ble_eq_true rfl) (Nat.le_of_ble_eq_true rfl) ⟨Nat.le_refl _, Nat.le_add_right _ _⟩ ⟨_, rfl, (by omega), ⟨m9, q9, h9, fun S hG E => by rw [puO_s, if_neg (by omega)]; exact pu_end hG E C hm ht hz1 hz2 hz3 g1 h1 x1 p_9 (by first | exact Or.inl ⟨by omega, rfl⟩ | exact Or.inr ⟨by omega, rfl⟩) (by first | exact Or.inl ⟨by omega, rfl⟩ | exact Or.inr ⟨by omega, rfl⟩) (by first | exact Or.inl ⟨by omega, rfl⟩ | exact Or.inr ⟨by omega, rfl⟩)⟩⟩
        · refine tz_iload (pc := 112) dX2_replacedPart_112 rfl ?_
          refine tz_goto (pc := 114) (tgt := 126) dX2_replacedPart_114 (by decide) ?_
          refine tz_istore (pc := 126) (L2 := [_, _, _, _, _, _, _, _, _, _, _]) dX2_replacedPart_126 (by decide) rfl ?_
          refine tz_aload_n (pc := 128) dX2_replacedPart_128 rfl rfl ?_
          refine tz_fR (pc := 129) dX2_replacedPart_129 fl_X2_28 r_141_0 ?_
          refine tz_aload_n (pc := 132) dX2_replacedPart_132 rfl rfl ?_
          refine tz_fR (pc := 133) dX2_replacedPart_133 fl_X2_28 r_141_0 ?_
          refine tz_fR (pc := 136) dX2_replacedPart_136 fl_X2_42 r_6_1 ?_
          refine tz_iload_n (pc := 139) dX2_replacedPart_139 rfl rfl ?_
          refine tz_aL (pc := 140) (z := t) (v := (J_58 7 t)) dX2_replacedPart_140 a_7 rfl (by omega) rfl (fun r_140 => ?_)
          refine tz_iload (pc := 141) dX2_replacedPart_141 rfl ?_
          refine tz_iload (pc := 143) dX2_replacedPart_143 rfl ?_
          refine tz_iload (pc := 145) dX2_replacedPart_145 rfl ?_
          refine tz_cV (pc := 147) (c_made hl n _ _ _ _ _ (by omega) (by omega) (by omega) (by omega) m1 g1.2.1 g1.2.2.1 (by omega) (GR.lt g1 ht (fun h => by have := GR.arg g1 C ht (i := 0) (by omega); omega) (fun h => by have := GR.arg g1 C ht (i := 1) (by omega); omega) (fun h => by have := GR.arg g1 C ht (i := 2) (by omega); omega))) vl_X2_52 dX2_replacedPart_147 o_6 rfl rfl (Nat.le_of_ble_eq_true rfl) ⟨(Nat.le_of_ble_eq_true rfl), (Nat.le_of_ble_eq_true rfl)⟩ rfl rfl (Nat.le_of_ble_eq_true rfl) (Nat.le_of_ble_eq_true rfl) (fun r9 J_147 hq9 => ?_)
          obtain ⟨z_147, rfl, hz_147, p_9⟩ := hq9
          obtain ⟨m9, g9, h9⟩ := GR.made p_9 (by omega)
          have q9 := GR.tr g1 g9
          exact tz_iret (pc := 150) (z := z_147) dX2_replacedPart_150 rfl (Nat.le_of_ble_eq_true rfl) (Nat.le_of_ble_eq_true rfl) ⟨Nat.le_refl _, Nat.le_add_right _ _⟩ ⟨_, rfl, (by omega), ⟨m9, q9, h9, fun S hG E => by rw [puO_s, if_neg (by omega)]; exact pu_end hG E C hm ht hz1 hz2 hz3 g1 h1 x1 p_9 (by first | exact Or.inl ⟨by omega, rfl⟩ | exact Or.inr ⟨by omega, rfl⟩) (by first | exact Or.inl ⟨by omega, rfl⟩ | exact Or.inr ⟨by omega, rfl⟩) (by first | exact Or.inl ⟨by omega, rfl⟩ | exact Or.inr ⟨by omega, rfl⟩)⟩⟩
      · refine tz_iload (pc := 90) dX2_replacedPart_90 rfl ?_
        refine tz_goto (pc := 92) (tgt := 104) dX2_replacedPart_92 (by decide) ?_
        refine tz_istore (pc := 104) (L2 := [_, _, _, _, _, _, _, _, _, _, _]) dX2_replacedPart_104 (by decide) rfl ?_
        refine tz_iload (pc := 106) dX2_replacedPart_106 rfl ?_
        refine tz_iconst (pc := 108) dX2_replacedPart_108 ?_
        refine tz_icmp_ne (pc := 109) (tgt := 117) dX2_replacedPart_109 (by decide) (by omega) (by decide) (fun h_109 => ?_) (fun h_109 => ?_)
        · refine tz_aload_n (pc := 117) dX2_replacedPart_117 rfl rfl ?_
          refine tz_fR (pc := 118) dX2_replacedPart_118 fl_X2_28 r_141_0 ?_
          refine tz_iload_n (pc := 121) dX2_replacedPart_121 rfl rfl ?_
          refine tz_iconst (pc := 122) dX2_replacedPart_122 ?_
          refine tz_cV (pc := 123) (c_arg hl n _ _ _ (by omega) (by decide) (by omega)) vl_X2_48 dX2_replacedPart_123 o_6 rfl rfl (Nat.le_of_ble_eq_true rfl) ⟨(Nat.le_of_ble_eq_true rfl), (Nat.le_of_ble_eq_true rfl)⟩ rfl rfl (Nat.le_of_ble_eq_true rfl) (Nat.le_of_ble_eq_true rfl) (fun r9 J_123 hq9 => ?_)
          obtain ⟨z_123, rfl, hz_123, rfl, rfl⟩ := hq9
          refine tz_istore (pc := 126) (L2 := [_, _, _, _, _, _, _, _, _, _, _]) dX2_replacedPart_126 (by decide) rfl ?_
          refine tz_aload_n (pc := 128) dX2_replacedPart_128 rfl rfl ?_
          refine tz_fR (pc := 129) dX2_replacedPart_129 fl_X2_28 r_141_0 ?_
          refine tz_aload_n (pc := 132) dX2_replacedPart_132 rfl rfl ?_
          refine tz_fR (pc := 133) dX2_replacedPart_133 fl_X2_28 r_141_0 ?_
          refine tz_fR (pc := 136) dX2_replacedPart_136 fl_X2_42 r_6_1 ?_
          refine tz_iload_n (pc := 139) dX2_replacedPart_139 rfl rfl ?_
          refine tz_aL (pc := 140) (z := t) (v := (J_58 7 t)) dX2_replacedPart_140 a_7 rfl (by omega) rfl (fun r_140 => ?_)
          refine tz_iload (pc := 141) dX2_replacedPart_141 rfl ?_
          refine tz_iload (pc := 143) dX2_replacedPart_143 rfl ?_
          refine tz_iload (pc := 145) dX2_replacedPart_145 rfl ?_
          refine tz_cV (pc := 147) (c_made hl n _ _ _ _ _ (by omega) (by omega) (by omega) (by omega) m1 g1.2.1 g1.2.2.1 (by omega) (GR.lt g1 ht (fun h => by have := GR.arg g1 C ht (i := 0) (by omega); omega) (fun h => by have := GR.arg g1 C ht (i := 1) (by omega); omega) (fun h => by have := GR.arg g1 C ht (i := 2) (by omega); omega))) vl_X2_52 dX2_replacedPart_147 o_6 rfl rfl (Nat.le_of_ble_eq_true rfl) ⟨(Nat.le_of_ble_eq_true rfl), (Nat.le_of_ble_eq_true rfl)⟩ rfl rfl (Nat.le_of_ble_eq_true rfl) (Nat.le_of_ble_eq_true rfl) (fun r9 J_147 hq9 => ?_)
          obtain ⟨z_147, rfl, hz_147, p_9⟩ := hq9
          obtain ⟨m9, g9, h9⟩ := GR.made p_9 (by omega)
          have q9 := GR.tr g1 g9
          exact tz_iret (pc := 150) (z := z_147) dX2_replacedPart_150 rfl (Nat.le_of_ble_eq_true rfl) (Nat.le_of_ble_eq_true rfl) ⟨Nat.le_refl _, Nat.le_add_right _ _⟩ ⟨_, rfl, (by omega), ⟨m9, q9, h9, fun S hG E => by rw [puO_s, if_neg (by omega)]; exact pu_end hG E C hm ht hz1 hz2 hz3 g1 h1 x1 p_9 (by first | exact Or.inl ⟨by omega, rfl⟩ | exact Or.inr ⟨by omega, rfl⟩) (by first | exact Or.inl ⟨by omega, rfl⟩ | exact Or.inr ⟨by omega, rfl⟩) (by first | exact Or.inl ⟨by omega, rfl⟩ | exact Or.inr ⟨by omega, rfl⟩)⟩⟩
        · refine tz_iload (pc := 112) dX2_replacedPart_112 rfl ?_
          refine tz_goto (pc := 114) (tgt := 126) dX2_replacedPart_114 (by decide) ?_
          refine tz_istore (pc := 126) (L2 := [_, _, _, _, _, _, _, _, _, _, _]) dX2_replacedPart_126 (by decide) rfl ?_
          refine tz_aload_n (pc := 128) dX2_replacedPart_128 rfl rfl ?_
          refine tz_fR (pc := 129) dX2_replacedPart_129 fl_X2_28 r_141_0 ?_
          refine tz_aload_n (pc := 132) dX2_replacedPart_132 rfl rfl ?_
          refine tz_fR (pc := 133) dX2_replacedPart_133 fl_X2_28 r_141_0 ?_
          refine tz_fR (pc := 136) dX2_replacedPart_136 fl_X2_42 r_6_1 ?_
          refine tz_iload_n (pc := 139) dX2_replacedPart_139 rfl rfl ?_
          refine tz_aL (pc := 140) (z := t) (v := (J_58 7 t)) dX2_replacedPart_140 a_7 rfl (by omega) rfl (fun r_140 => ?_)
          refine tz_iload (pc := 141) dX2_replacedPart_141 rfl ?_
          refine tz_iload (pc := 143) dX2_replacedPart_143 rfl ?_
          refine tz_iload (pc := 145) dX2_replacedPart_145 rfl ?_
          refine tz_cV (pc := 147) (c_made hl n _ _ _ _ _ (by omega) (by omega) (by omega) (by omega) m1 g1.2.1 g1.2.2.1 (by omega) (GR.lt g1 ht (fun h => by have := GR.arg g1 C ht (i := 0) (by omega); omega) (fun h => by have := GR.arg g1 C ht (i := 1) (by omega); omega) (fun h => by have := GR.arg g1 C ht (i := 2) (by omega); omega))) vl_X2_52 dX2_replacedPart_147 o_6 rfl rfl (Nat.le_of_ble_eq_true rfl) ⟨(Nat.le_of_ble_eq_true rfl), (Nat.le_of_ble_eq_true rfl)⟩ rfl rfl (Nat.le_of_ble_eq_true rfl) (Nat.le_of_ble_eq_true rfl) (fun r9 J_147 hq9 => ?_)
          obtain ⟨z_147, rfl, hz_147, p_9⟩ := hq9
          obtain ⟨m9, g9, h9⟩ := GR.made p_9 (by omega)
          have q9 := GR.tr g1 g9
          exact tz_iret (pc := 150) (z := z_147) dX2_replacedPart_150 rfl (Nat.le_of_ble_eq_true rfl) (Nat.le_of_ble_eq_true rfl) ⟨Nat.le_refl _, Nat.le_add_right _ _⟩ ⟨_, rfl, (by omega), ⟨m9, q9, h9, fun S hG E => by rw [puO_s, if_neg (by omega)]; exact pu_end hG E C hm ht hz1 hz2 hz3 g1 h1 x1 p_9 (by first | exact Or.inl ⟨by omega, rfl⟩ | exact Or.inr ⟨by omega, rfl⟩) (by first | exact Or.inl ⟨by omega, rfl⟩ | exact Or.inr ⟨by omega, rfl⟩) (by first | exact Or.inl ⟨by omega, rfl⟩ | exact Or.inr ⟨by omega, rfl⟩)⟩⟩
  · refine tz_iload_n (pc := 4) dX2_replacedPart_4 rfl rfl ?_
    exact tz_iret (pc := 5) (z := x) dX2_replacedPart_5 rfl (Nat.le_of_ble_eq_true rfl) (Nat.le_of_ble_eq_true rfl) ⟨Nat.le_refl _, Nat.le_add_right _ _⟩ ⟨_, rfl, (by omega), ⟨m, GR.rf C hm, by omega, fun S hG E => Or.inr ⟨by omega, by rw [puO_s, if_pos (by omega)]; exact hG, by rw [puO_s, if_pos (by omega)]; exact E, by rw [puO_s, if_pos (by omega)]⟩⟩⟩

set_option maxHeartbeats 4000000 in
set_option maxRecDepth 100000 in
theorem x_put1 {l : Launch} {G : tb_G} (hl : l.stackTraces = false) (n : Nat) (J : zJ) (t : Int) (p : Int) (x : Int) (hr_t : -2147483648 ≤ t ∧ t < 2147483648) (hr_p : -2147483648 ≤ p ∧ p < 2147483648) (hr_x : -2147483648 ≤ x ∧ x < 2147483648) (m : Int) (C : CT J m) (hm : J 6 12 = m) (ht : 0 ≤ t ∧ t < m) (hp : p < J 10 t) (ho : 0 ≤ x ∧ x < m) (hd : J 12 t ≤ 6) : tz_Ok l G M_X2_replacedPart 8 0 0 [.ref 141, zi t, zi p, zi x, zi 1] n J (zqi (fun z J' => ∃ m', GR J' J m m' ∧ (z = -3 ∨ (0 ≤ z ∧ z < m')) ∧ ∀ S, S 164 21 = 0 → A0 J S → EXO (puO x 6 S t p) z J')) zN := by
  refine tz_Ok.of hl (by decide +kernel) rfl (tb_c1 rfl) (Nat.le_of_ble_eq_true rfl) ?_
  show tz_At l G M_X2_replacedPart (tb_rm 8 0 0) none (tb_ZM G 0 0 (zQ n 0 (zqi (fun z J' => ∃ m', GR J' J m m' ∧ (z = -3 ∨ (0 ≤ z ∧ z < m')) ∧ ∀ S, S 164 21 = 0 → A0 J S → EXO (puO x 6 S t p) z J'))) (zX n 0 zN)) 0 0 n J 0 [some (.ref 141), some (zi t), some (zi p), some (zi x), some (zi 1), none, none, none, none, none, none] []
  have hb := C.told
  have har := C.ar ht.1 ht.2
  have hn := C.nums ht.1 ht.2
  refine tz_iload_n (pc := 0) dX2_replacedPart_0 rfl rfl ?_
  refine tz_if_gt (pc := 1) (tgt := 6) dX2_replacedPart_1 (by decide) (by omega) (fun h_1 => ?_) (fun h_1 => ?_)
  · refine tz_iload (pc := 6) dX2_replacedPart_6 rfl ?_
    refine tz_bipush (pc := 8) dX2_replacedPart_8 (by decide) ?_
    refine tz_icmp_leT (pc := 10) (tgt := 16) (by decide) dX2_replacedPart_10 (by decide) (by decide) (by decide) ?_
    refine tz_aload_n (pc := 16) dX2_replacedPart_16 rfl rfl ?_
    refine tz_fR (pc := 17) dX2_replacedPart_17 fl_X2_28 r_141_0 ?_
    refine tz_iload_n (pc := 20) dX2_replacedPart_20 rfl rfl ?_
    refine tz_iload_n (pc := 21) dX2_replacedPart_21 rfl rfl ?_
    refine tz_cV (pc := 22) (c_atPlace hl n _ _ _ (by omega) (by omega) m C (by omega) (by omega)) vl_X2_78 dX2_replacedPart_22 o_6 rfl rfl (Nat.le_of_ble_eq_true rfl) ⟨(Nat.le_of_ble_eq_true rfl), (Nat.le_of_ble_eq_true rfl)⟩ rfl rfl (Nat.le_of_ble_eq_true rfl) (Nat.le_of_ble_eq_true rfl) (fun r9 J_22 hq9 => ?_)
    obtain ⟨z_22, rfl, hz_22, rfl, hz1, hz2, hz3⟩ := hq9
    have hg := C.arg (t := t) (i := z_22) (by omega) (by omega) (by omega) (by omega)
    have hbd := zfr_bd C (t := t) (by omega) (by omega) z_22.toNat (by omega)
    refine tz_istore (pc := 25) (L2 := [_, _, _, _, _, _, _, _, _, _, _]) dX2_replacedPart_25 (by decide) rfl ?_
    refine tz_aload_n (pc := 27) dX2_replacedPart_27 rfl rfl ?_
    refine tz_fR (pc := 28) dX2_replacedPart_28 fl_X2_28 r_141_0 ?_
    refine tz_iload_n (pc := 31) dX2_replacedPart_31 rfl rfl ?_
    refine tz_iload (pc := 32) dX2_replacedPart_32 rfl ?_
    refine tz_cV (pc := 34) (c_arg hl n _ _ _ (by omega) (by omega) (by omega)) vl_X2_48 dX2_replacedPart_34 o_6 rfl rfl (Nat.le_of_ble_eq_true rfl) ⟨(Nat.le_of_ble_eq_true rfl), (Nat.le_of_ble_eq_true rfl)⟩ rfl rfl (Nat.le_of_ble_eq_true rfl) (Nat.le_of_ble_eq_true rfl) (fun r9 J_34 hq9 => ?_)
    obtain ⟨z_34, rfl, hz_34, rfl, rfl⟩ := hq9
    refine tz_istore (pc := 37) (L2 := [_, _, _, _, _, _, _, _, _, _, _]) dX2_replacedPart_37 (by decide) rfl ?_
    refine tz_aload_n (pc := 39) dX2_replacedPart_39 rfl rfl ?_
    refine tz_iload (pc := 40) dX2_replacedPart_40 rfl ?_
    refine tz_aload_n (pc := 42) dX2_replacedPart_42 rfl rfl ?_
    refine tz_fR (pc := 43) dX2_replacedPart_43 fl_X2_28 r_141_0 ?_
    refine tz_iload_n (pc := 46) dX2_replacedPart_46 rfl rfl ?_
    refine tz_iload_n (pc := 47) dX2_replacedPart_47 rfl rfl ?_
    refine tz_iload (pc := 48) dX2_replacedPart_48 rfl ?_
    refine tz_cV (pc := 50) (c_inArg hl n _ _ _ _ (by omega) (by omega) (by omega) m C (by omega) (by omega) (by omega)) vl_X2_81 dX2_replacedPart_50 o_6 rfl rfl (Nat.le_of_ble_eq_true rfl) ⟨(Nat.le_of_ble_eq_true rfl), (Nat.le_of_ble_eq_true rfl)⟩ rfl rfl (Nat.le_of_ble_eq_true rfl) (Nat.le_of_ble_eq_true rfl) (fun r9 J_50 hq9 => ?_)
    obtain ⟨z_50, rfl, hz_50, rfl, rfl⟩ := hq9
    refine tz_iload_n (pc := 53) dX2_replacedPart_53 rfl rfl ?_
    refine tz_iload (pc := 54) dX2_replacedPart_54 rfl ?_
    refine tz_iconst (pc := 56) dX2_replacedPart_56 ?_
    refine tz_iadd (pc := 57) (v := 2) dX2_replacedPart_57 (by decide) ?_
    refine tz_cV (pc := 58) (x_put2 hl n _ _ _ _ (by omega) (by omega) (by omega) m C hm (by omega) (by have := zfr_s (J := J) (t := t) (i := z_22) (by omega); omega) ho (by omega)) vl_X2_75 dX2_replacedPart_58 o_141 rfl rfl (Nat.le_of_ble_eq_true rfl) ⟨(Nat.le_of_ble_eq_true rfl), (Nat.le_of_ble_eq_true rfl)⟩ rfl rfl (Nat.le_of_ble_eq_true rfl) (Nat.le_of_ble_eq_true rfl) (fun r9 J_58 hq9 => ?_)
    obtain ⟨z_58, rfl, hz_58, m1, g1, h1, x1⟩ := hq9
    have d1 := g1.1
    have har2 := g1.2.1.ar (t := t) (by omega) (by omega)
    have e1 := g1.2.2.2.2 1 rfl
    refine tz_istore (pc := 61) (L2 := [_, _, _, _, _, _, _, _, _, _, _]) dX2_replacedPart_61 (by decide) rfl ?_
    refine tz_iload (pc := 63) dX2_replacedPart_63 rfl ?_
    refine tz_if_ne (pc := 65) (tgt := 73) dX2_replacedPart_65 (by decide) (by omega) (fun h_65 => ?_) (fun h_65 => ?_)
    · refine tz_aload_n (pc := 73) dX2_replacedPart_73 rfl rfl ?_
      refine tz_fR (pc := 74) dX2_replacedPart_74 fl_X2_28 r_141_0 ?_
      refine tz_iload_n (pc := 77) dX2_replacedPart_77 rfl rfl ?_
      refine tz_iconst (pc := 78) dX2_replacedPart_78 ?_
      refine tz_cV (pc := 79) (c_arg hl n _ _ _ (by omega) (by decide) (by omega)) vl_X2_48 dX2_replacedPart_79 o_6 rfl rfl (Nat.le_of_ble_eq_true rfl) ⟨(Nat.le_of_ble_eq_true rfl), (Nat.le_of_ble_eq_true rfl)⟩ rfl rfl (Nat.le_of_ble_eq_true rfl) (Nat.le_of_ble_eq_true rfl) (fun r9 J_79 hq9 => ?_)
      obtain ⟨z_79, rfl, hz_79, rfl, rfl⟩ := hq9
      refine tz_istore (pc := 82) (L2 := [_, _, _, _, _, _, _, _, _, _, _]) dX2_replacedPart_82 (by decide) rfl ?_
      refine tz_iload (pc := 84) dX2_replacedPart_84 rfl ?_
      refine tz_iconst (pc := 86) dX2_replacedPart_86 ?_
      refine tz_icmp_ne (pc := 87) (tgt := 95) dX2_replacedPart_87 (by decide) (by omega) (by decide) (fun h_87 => ?_) (fun h_87 => ?_)
      · refine tz_aload_n (pc := 95) dX2_replacedPart_95 rfl rfl ?_
        refine tz_fR (pc := 96) dX2_replacedPart_96 fl_X2_28 r_141_0 ?_
        refine tz_iload_n (pc := 99) dX2_replacedPart_99 rfl rfl ?_
        refine tz_iconst (pc := 100) dX2_replacedPart_100 ?_
        refine tz_cV (pc := 101) (c_arg hl n _ _ _ (by omega) (by decide) (by omega)) vl_X2_48 dX2_replacedPart_101 o_6 rfl rfl (Nat.le_of_ble_eq_true rfl) ⟨(Nat.le_of_ble_eq_true rfl), (Nat.le_of_ble_eq_true rfl)⟩ rfl rfl (Nat.le_of_ble_eq_true rfl) (Nat.le_of_ble_eq_true rfl) (fun r9 J_101 hq9 => ?_)
        obtain ⟨z_101, rfl, hz_101, rfl, rfl⟩ := hq9
        refine tz_istore (pc := 104) (L2 := [_, _, _, _, _, _, _, _, _, _, _]) dX2_replacedPart_104 (by decide) rfl ?_
        refine tz_iload (pc := 106) dX2_replacedPart_106 rfl ?_
        refine tz_iconst (pc := 108) dX2_replacedPart_108 ?_
        refine tz_icmp_ne (pc := 109) (tgt := 117) dX2_replacedPart_109 (by decide) (by omega) (by decide) (fun h_109 => ?_) (fun h_109 => ?_)
        · refine tz_aload_n (pc := 117) dX2_replacedPart_117 rfl rfl ?_
          refine tz_fR (pc := 118) dX2_replacedPart_118 fl_X2_28 r_141_0 ?_
          refine tz_iload_n (pc := 121) dX2_replacedPart_121 rfl rfl ?_
          refine tz_iconst (pc := 122) dX2_replacedPart_122 ?_
          refine tz_cV (pc := 123) (c_arg hl n _ _ _ (by omega) (by decide) (by omega)) vl_X2_48 dX2_replacedPart_123 o_6 rfl rfl (Nat.le_of_ble_eq_true rfl) ⟨(Nat.le_of_ble_eq_true rfl), (Nat.le_of_ble_eq_true rfl)⟩ rfl rfl (Nat.le_of_ble_eq_true rfl) (Nat.le_of_ble_eq_true rfl) (fun r9 J_123 hq9 => ?_)
          obtain ⟨z_123, rfl, hz_123, rfl, rfl⟩ := hq9
          refine tz_istore (pc := 126) (L2 := [_, _, _, _, _, _, _, _, _, _, _]) dX2_replacedPart_126 (by decide) rfl ?_
          refine tz_aload_n (pc := 128) dX2_replacedPart_128 rfl rfl ?_
          refine tz_fR (pc := 129) dX2_replacedPart_129 fl_X2_28 r_141_0 ?_
          refine tz_aload_n (pc := 132) dX2_replacedPart_132 rfl rfl ?_
          refine tz_fR (pc := 133) dX2_replacedPart_133 fl_X2_28 r_141_0 ?_
          refine tz_fR (pc := 136) dX2_replacedPart_136 fl_X2_42 r_6_1 ?_
          refine tz_iload_n (pc := 139) dX2_replacedPart_139 rfl rfl ?_
          refine tz_aL (pc := 140) (z := t) (v := (J_58 7 t)) dX2_replacedPart_140 a_7 rfl (by omega) rfl (fun r_140 => ?_)
          refine tz_iload (pc := 141) dX2_replacedPart_141 rfl ?_
          refine tz_iload (pc := 143) dX2_replacedPart_143 rfl ?_
          refine tz_iload (pc := 145) dX2_replacedPart_145 rfl ?_
          refine tz_cV (pc := 147) (c_made hl n _ _ _ _ _ (by omega) (by omega) (by omega) (by omega) m1 g1.2.1 g1.2.2.1 (by omega) (GR.lt g1 ht (fun h => by have := GR.arg g1 C ht (i := 0) (by omega); omega) (fun h => by have := GR.arg g1 C ht (i := 1) (by omega); omega) (fun h => by have := GR.arg g1 C ht (i := 2) (by omega); omega))) vl_X2_52 dX2_replacedPart_147 o_6 rfl rfl (Nat.le_of_ble_eq_true rfl) ⟨(Nat.le_of_ble_eq_true rfl), (Nat.le_of_ble_eq_true rfl)⟩ rfl rfl (Nat.le_of_ble_eq_true rfl) (Nat.le_of_ble_eq_true rfl) (fun r9 J_147 hq9 => ?_)
          obtain ⟨z_147, rfl, hz_147, p_9⟩ := hq9
          obtain ⟨m9, g9, h9⟩ := GR.made p_9 (by omega)
          have q9 := GR.tr g1 g9
          exact tz_iret (pc := 150) (z := z_147) dX2_replacedPart_150 rfl (Nat.le_of_ble_eq_true rfl) (Nat.le_of_ble_eq_true rfl) ⟨Nat.le_refl _, Nat.le_add_right _ _⟩ ⟨_, rfl, (by omega), ⟨m9, q9, h9, fun S hG E => by rw [puO_s, if_neg (by omega)]; exact pu_end hG E C hm ht hz1 hz2 hz3 g1 h1 x1 p_9 (by first | exact Or.inl ⟨by omega, rfl⟩ | exact Or.inr ⟨by omega, rfl⟩) (by first | exact Or.inl ⟨by omega, rfl⟩ | exact Or.inr ⟨by omega, rfl⟩) (by first | exact Or.inl ⟨by omega, rfl⟩ | exact Or.inr ⟨by omega, rfl⟩)⟩⟩
        · refine tz_iload (pc := 112) dX2_replacedPart_112 rfl ?_
          refine tz_goto (pc := 114) (tgt := 126) dX2_replacedPart_114 (by decide) ?_
          refine tz_istore (pc := 126) (L2 := [_, _, _, _, _, _, _, _, _, _, _]) dX2_replacedPart_126 (by decide) rfl ?_
          refine tz_aload_n (pc := 128) dX2_replacedPart_128 rfl rfl ?_
          refine tz_fR (pc := 129) dX2_replacedPart_129 fl_X2_28 r_141_0 ?_
          refine tz_aload_n (pc := 132) dX2_replacedPart_132 rfl rfl ?_
          refine tz_fR (pc := 133) dX2_replacedPart_133 fl_X2_28 r_141_0 ?_
          refine tz_fR (pc := 136) dX2_replacedPart_136 fl_X2_42 r_6_1 ?_
          refine tz_iload_n (pc := 139) dX2_replacedPart_139 rfl rfl ?_
          refine tz_aL (pc := 140) (z := t) (v := (J_58 7 t)) dX2_replacedPart_140 a_7 rfl (by omega) rfl (fun r_140 => ?_)
          refine tz_iload (pc := 141) dX2_replacedPart_141 rfl ?_
          refine tz_iload (pc := 143) dX2_replacedPart_143 rfl ?_
          refine tz_iload (pc := 145) dX2_replacedPart_145 rfl ?_
          refine tz_cV (pc := 147) (c_made hl n _ _ _ _ _ (by omega) (by omega) (by omega) (by omega) m1 g1.2.1 g1.2.2.1 (by omega) (GR.lt g1 ht (fun h => by have := GR.arg g1 C ht (i := 0) (by omega); omega) (fun h => by have := GR.arg g1 C ht (i := 1) (by omega); omega) (fun h => by have := GR.arg g1 C ht (i := 2) (by omega); omega))) vl_X2_52 dX2_replacedPart_147 o_6 rfl rfl (Nat.le_of_ble_eq_true rfl) ⟨(Nat.le_of_ble_eq_true rfl), (Nat.le_of_ble_eq_true rfl)⟩ rfl rfl (Nat.le_of_ble_eq_true rfl) (Nat.le_of_ble_eq_true rfl) (fun r9 J_147 hq9 => ?_)
          obtain ⟨z_147, rfl, hz_147, p_9⟩ := hq9
          obtain ⟨m9, g9, h9⟩ := GR.made p_9 (by omega)
          have q9 := GR.tr g1 g9
          exact tz_iret (pc := 150) (z := z_147) dX2_replacedPart_150 rfl (Nat.le_of_ble_eq_true rfl) (Nat.le_of_ble_eq_true rfl) ⟨Nat.le_refl _, Nat.le_add_right _ _⟩ ⟨_, rfl, (by omega), ⟨m9, q9, h9, fun S hG E => by rw [puO_s, if_neg (by omega)]; exact pu_end hG E C hm ht hz1 hz2 hz3 g1 h1 x1 p_9 (by first | exact Or.inl ⟨by omega, rfl⟩ | exact Or.inr ⟨by omega, rfl⟩) (by first | exact Or.inl ⟨by omega, rfl⟩ | exact Or.inr ⟨by omega, rfl⟩) (by first | exact Or.inl ⟨by omega, rfl⟩ | exact Or.inr ⟨by omega, rfl⟩)⟩⟩
      · refine tz_iload (pc := 90) dX2_replacedPart_90 rfl ?_
        refine tz_goto (pc := 92) (tgt := 104) dX2_replacedPart_92 (by decide) ?_
        refine tz_istore (pc := 104) (L2 := [_, _, _, _, _, _, _, _, _, _, _]) dX2_replacedPart_104 (by decide) rfl ?_
        refine tz_iload (pc := 106) dX2_replacedPart_106 rfl ?_
        refine tz_iconst (pc := 108) dX2_replacedPart_108 ?_
        refine tz_icmp_ne (pc := 109) (tgt := 117) dX2_replacedPart_109 (by decide) (by omega) (by decide) (fun h_109 => ?_) (fun h_109 => ?_)
        · refine tz_aload_n (pc := 117) dX2_replacedPart_117 rfl rfl ?_
          refine tz_fR (pc := 118) dX2_replacedPart_118 fl_X2_28 r_141_0 ?_
          refine tz_iload_n (pc := 121) dX2_replacedPart_121 rfl rfl ?_
          refine tz_iconst (pc := 122) dX2_replacedPart_122 ?_
          refine tz_cV (pc := 123) (c_arg hl n _ _ _ (by omega) (by decide) (by omega)) vl_X2_48 dX2_replacedPart_123 o_6 rfl rfl (Nat.le_of_ble_eq_true rfl) ⟨(Nat.le_of_ble_eq_true rfl), (Nat.le_of_ble_eq_true rfl)⟩ rfl rfl (Nat.le_of_ble_eq_true rfl) (Nat.le_of_ble_eq_true rfl) (fun r9 J_123 hq9 => ?_)
          obtain ⟨z_123, rfl, hz_123, rfl, rfl⟩ := hq9
          refine tz_istore (pc := 126) (L2 := [_, _, _, _, _, _, _, _, _, _, _]) dX2_replacedPart_126 (by decide) rfl ?_
          refine tz_aload_n (pc := 128) dX2_replacedPart_128 rfl rfl ?_
          refine tz_fR (pc := 129) dX2_replacedPart_129 fl_X2_28 r_141_0 ?_
          refine tz_aload_n (pc := 132) dX2_replacedPart_132 rfl rfl ?_
          refine tz_fR (pc := 133) dX2_replacedPart_133 fl_X2_28 r_141_0 ?_
          refine tz_fR (pc := 136) dX2_replacedPart_136 fl_X2_42 r_6_1 ?_
          refine tz_iload_n (pc := 139) dX2_replacedPart_139 rfl rfl ?_
          refine tz_aL (pc := 140) (z := t) (v := (J_58 7 t)) dX2_replacedPart_140 a_7 rfl (by omega) rfl (fun r_140 => ?_)
          refine tz_iload (pc := 141) dX2_replacedPart_141 rfl ?_
          refine tz_iload (pc := 143) dX2_replacedPart_143 rfl ?_
          refine tz_iload (pc := 145) dX2_replacedPart_145 rfl ?_
          refine tz_cV (pc := 147) (c_made hl n _ _ _ _ _ (by omega) (by omega) (by omega) (by omega) m1 g1.2.1 g1.2.2.1 (by omega) (GR.lt g1 ht (fun h => by have := GR.arg g1 C ht (i := 0) (by omega); omega) (fun h => by have := GR.arg g1 C ht (i := 1) (by omega); omega) (fun h => by have := GR.arg g1 C ht (i := 2) (by omega); omega))) vl_X2_52 dX2_replacedPart_147 o_6 rfl rfl (Nat.le_of_ble_eq_true rfl) ⟨(Nat.le_of_ble_eq_true rfl), (Nat.le_of_ble_eq_true rfl)⟩ rfl rfl (Nat.le_of_ble_eq_true rfl) (Nat.le_of_ble_eq_true rfl) (fun r9 J_147 hq9 => ?_)
          obtain ⟨z_147, rfl, hz_147, p_9⟩ := hq9
          obtain ⟨m9, g9, h9⟩ := GR.made p_9 (by omega)
          have q9 := GR.tr g1 g9
          exact tz_iret (pc := 150) (z := z_147) dX2_replacedPart_150 rfl (Nat.le_of_ble_eq_true rfl) (Nat.le_of_ble_eq_true rfl) ⟨Nat.le_refl _, Nat.le_add_right _ _⟩ ⟨_, rfl, (by omega), ⟨m9, q9, h9, fun S hG E => by rw [puO_s, if_neg (by omega)]; exact pu_end hG E C hm ht hz1 hz2 hz3 g1 h1 x1 p_9 (by first | exact Or.inl ⟨by omega, rfl⟩ | exact Or.inr ⟨by omega, rfl⟩) (by first | exact Or.inl ⟨by omega, rfl⟩ | exact Or.inr ⟨by omega, rfl⟩) (by first | exact Or.inl ⟨by omega, rfl⟩ | exact Or.inr ⟨by omega, rfl⟩)⟩⟩
        · refine tz_iload (pc := 112) dX2_replacedPart_112 rfl ?_
          refine tz_goto (pc := 114) (tgt := 126) dX2_replacedPart_114 (by decide) ?_
          refine tz_istore (pc := 126) (L2 := [_, _, _, _, _, _, _, _, _, _, _]) dX2_replacedPart_126 (by decide) rfl ?_
          refine tz_aload_n (pc := 128) dX2_replacedPart_128 rfl rfl ?_
          refine tz_fR (pc := 129) dX2_replacedPart_129 fl_X2_28 r_141_0 ?_
          refine tz_aload_n (pc := 132) dX2_replacedPart_132 rfl rfl ?_
          refine tz_fR (pc := 133) dX2_replacedPart_133 fl_X2_28 r_141_0 ?_
          refine tz_fR (pc := 136) dX2_replacedPart_136 fl_X2_42 r_6_1 ?_
          refine tz_iload_n (pc := 139) dX2_replacedPart_139 rfl rfl ?_
          refine tz_aL (pc := 140) (z := t) (v := (J_58 7 t)) dX2_replacedPart_140 a_7 rfl (by omega) rfl (fun r_140 => ?_)
          refine tz_iload (pc := 141) dX2_replacedPart_141 rfl ?_
          refine tz_iload (pc := 143) dX2_replacedPart_143 rfl ?_
          refine tz_iload (pc := 145) dX2_replacedPart_145 rfl ?_
          refine tz_cV (pc := 147) (c_made hl n _ _ _ _ _ (by omega) (by omega) (by omega) (by omega) m1 g1.2.1 g1.2.2.1 (by omega) (GR.lt g1 ht (fun h => by have := GR.arg g1 C ht (i := 0) (by omega); omega) (fun h => by have := GR.arg g1 C ht (i := 1) (by omega); omega) (fun h => by have := GR.arg g1 C ht (i := 2) (by omega); omega))) vl_X2_52 dX2_replacedPart_147 o_6 rfl rfl (Nat.le_of_ble_eq_true rfl) ⟨(Nat.le_of_ble_eq_true rfl), (Nat.le_of_ble_eq_true rfl)⟩ rfl rfl (Nat.le_of_ble_eq_true rfl) (Nat.le_of_ble_eq_true rfl) (fun r9 J_147 hq9 => ?_)
          obtain ⟨z_147, rfl, hz_147, p_9⟩ := hq9
          obtain ⟨m9, g9, h9⟩ := GR.made p_9 (by omega)
          have q9 := GR.tr g1 g9
          exact tz_iret (pc := 150) (z := z_147) dX2_replacedPart_150 rfl (Nat.le_of_ble_eq_true rfl) (Nat.le_of_ble_eq_true rfl) ⟨Nat.le_refl _, Nat.le_add_right _ _⟩ ⟨_, rfl, (by omega), ⟨m9, q9, h9, fun S hG E => by rw [puO_s, if_neg (by omega)]; exact pu_end hG E C hm ht hz1 hz2 hz3 g1 h1 x1 p_9 (by first | exact Or.inl ⟨by omega, rfl⟩ | exact Or.inr ⟨by omega, rfl⟩) (by first | exact Or.inl ⟨by omega, rfl⟩ | exact Or.inr ⟨by omega, rfl⟩) (by first | exact Or.inl ⟨by omega, rfl⟩ | exact Or.inr ⟨by omega, rfl⟩)⟩⟩
    · refine tz_iload (pc := 68) dX2_replacedPart_68 rfl ?_
      refine tz_goto (pc := 70) (tgt := 82) dX2_replacedPart_70 (by decide) ?_
      refine tz_istore (pc := 82) (L2 := [_, _, _, _, _, _, _, _, _, _, _]) dX2_replacedPart_82 (by decide) rfl ?_
      refine tz_iload (pc := 84) dX2_replacedPart_84 rfl ?_
      refine tz_iconst (pc := 86) dX2_replacedPart_86 ?_
      refine tz_icmp_ne (pc := 87) (tgt := 95) dX2_replacedPart_87 (by decide) (by omega) (by decide) (fun h_87 => ?_) (fun h_87 => ?_)
      · refine tz_aload_n (pc := 95) dX2_replacedPart_95 rfl rfl ?_
        refine tz_fR (pc := 96) dX2_replacedPart_96 fl_X2_28 r_141_0 ?_
        refine tz_iload_n (pc := 99) dX2_replacedPart_99 rfl rfl ?_
        refine tz_iconst (pc := 100) dX2_replacedPart_100 ?_
        refine tz_cV (pc := 101) (c_arg hl n _ _ _ (by omega) (by decide) (by omega)) vl_X2_48 dX2_replacedPart_101 o_6 rfl rfl (Nat.le_of_ble_eq_true rfl) ⟨(Nat.le_of_ble_eq_true rfl), (Nat.le_of_ble_eq_true rfl)⟩ rfl rfl (Nat.le_of_ble_eq_true rfl) (Nat.le_of_ble_eq_true rfl) (fun r9 J_101 hq9 => ?_)
        obtain ⟨z_101, rfl, hz_101, rfl, rfl⟩ := hq9
        refine tz_istore (pc := 104) (L2 := [_, _, _, _, _, _, _, _, _, _, _]) dX2_replacedPart_104 (by decide) rfl ?_
        refine tz_iload (pc := 106) dX2_replacedPart_106 rfl ?_
        refine tz_iconst (pc := 108) dX2_replacedPart_108 ?_
        refine tz_icmp_ne (pc := 109) (tgt := 117) dX2_replacedPart_109 (by decide) (by omega) (by decide) (fun h_109 => ?_) (fun h_109 => ?_)
        · refine tz_aload_n (pc := 117) dX2_replacedPart_117 rfl rfl ?_
          refine tz_fR (pc := 118) dX2_replacedPart_118 fl_X2_28 r_141_0 ?_
          refine tz_iload_n (pc := 121) dX2_replacedPart_121 rfl rfl ?_
          refine tz_iconst (pc := 122) dX2_replacedPart_122 ?_
          refine tz_cV (pc := 123) (c_arg hl n _ _ _ (by omega) (by decide) (by omega)) vl_X2_48 dX2_replacedPart_123 o_6 rfl rfl (Nat.le_of_ble_eq_true rfl) ⟨(Nat.le_of_ble_eq_true rfl), (Nat.le_of_ble_eq_true rfl)⟩ rfl rfl (Nat.le_of_ble_eq_true rfl) (Nat.le_of_ble_eq_true rfl) (fun r9 J_123 hq9 => ?_)
          obtain ⟨z_123, rfl, hz_123, rfl, rfl⟩ := hq9
          refine tz_istore (pc := 126) (L2 := [_, _, _, _, _, _, _, _, _, _, _]) dX2_replacedPart_126 (by decide) rfl ?_
          refine tz_aload_n (pc := 128) dX2_replacedPart_128 rfl rfl ?_
          refine tz_fR (pc := 129) dX2_replacedPart_129 fl_X2_28 r_141_0 ?_
          refine tz_aload_n (pc := 132) dX2_replacedPart_132 rfl rfl ?_
          refine tz_fR (pc := 133) dX2_replacedPart_133 fl_X2_28 r_141_0 ?_
          refine tz_fR (pc := 136) dX2_replacedPart_136 fl_X2_42 r_6_1 ?_
          refine tz_iload_n (pc := 139) dX2_replacedPart_139 rfl rfl ?_
          refine tz_aL (pc := 140) (z := t) (v := (J_58 7 t)) dX2_replacedPart_140 a_7 rfl (by omega) rfl (fun r_140 => ?_)
          refine tz_iload (pc := 141) dX2_replacedPart_141 rfl ?_
          refine tz_iload (pc := 143) dX2_replacedPart_143 rfl ?_
          refine tz_iload (pc := 145) dX2_replacedPart_145 rfl ?_
          refine tz_cV (pc := 147) (c_made hl n _ _ _ _ _ (by omega) (by omega) (by omega) (by omega) m1 g1.2.1 g1.2.2.1 (by omega) (GR.lt g1 ht (fun h => by have := GR.arg g1 C ht (i := 0) (by omega); omega) (fun h => by have := GR.arg g1 C ht (i := 1) (by omega); omega) (fun h => by have := GR.arg g1 C ht (i := 2) (by omega); omega))) vl_X2_52 dX2_replacedPart_147 o_6 rfl rfl (Nat.le_of_ble_eq_true rfl) ⟨(Nat.le_of_ble_eq_true rfl), (Nat.le_of_ble_eq_true rfl)⟩ rfl rfl (Nat.le_of_ble_eq_true rfl) (Nat.le_of_ble_eq_true rfl) (fun r9 J_147 hq9 => ?_)
          obtain ⟨z_147, rfl, hz_147, p_9⟩ := hq9
          obtain ⟨m9, g9, h9⟩ := GR.made p_9 (by omega)
          have q9 := GR.tr g1 g9
          exact tz_iret (pc := 150) (z := z_147) dX2_replacedPart_150 rfl (Nat.le_of_ble_eq_true rfl) (Nat.le_of_ble_eq_true rfl) ⟨Nat.le_refl _, Nat.le_add_right _ _⟩ ⟨_, rfl, (by omega), ⟨m9, q9, h9, fun S hG E => by rw [puO_s, if_neg (by omega)]; exact pu_end hG E C hm ht hz1 hz2 hz3 g1 h1 x1 p_9 (by first | exact Or.inl ⟨by omega, rfl⟩ | exact Or.inr ⟨by omega, rfl⟩) (by first | exact Or.inl ⟨by omega, rfl⟩ | exact Or.inr ⟨by omega, rfl⟩) (by first | exact Or.inl ⟨by omega, rfl⟩ | exact Or.inr ⟨by omega, rfl⟩)⟩⟩
        · refine tz_iload (pc := 112) dX2_replacedPart_112 rfl ?_
          refine tz_goto (pc := 114) (tgt := 126) dX2_replacedPart_114 (by decide) ?_
          refine tz_istore (pc := 126) (L2 := [_, _, _, _, _, _, _, _, _, _, _]) dX2_replacedPart_126 (by decide) rfl ?_
          refine tz_aload_n (pc := 128) dX2_replacedPart_128 rfl rfl ?_
          refine tz_fR (pc := 129) dX2_replacedPart_129 fl_X2_28 r_141_0 ?_
          refine tz_aload_n (pc := 132) dX2_replacedPart_132 rfl rfl ?_
          refine tz_fR (pc := 133) dX2_replacedPart_133 fl_X2_28 r_141_0 ?_
          refine tz_fR (pc := 136) dX2_replacedPart_136 fl_X2_42 r_6_1 ?_
          refine tz_iload_n (pc := 139) dX2_replacedPart_139 rfl rfl ?_
          refine tz_aL (pc := 140) (z := t) (v := (J_58 7 t)) dX2_replacedPart_140 a_7 rfl (by omega) rfl (fun r_140 => ?_)
          refine tz_iload (pc := 141) dX2_replacedPart_141 rfl ?_
          refine tz_iload (pc := 143) dX2_replacedPart_143 rfl ?_
          refine tz_iload (pc := 145) dX2_replacedPart_145 rfl ?_
          refine tz_cV (pc := 147) (c_made hl n _ _ _ _ _ (by omega) (by omega) (by omega) (by omega) m1 g1.2.1 g1.2.2.1 (by omega) (GR.lt g1 ht (fun h => by have := GR.arg g1 C ht (i := 0) (by omega); omega) (fun h => by have := GR.arg g1 C ht (i := 1) (by omega); omega) (fun h => by have := GR.arg g1 C ht (i := 2) (by omega); omega))) vl_X2_52 dX2_replacedPart_147 o_6 rfl rfl (Nat.le_of_ble_eq_true rfl) ⟨(Nat.le_of_ble_eq_true rfl), (Nat.le_of_ble_eq_true rfl)⟩ rfl rfl (Nat.le_of_ble_eq_true rfl) (Nat.le_of_ble_eq_true rfl) (fun r9 J_147 hq9 => ?_)
          obtain ⟨z_147, rfl, hz_147, p_9⟩ := hq9
          obtain ⟨m9, g9, h9⟩ := GR.made p_9 (by omega)
          have q9 := GR.tr g1 g9
          exact tz_iret (pc := 150) (z := z_147) dX2_replacedPart_150 rfl (Nat.le_of_ble_eq_true rfl) (Nat.le_of_ble_eq_true rfl) ⟨Nat.le_refl _, Nat.le_add_right _ _⟩ ⟨_, rfl, (by omega), ⟨m9, q9, h9, fun S hG E => by rw [puO_s, if_neg (by omega)]; exact pu_end hG E C hm ht hz1 hz2 hz3 g1 h1 x1 p_9 (by first | exact Or.inl ⟨by omega, rfl⟩ | exact Or.inr ⟨by omega, rfl⟩) (by first | exact Or.inl ⟨by omega, rfl⟩ | exact Or.inr ⟨by omega, rfl⟩) (by first | exact Or.inl ⟨by omega, rfl⟩ | exact Or.inr ⟨by omega, rfl⟩)⟩⟩
      · refine tz_iload (pc := 90) dX2_replacedPart_90 rfl ?_
        refine tz_goto (pc := 92) (tgt := 104) dX2_replacedPart_92 (by decide) ?_
        refine tz_istore (pc := 104) (L2 := [_, _, _, _, _, _, _, _, _, _, _]) dX2_replacedPart_104 (by decide) rfl ?_
        refine tz_iload (pc := 106) dX2_replacedPart_106 rfl ?_
        refine tz_iconst (pc := 108) dX2_replacedPart_108 ?_
        refine tz_icmp_ne (pc := 109) (tgt := 117) dX2_replacedPart_109 (by decide) (by omega) (by decide) (fun h_109 => ?_) (fun h_109 => ?_)
        · refine tz_aload_n (pc := 117) dX2_replacedPart_117 rfl rfl ?_
          refine tz_fR (pc := 118) dX2_replacedPart_118 fl_X2_28 r_141_0 ?_
          refine tz_iload_n (pc := 121) dX2_replacedPart_121 rfl rfl ?_
          refine tz_iconst (pc := 122) dX2_replacedPart_122 ?_
          refine tz_cV (pc := 123) (c_arg hl n _ _ _ (by omega) (by decide) (by omega)) vl_X2_48 dX2_replacedPart_123 o_6 rfl rfl (Nat.le_of_ble_eq_true rfl) ⟨(Nat.le_of_ble_eq_true rfl), (Nat.le_of_ble_eq_true rfl)⟩ rfl rfl (Nat.le_of_ble_eq_true rfl) (Nat.le_of_ble_eq_true rfl) (fun r9 J_123 hq9 => ?_)
          obtain ⟨z_123, rfl, hz_123, rfl, rfl⟩ := hq9
          refine tz_istore (pc := 126) (L2 := [_, _, _, _, _, _, _, _, _, _, _]) dX2_replacedPart_126 (by decide) rfl ?_
          refine tz_aload_n (pc := 128) dX2_replacedPart_128 rfl rfl ?_
          refine tz_fR (pc := 129) dX2_replacedPart_129 fl_X2_28 r_141_0 ?_
          refine tz_aload_n (pc := 132) dX2_replacedPart_132 rfl rfl ?_
          refine tz_fR (pc := 133) dX2_replacedPart_133 fl_X2_28 r_141_0 ?_
          refine tz_fR (pc := 136) dX2_replacedPart_136 fl_X2_42 r_6_1 ?_
          refine tz_iload_n (pc := 139) dX2_replacedPart_139 rfl rfl ?_
          refine tz_aL (pc := 140) (z := t) (v := (J_58 7 t)) dX2_replacedPart_140 a_7 rfl (by omega) rfl (fun r_140 => ?_)
          refine tz_iload (pc := 141) dX2_replacedPart_141 rfl ?_
          refine tz_iload (pc := 143) dX2_replacedPart_143 rfl ?_
          refine tz_iload (pc := 145) dX2_replacedPart_145 rfl ?_
          refine tz_cV (pc := 147) (c_made hl n _ _ _ _ _ (by omega) (by omega) (by omega) (by omega) m1 g1.2.1 g1.2.2.1 (by omega) (GR.lt g1 ht (fun h => by have := GR.arg g1 C ht (i := 0) (by omega); omega) (fun h => by have := GR.arg g1 C ht (i := 1) (by omega); omega) (fun h => by have := GR.arg g1 C ht (i := 2) (by omega); omega))) vl_X2_52 dX2_replacedPart_147 o_6 rfl rfl (Nat.le_of_ble_eq_true rfl) ⟨(Nat.le_of_ble_eq_true rfl), (Nat.le_of_ble_eq_true rfl)⟩ rfl rfl (Nat.le_of_ble_eq_true rfl) (Nat.le_of_ble_eq_true rfl) (fun r9 J_147 hq9 => ?_)
          obtain ⟨z_147, rfl, hz_147, p_9⟩ := hq9
          obtain ⟨m9, g9, h9⟩ := GR.made p_9 (by omega)
          have q9 := GR.tr g1 g9
          exact tz_iret (pc := 150) (z := z_147) dX2_replacedPart_150 rfl (Nat.le_of_ble_eq_true rfl) (Nat.le_of_ble_eq_true rfl) ⟨Nat.le_refl _, Nat.le_add_right _ _⟩ ⟨_, rfl, (by omega), ⟨m9, q9, h9, fun S hG E => by rw [puO_s, if_neg (by omega)]; exact pu_end hG E C hm ht hz1 hz2 hz3 g1 h1 x1 p_9 (by first | exact Or.inl ⟨by omega, rfl⟩ | exact Or.inr ⟨by omega, rfl⟩) (by first | exact Or.inl ⟨by omega, rfl⟩ | exact Or.inr ⟨by omega, rfl⟩) (by first | exact Or.inl ⟨by omega, rfl⟩ | exact Or.inr ⟨by omega, rfl⟩)⟩⟩
        · refine tz_iload (pc := 112) dX2_replacedPart_112 rfl ?_
          refine tz_goto (pc := 114) (tgt := 126) dX2_replacedPart_114 (by decide) ?_
          refine tz_istore (pc := 126) (L2 := [_, _, _, _, _, _, _, _, _, _, _]) dX2_replacedPart_126 (by decide) rfl ?_
          refine tz_aload_n (pc := 128) dX2_replacedPart_128 rfl rfl ?_
          refine tz_fR (pc := 129) dX2_replacedPart_129 fl_X2_28 r_141_0 ?_
          refine tz_aload_n (pc := 132) dX2_replacedPart_132 rfl rfl ?_
          refine tz_fR (pc := 133) dX2_replacedPart_133 fl_X2_28 r_141_0 ?_
          refine tz_fR (pc := 136) dX2_replacedPart_136 fl_X2_42 r_6_1 ?_
          refine tz_iload_n (pc := 139) dX2_replacedPart_139 rfl rfl ?_
          refine tz_aL (pc := 140) (z := t) (v := (J_58 7 t)) dX2_replacedPart_140 a_7 rfl (by omega) rfl (fun r_140 => ?_)
          refine tz_iload (pc := 141) dX2_replacedPart_141 rfl ?_
          refine tz_iload (pc := 143) dX2_replacedPart_143 rfl ?_
          refine tz_iload (pc := 145) dX2_replacedPart_145 rfl ?_
          refine tz_cV (pc := 147) (c_made hl n _ _ _ _ _ (by omega) (by omega) (by omega) (by omega) m1 g1.2.1 g1.2.2.1 (by omega) (GR.lt g1 ht (fun h => by have := GR.arg g1 C ht (i := 0) (by omega); omega) (fun h => by have := GR.arg g1 C ht (i := 1) (by omega); omega) (fun h => by have := GR.arg g1 C ht (i := 2) (by omega); omega))) vl_X2_52 dX2_replacedPart_147 o_6 rfl rfl (Nat.le_of_ble_eq_true rfl) ⟨(Nat.le_of_ble_eq_true rfl), (Nat.le_of_ble_eq_true rfl)⟩ rfl rfl (Nat.le_of_ble_eq_true rfl) (Nat.le_of_ble_eq_true rfl) (fun r9 J_147 hq9 => ?_)
          obtain ⟨z_147, rfl, hz_147, p_9⟩ := hq9
          obtain ⟨m9, g9, h9⟩ := GR.made p_9 (by omega)
          have q9 := GR.tr g1 g9
          exact tz_iret (pc := 150) (z := z_147) dX2_replacedPart_150 rfl (Nat.le_of_ble_eq_true rfl) (Nat.le_of_ble_eq_true rfl) ⟨Nat.le_refl _, Nat.le_add_right _ _⟩ ⟨_, rfl, (by omega), ⟨m9, q9, h9, fun S hG E => by rw [puO_s, if_neg (by omega)]; exact pu_end hG E C hm ht hz1 hz2 hz3 g1 h1 x1 p_9 (by first | exact Or.inl ⟨by omega, rfl⟩ | exact Or.inr ⟨by omega, rfl⟩) (by first | exact Or.inl ⟨by omega, rfl⟩ | exact Or.inr ⟨by omega, rfl⟩) (by first | exact Or.inl ⟨by omega, rfl⟩ | exact Or.inr ⟨by omega, rfl⟩)⟩⟩
  · refine tz_iload_n (pc := 4) dX2_replacedPart_4 rfl rfl ?_
    exact tz_iret (pc := 5) (z := x) dX2_replacedPart_5 rfl (Nat.le_of_ble_eq_true rfl) (Nat.le_of_ble_eq_true rfl) ⟨Nat.le_refl _, Nat.le_add_right _ _⟩ ⟨_, rfl, (by omega), ⟨m, GR.rf C hm, by omega, fun S hG E => Or.inr ⟨by omega, by rw [puO_s, if_pos (by omega)]; exact hG, by rw [puO_s, if_pos (by omega)]; exact E, by rw [puO_s, if_pos (by omega)]⟩⟩⟩

set_option maxHeartbeats 4000000 in
set_option maxRecDepth 100000 in
theorem x_replaced {l : Launch} {G : tb_G} (hl : l.stackTraces = false) (n : Nat) (J : zJ) (t : Int) (p : Int) (x : Int) (hr_t : -2147483648 ≤ t ∧ t < 2147483648) (hr_p : -2147483648 ≤ p ∧ p < 2147483648) (hr_x : -2147483648 ≤ x ∧ x < 2147483648) (m : Int) (C : CT J m) (hm : J 6 12 = m) (ht : 0 ≤ t ∧ t < m) (hp : p < J 10 t) (ho : 0 ≤ x ∧ x < m) : tz_Ok l G M_X2_replaced 9 0 0 [.ref 141, zi t, zi p, zi x] n J (zqi (fun z J' => ∃ m', GR J' J m m' ∧ (z = -3 ∨ (0 ≤ z ∧ z < m')) ∧ ∀ S, S 164 21 = 0 → A0 J S → EXO (puO x 6 S t p) z J')) zN := by
  refine tz_Ok.of hl (by decide +kernel) rfl (tb_c1 rfl) (Nat.le_of_ble_eq_true rfl) ?_
  show tz_At l G M_X2_replaced (tb_rm 9 0 0) none (tb_ZM G 0 0 (zQ n 0 (zqi (fun z J' => ∃ m', GR J' J m m' ∧ (z = -3 ∨ (0 ≤ z ∧ z < m')) ∧ ∀ S, S 164 21 = 0 → A0 J S → EXO (puO x 6 S t p) z J'))) (zX n 0 zN)) 0 0 n J 0 [some (.ref 141), some (zi t), some (zi p), some (zi x)] []
  refine tz_aload_n (pc := 0) dX2_replaced_0 rfl rfl ?_
  refine tz_iload_n (pc := 1) dX2_replaced_1 rfl rfl ?_
  refine tz_iload_n (pc := 2) dX2_replaced_2 rfl rfl ?_
  refine tz_iload_n (pc := 3) dX2_replaced_3 rfl rfl ?_
  refine tz_iconst (pc := 4) dX2_replaced_4 ?_
  refine tz_cV (pc := 5) (x_put1 hl n _ _ _ _ (by omega) (by omega) (by omega) m C hm ht hp ho (by have := C.nums ht.1 ht.2; omega)) vl_X2_75 dX2_replaced_5 o_141 rfl rfl (Nat.le_of_ble_eq_true rfl) ⟨(Nat.le_of_ble_eq_true rfl), (Nat.le_of_ble_eq_true rfl)⟩ rfl rfl (Nat.le_of_ble_eq_true rfl) (Nat.le_of_ble_eq_true rfl) (fun r9 J_5 hq9 => ?_)
  obtain ⟨z_5, rfl, hz_5, m1, g1, h1, x1⟩ := hq9
  exact tz_iret (pc := 8) (z := z_5) dX2_replaced_8 rfl (Nat.le_of_ble_eq_true rfl) (Nat.le_of_ble_eq_true rfl) ⟨Nat.le_refl _, Nat.le_add_right _ _⟩ ⟨_, rfl, (by omega), ⟨m1, g1, h1, x1⟩⟩

theorem puO_5 {x : Int} : ∀ (k : Nat) (S : zJ) (t p q : Int), ¬ q = 0 → (puO x k S t p).1 165 q = S 165 q
  | 0, _, _, _, _, _ => rfl
  | k + 1, S, t, p, q, h => by
    rw [puO_s]
    split
    · rfl
    · show (tmO _ _ _ _ _).1 165 q = _
      rw [tmO_5 h]
      exact puO_5 k S _ _ q h
set_option maxHeartbeats 4000000 in
set_option maxRecDepth 100000 in
theorem v_put {l : Launch} {G : tb_G} (hl : l.stackTraces = false) (n : Nat) (J : zJ) (t : Int) (p : Int) (x : Int) (hr_t : -2147483648 ≤ t ∧ t < 2147483648) (hr_p : -2147483648 ≤ p ∧ p < 2147483648) (hr_x : -2147483648 ≤ x ∧ x < 2147483648) (m : Int) (S : zJ) (pn : Int) (RR : Int → Int → Int) (hI : CI J m) (h9 : J 145 10 < 1000000000) (cc : CAL J S pn RR) (h21 : S 164 21 = 0) : tz_Ok l G M_X11_put 10 0 0 [.ref 0, zi t, zi p, zi x] n J (zqi (fun z J' => CQ J' J ∧ ((((0 ≤ t ∧ t < J 6 12) ∧ (0 ≤ x ∧ x < J 6 12) ∧ 0 ≤ p ∧ p < msz S 0 0 t) ∧ ED S pn RR (puO x 6 S t p) J' z) ∨ (¬ ((0 ≤ t ∧ t < J 6 12) ∧ (0 ≤ x ∧ x < J 6 12) ∧ 0 ≤ p ∧ p < msz S 0 0 t) ∧ z = -1 ∧ CAL J' S pn RR)))) zN := by
  refine tz_Ok.of hl (by decide +kernel) rfl (tb_c1 rfl) (Nat.le_of_ble_eq_true rfl) ?_
  show tz_At l G M_X11_put (tb_rm 10 0 0) none (tb_ZM G 0 0 (zQ n 0 (zqi (fun z J' => CQ J' J ∧ ((((0 ≤ t ∧ t < J 6 12) ∧ (0 ≤ x ∧ x < J 6 12) ∧ 0 ≤ p ∧ p < msz S 0 0 t) ∧ ED S pn RR (puO x 6 S t p) J' z) ∨ (¬ ((0 ≤ t ∧ t < J 6 12) ∧ (0 ≤ x ∧ x < J 6 12) ∧ 0 ≤ p ∧ p < msz S 0 0 t) ∧ z = -1 ∧ CAL J' S pn RR))))) (zX n 0 zN)) 0 0 n J 0 [some (.ref 0), some (zi t), some (zi p), some (zi x), none] []
  have hC := hI.1.1.1
  have hm := hI.1.1.2.1
  have hL := hI.1.1.2.2
  have hb := hC.told
  have wb := cc.2.1.b hL
  have eS : (0 ≤ t ∧ t < J 6 12) → msz S 0 0 t = J 10 t := fun h => cc.1.sz hC hm ⟨h.1, by omega⟩
  refine tz_aload_n (pc := 0) dX11_put_0 rfl rfl ?_
  refine tz_fR (pc := 1) dX11_put_1 fl_X11_29 r_0_1 ?_
  refine tz_fR (pc := 4) dX11_put_4 fl_X11_49 r_5_0 ?_
  refine tz_astore (pc := 7) (L2 := [_, _, _, _, _]) dX11_put_7 (by decide) rfl ?_
  refine tz_aload (pc := 9) dX11_put_9 rfl ?_
  refine tz_iload_n (pc := 11) dX11_put_11 rfl rfl ?_
  refine tz_cV (pc := 12) (c_has hl n _ _ (by omega)) vl_X11_304 dX11_put_12 o_6 rfl rfl (Nat.le_of_ble_eq_true rfl) ⟨(Nat.le_of_ble_eq_true rfl), (Nat.le_of_ble_eq_true rfl)⟩ rfl rfl (Nat.le_of_ble_eq_true rfl) (Nat.le_of_ble_eq_true rfl) (fun r9 J_12 hq9 => ?_)
  obtain ⟨z_12, rfl, hz_12, rfl, rfl⟩ := hq9
  by_cases hw_15 : 0 ≤ t ∧ t < J 6 12
  · rw [show (if 0 ≤ t ∧ t < J 6 12 then 1 else 0 : Int) = 1 from if_pos hw_15]
    refine tz_if_eqF (pc := 15) (tgt := 37) (by decide) dX11_put_15 (by decide) (by decide) ?_
    refine tz_aload (pc := 18) dX11_put_18 rfl ?_
    refine tz_iload_n (pc := 20) dX11_put_20 rfl rfl ?_
    refine tz_cV (pc := 21) (c_has hl n _ _ (by omega)) vl_X11_304 dX11_put_21 o_6 rfl rfl (Nat.le_of_ble_eq_true rfl) ⟨(Nat.le_of_ble_eq_true rfl), (Nat.le_of_ble_eq_true rfl)⟩ rfl rfl (Nat.le_of_ble_eq_true rfl) (Nat.le_of_ble_eq_true rfl) (fun r9 J_21 hq9 => ?_)
    obtain ⟨z_21, rfl, hz_21, rfl, rfl⟩ := hq9
    by_cases hw_24 : 0 ≤ x ∧ x < J 6 12
    · rw [show (if 0 ≤ x ∧ x < J 6 12 then 1 else 0 : Int) = 1 from if_pos hw_24]
      refine tz_if_eqF (pc := 24) (tgt := 37) (by decide) dX11_put_24 (by decide) (by decide) ?_
      refine tz_aload (pc := 27) dX11_put_27 rfl ?_
      refine tz_iload_n (pc := 29) dX11_put_29 rfl rfl ?_
      refine tz_iload_n (pc := 30) dX11_put_30 rfl rfl ?_
      refine tz_cV (pc := 31) (c_hasPlace hl n _ _ _ (by omega) (by omega) (by omega)) vl_X11_256 dX11_put_31 o_6 rfl rfl (Nat.le_of_ble_eq_true rfl) ⟨(Nat.le_of_ble_eq_true rfl), (Nat.le_of_ble_eq_true rfl)⟩ rfl rfl (Nat.le_of_ble_eq_true rfl) (Nat.le_of_ble_eq_true rfl) (fun r9 J_31 hq9 => ?_)
      obtain ⟨z_31, rfl, hz_31, rfl, rfl⟩ := hq9
      by_cases hw_34 : 0 ≤ p ∧ p < J 10 t
      · rw [show (if 0 ≤ p ∧ p < J 10 t then 1 else 0 : Int) = 1 from if_pos hw_34]
        refine tz_if_neT (pc := 34) (tgt := 44) (by decide) dX11_put_34 (by decide) (by decide) ?_
        refine tz_aload_n (pc := 44) dX11_put_44 rfl rfl ?_
        refine tz_fR (pc := 45) dX11_put_45 fl_X11_29 r_0_1 ?_
        refine tz_cV (pc := 48) (c_begin hl n _) vl_X11_287 dX11_put_48 o_5 rfl rfl (Nat.le_of_ble_eq_true rfl) ⟨(Nat.le_of_ble_eq_true rfl), (Nat.le_of_ble_eq_true rfl)⟩ rfl rfl (Nat.le_of_ble_eq_true rfl) (Nat.le_of_ble_eq_true rfl) (fun r9 Jb hq9 => ?_)
        obtain ⟨rfl, hj⟩ := hq9
        have hb9 : zOf (zbut [19, 61]) Jb J := by rw [← hj]; exact zOf.cp rfl (zOf.up rfl zOf.rf)
        have hb19 : ∀ k, ¬ k = 0 → Jb 19 k = J 19 k := fun k hk => by rw [← hj, zcp_nc (by decide), zup_ne hk]
        have a0 : AC Jb m m := by rw [← hj]; exact hI.begin
        have hb6 := a0.1.1.2.1
        obtain ⟨cb, kb, lb⟩ := cc.begin hI hj
        refine tz_aload_n (pc := 51) dX11_put_51 rfl rfl ?_
        refine tz_aload_n (pc := 52) dX11_put_52 rfl rfl ?_
        refine tz_fR (pc := 53) dX11_put_53 fl_X11_62 r_0_7 ?_
        refine tz_iload_n (pc := 56) dX11_put_56 rfl rfl ?_
        refine tz_iload_n (pc := 57) dX11_put_57 rfl rfl ?_
        refine tz_iload_n (pc := 58) dX11_put_58 rfl rfl ?_
        refine tz_cV (pc := 59) (x_replaced hl n _ _ _ _ (by omega) (by omega) (by omega) m a0.1.1.1 a0.1.1.2.1 (by omega) (by rw [hb9 10 rfl]; omega) (by omega)) vl_X11_350 dX11_put_59 o_141 rfl rfl (Nat.le_of_ble_eq_true rfl) ⟨(Nat.le_of_ble_eq_true rfl), (Nat.le_of_ble_eq_true rfl)⟩ rfl rfl (Nat.le_of_ble_eq_true rfl) (Nat.le_of_ble_eq_true rfl) (fun r9 J_59 hq9 => ?_)
        obtain ⟨z_59, rfl, hz_59, m1, g1, h1, x1⟩ := hq9
        have a1 := a0.gx0 (g1.x (X := [])) rfl
        have o1 := (x1 S h21 cb.1).q cb.2.1 a0.1.1.2.2 (g1.2.2.2.2 19 rfl) (fun k h => puO_5 6 S t p k h)
        refine tz_cV (pc := 62) (x_settled hl n _ _ (by omega) m m1 a1) vl_X11_293 dX11_put_62 o_0 rfl rfl (Nat.le_of_ble_eq_true rfl) ⟨(Nat.le_of_ble_eq_true rfl), (Nat.le_of_ble_eq_true rfl)⟩ rfl rfl (Nat.le_of_ble_eq_true rfl) (Nat.le_of_ble_eq_true rfl) (fun r9 J_62 hq9 => ?_)
        obtain ⟨z_62, rfl, hz_62, s9, s8⟩ := hq9
        exact tz_iret (pc := 65) (z := z_62) dX11_put_65 rfl (Nat.le_of_ble_eq_true rfl) (Nat.le_of_ble_eq_true rfl) ⟨Nat.le_refl _, Nat.le_add_right _ _⟩ ⟨_, rfl, (by omega), ⟨(s9.cq (by rw [g1.2.2.2.2 145 rfl, hb9 145 rfl]; omega) ((g1.2.2.2.2 0 rfl).trans (hb9 0 rfl)) ((g1.2.2.2.2.mono (fun c hc => by have := of_decide_eq_true hc; simp [zbut]; omega)).tr (hb9.mono (fun c hc => by have := of_decide_eq_true hc; simp [zbut]; omega)))), Or.inl ⟨by have e9 := eS (by omega); omega, act_end cc hI hj (g1.x (X := [])) rfl o1 s8⟩⟩⟩
      · rw [show (if 0 ≤ p ∧ p < J 10 t then 1 else 0 : Int) = 0 from if_neg hw_34]
        refine tz_if_neF (pc := 34) (tgt := 44) (by decide) dX11_put_34 (by decide) (by decide) ?_
        refine tz_aload_n (pc := 37) dX11_put_37 rfl rfl ?_
        refine tz_iconst (pc := 38) dX11_put_38 ?_
        refine tz_iconst (pc := 39) dX11_put_39 ?_
        refine tz_cV (pc := 40) (c_refused hl n _ _ _ (by decide) (by omega) (by decide)) vl_X11_284 dX11_put_40 o_0 rfl rfl (Nat.le_of_ble_eq_true rfl) ⟨(Nat.le_of_ble_eq_true rfl), (Nat.le_of_ble_eq_true rfl)⟩ rfl rfl (Nat.le_of_ble_eq_true rfl) (Nat.le_of_ble_eq_true rfl) (fun r9 J_40 hq9 => ?_)
        obtain ⟨z_40, rfl, hz_40, f9, rfl⟩ := hq9
        exact tz_iret (pc := 43) (z := (-1)) dX11_put_43 rfl (Nat.le_of_ble_eq_true rfl) (Nat.le_of_ble_eq_true rfl) ⟨Nat.le_refl _, Nat.le_add_right _ _⟩ ⟨_, rfl, (by decide), ⟨(SQ.cq ⟨⟨m, hI.st f9⟩, f9 145 rfl, f9 0 rfl, (f9.mono (fun c hc => by have := of_decide_eq_true hc; simp [zbut]; omega))⟩ (by omega) rfl zOf.rf), Or.inr ⟨fun h9 => by have e9 := eS h9.1; omega, rfl, cc.st hI f9⟩⟩⟩
    · rw [show (if 0 ≤ x ∧ x < J 6 12 then 1 else 0 : Int) = 0 from if_neg hw_24]
      refine tz_if_eqT (pc := 24) (tgt := 37) (by decide) dX11_put_24 (by decide) (by decide) ?_
      refine tz_aload_n (pc := 37) dX11_put_37 rfl rfl ?_
      refine tz_iconst (pc := 38) dX11_put_38 ?_
      refine tz_iconst (pc := 39) dX11_put_39 ?_
      refine tz_cV (pc := 40) (c_refused hl n _ _ _ (by decide) (by omega) (by decide)) vl_X11_284 dX11_put_40 o_0 rfl rfl (Nat.le_of_ble_eq_true rfl) ⟨(Nat.le_of_ble_eq_true rfl), (Nat.le_of_ble_eq_true rfl)⟩ rfl rfl (Nat.le_of_ble_eq_true rfl) (Nat.le_of_ble_eq_true rfl) (fun r9 J_40 hq9 => ?_)
      obtain ⟨z_40, rfl, hz_40, f9, rfl⟩ := hq9
      exact tz_iret (pc := 43) (z := (-1)) dX11_put_43 rfl (Nat.le_of_ble_eq_true rfl) (Nat.le_of_ble_eq_true rfl) ⟨Nat.le_refl _, Nat.le_add_right _ _⟩ ⟨_, rfl, (by decide), ⟨(SQ.cq ⟨⟨m, hI.st f9⟩, f9 145 rfl, f9 0 rfl, (f9.mono (fun c hc => by have := of_decide_eq_true hc; simp [zbut]; omega))⟩ (by omega) rfl zOf.rf), Or.inr ⟨fun h9 => by have e9 := eS h9.1; omega, rfl, cc.st hI f9⟩⟩⟩
  · rw [show (if 0 ≤ t ∧ t < J 6 12 then 1 else 0 : Int) = 0 from if_neg hw_15]
    refine tz_if_eqT (pc := 15) (tgt := 37) (by decide) dX11_put_15 (by decide) (by decide) ?_
    refine tz_aload_n (pc := 37) dX11_put_37 rfl rfl ?_
    refine tz_iconst (pc := 38) dX11_put_38 ?_
    refine tz_iconst (pc := 39) dX11_put_39 ?_
    refine tz_cV (pc := 40) (c_refused hl n _ _ _ (by decide) (by omega) (by decide)) vl_X11_284 dX11_put_40 o_0 rfl rfl (Nat.le_of_ble_eq_true rfl) ⟨(Nat.le_of_ble_eq_true rfl), (Nat.le_of_ble_eq_true rfl)⟩ rfl rfl (Nat.le_of_ble_eq_true rfl) (Nat.le_of_ble_eq_true rfl) (fun r9 J_40 hq9 => ?_)
    obtain ⟨z_40, rfl, hz_40, f9, rfl⟩ := hq9
    exact tz_iret (pc := 43) (z := (-1)) dX11_put_43 rfl (Nat.le_of_ble_eq_true rfl) (Nat.le_of_ble_eq_true rfl) ⟨Nat.le_refl _, Nat.le_add_right _ _⟩ ⟨_, rfl, (by decide), ⟨(SQ.cq ⟨⟨m, hI.st f9⟩, f9 145 rfl, f9 0 rfl, (f9.mono (fun c hc => by have := of_decide_eq_true hc; simp [zbut]; omega))⟩ (by omega) rfl zOf.rf), Or.inr ⟨fun h9 => by have e9 := eS h9.1; omega, rfl, cc.st hI f9⟩⟩⟩

end
section
/-! ===== withPut of the reference, exact: beginnings ===== -/
theorem nmT_c9 {G : zJ} {A h x y w x' y' w' q : Int} (h0 : 0 < A → x = x') (h1 : 1 < A → y = y') (h2 : 2 < A → w = w') : nmT G 0 A h x y w q = nmT G 0 A h x' y' w' q := by
  unfold nmT
  apply propext
  refine ⟨fun ⟨a, b, c, d⟩ => ⟨a, fun e => (b e).trans (h0 e), fun e => (c e).trans (h1 e), fun e => (d e).trans (h2 e)⟩, fun ⟨a, b, c, d⟩ => ⟨a, fun e => (b e).trans (h0 e).symm, fun e => (c e).trans (h1 e).symm, fun e => (d e).trans (h2 e).symm⟩⟩
theorem dpS_c9 {f : Int → Int} {A x y w x' y' w' : Int} (h0 : 0 < A → x = x') (h1 : 1 < A → y = y') (h2 : 2 < A → w = w') : dpS f A x y w = dpS f A x' y' w' := by
  unfold dpS
  split
  · rfl
  · rw [h0 (by omega)]
    split
    · rfl
    · rw [h1 (by omega)]
      split
      · rfl
      · rw [h2 (by omega)]
theorem tmO_c9 {G : zJ} {h x y w x' y' w' : Int} (h0 : 0 < oar G h → x = x') (h1 : 1 < oar G h → y = y') (h2 : 2 < oar G h → w = w') : tmO G h x y w = tmO G h x' y' w' := by
  have e1 : ofi G h x y w = ofi G h x' y' w' := by
    unfold ofi
    congr 1
    funext q
    congr 1
    rw [nmT_c9 h0 h1 h2]
  have e2 : odp G h x y w = odp G h x' y' w' := dpS_c9 h0 h1 h2
  have a0 : (if 0 < oar G h then x else -1) = if 0 < oar G h then x' else -1 := by split; exact h0 ‹_›; rfl
  have a1 : (if 1 < oar G h then y else -1) = if 1 < oar G h then y' else -1 := by split; exact h1 ‹_›; rfl
  have a2 : (if 2 < oar G h then w else -1) = if 2 < oar G h then w' else -1 := by split; exact h2 ‹_›; rfl
  unfold tmO
  rw [e1, e2, a0, a1, a2]
theorem tsz_tb {J : zJ} {s m : Int} (hM : MS J 0 0 0 s m) : ∀ (k : Nat) (t : Int), (0 ≤ t ∧ t < m) → tsz (mar (tb0 J) 0 0) (mag (tb0 J) 0) k t = tsz (mar J 0 0) (mag J 0) k t
  | 0, _, _ => rfl
  | k + 1, t, ht => by
    have hT := hM.told
    have ha := hM.ar ht
    have h6 : tb0 J 166 (0 + t) = J 166 (0 + t) := by rw [tb0_6, if_pos (by omega)]
    have eA : mar (tb0 J) 0 0 t = mar J 0 0 t := by
      unfold mar
      rw [h6]
      exact arh_cg (fun q => by rw [tb0_0, if_pos (by omega)])
    have st : ∀ n : Nat, (n : Int) ≤ mar J 0 0 t → tps (tsz (mar (tb0 J) 0 0) (mag (tb0 J) 0) k) (mag (tb0 J) 0) t n = tps (tsz (mar J 0 0) (mag J 0) k) (mag J 0) t n := fun n => by
      induction n with
      | zero => intro _; rfl
      | succ n ih =>
        intro hn
        show tps _ _ t n + _ = tps _ _ t n + _
        have em : mag (tb0 J) 0 t n = mag J 0 t n := by
          show tb0 J 167 (3 * (0 + t) + n) = J 167 (3 * (0 + t) + n)
          rw [tb0_7, if_pos (by omega)]
        have hg := hM.arg ht (i := n) (by omega)
        rw [ih (by omega), em, tsz_tb hM k (mag J 0 t n) ⟨hg.1.1, by have := hg.1.2; show J 167 (3 * (0 + t) + n) < m; omega⟩]
    show tps _ _ t (mar (tb0 J) 0 0 t).toNat = tps _ _ t (mar J 0 0 t).toNat
    rw [eA, st _ (by omega)]
theorem msz_tb {J : zJ} {s m t : Int} (hM : MS J 0 0 0 s m) (ht : 0 ≤ t ∧ t < m) : msz (tb0 J) 0 0 t = msz J 0 0 t := tsz_tb hM 6 t ht
end
section
/-! ===== withPut of the reference, exact: its loop ===== -/
theorem mag_tb {J : zJ} {s m t i : Int} (hM : MS J 0 0 0 s m) (ht : 0 ≤ t ∧ t < m) (hi : 0 ≤ i ∧ i < 3) : mag (tb0 J) 0 t i = mag J 0 t i := by
  have hT := hM.told
  show tb0 J 167 (3 * (0 + t) + i) = J 167 (3 * (0 + t) + i)
  rw [tb0_7, if_pos (by omega)]
theorem pfr_tb {J : zJ} {s m t : Int} (hM : MS J 0 0 0 s m) (ht : 0 ≤ t ∧ t < m) : ∀ n : Nat, (n : Int) ≤ mar J 0 0 t → pfr (tb0 J) t n = pfr J t n
  | 0, _ => rfl
  | n + 1, hn => by
    have ha := (hM.ar ht).1
    have hg := hM.arg ht (i := n) (by omega)
    have e := pfr_tb hM ht n (by omega)
    show pfr (tb0 J) t n + msz (tb0 J) 0 0 (mag (tb0 J) 0 t n) = pfr J t n + msz J 0 0 (mag J 0 t n)
    rw [e, mag_tb hM ht (by omega), msz_tb hM (t := mag J 0 t n) ⟨hg.1.1, by have := hg.1.2; show J 167 (3 * (0 + t) + n) < m; omega⟩]
theorem pfr_s {J : zJ} {t i : Int} (h : 0 ≤ i) : pfr J t (i + 1).toNat = pfr J t i.toNat + msz J 0 0 (J 167 (3 * (0 + t) + i)) := by
  rw [show (i + 1).toNat = i.toNat + 1 from by omega]
  show pfr J t i.toNat + msz J 0 0 (J 167 (3 * (0 + t) + (i.toNat : Int))) = _
  rw [Int.toNat_of_nonneg h]
theorem tb0_n {J1 J : zJ} {n : Nat} (f : zOf (zbut [n]) J1 J) (hn : 184 ≤ n) : tb0 J1 = tb0 J := by
  have e : ∀ c, c < 184 → J1 c = J c := fun c h => f c (zbut1 (by omega))
  exact tb0_of (by rw [e 164 (by decide)]) (by rw [e 164 (by decide)]) (fun k _ _ => by rw [e 165 (by decide)]) (fun k _ _ => ⟨by rw [e 166 (by decide)], by rw [e 168 (by decide)]⟩) (fun k _ _ => by rw [e 167 (by decide)]) (fun k _ _ => ⟨by rw [e 169 (by decide)], by rw [e 170 (by decide)], by rw [e 171 (by decide)]⟩)
def WQP (o : Int) (n : Nat) (J1 J : zJ) (t p q i : Int) : Prop := (0 ≤ q ∧ q = p - pfr J t i.toNat ∧ tb0 J1 = tb0 J ∧ ∀ j, 0 ≤ j → j < mar J 0 0 t → J1 n j = mag J 0 t j) ∨ (q < 0 ∧ ∃ i0, (0 ≤ i0 ∧ i0 < i) ∧ (pfr J t i0.toNat ≤ p ∧ p < pfr J t (i0 + 1).toNat) ∧ (∀ k : Nat, J 168 (0 + t) ≤ k + 1 → (tb0 J1, J1 n i0) = puO o k (tb0 J) (mag J 0 t i0) (p - pfr J t i0.toNat)) ∧ ∀ j, 0 ≤ j → j < mar J 0 0 t → ¬ j = i0 → J1 n j = mag J 0 t j)
theorem WQP.in {o : Int} {n : Nat} {J1 J : zJ} {t p : Int} (h : PAr n J1 J 0 0 t) (hn : 184 ≤ n) (hp : 1 ≤ p) : WQP o n J1 J t p (p - 1) 0 := Or.inl ⟨by omega, rfl, tb0_n h.1 hn, fun j x y => h.2 j x y⟩
theorem WQP.no {o : Int} {n : Nat} {J1 J : zJ} {s m m1 t p q i z : Int} (h : WQP o n J1 J t p q i) (hM : MS J 0 0 0 s m) (hM1 : MS J1 0 0 0 s m1) (hl : m ≤ m1) (ht : 0 ≤ t ∧ t < m) (hi : 0 ≤ i ∧ i < mar J 0 0 t) (hz : z = msz J1 0 0 (J 167 (3 * (0 + t) + i))) (hz1 : 1 ≤ z) (hc : ¬ (0 ≤ q ∧ q < z)) : WQP o n J1 J t p (q - z) (i + 1) := by
  have hg := hM.arg ht hi
  rcases h with ⟨a, b, c, d⟩ | ⟨a, i0, b, c, d, e⟩
  · have ez : z = msz J 0 0 (J 167 (3 * (0 + t) + i)) := by rw [hz, ← msz_tb hM1 (by omega), c, msz_tb hM (by omega)]
    have := pfr_s (J := J) (t := t) hi.1
    exact Or.inl ⟨by omega, by omega, c, d⟩
  · exact Or.inr ⟨by omega, i0, by omega, c, d, e⟩
theorem WQP.st {o : Int} {n : Nat} {J2 J1 J : zJ} {s m m1 t p q i z w : Int} (h : WQP o n J1 J t p q i) (hM : MS J 0 0 0 s m) (hM1 : MS J1 0 0 0 s m1) (hl : m ≤ m1) (ht : 0 ≤ t ∧ t < m) (hi : 0 ≤ i ∧ i < mar J 0 0 t) (hz : z = msz J1 0 0 (J 167 (3 * (0 + t) + i))) (hc : 0 ≤ q ∧ q < z) (hn : 184 ≤ n) (en : J2 n = J1 n) (x : ∀ k : Nat, J 168 (0 + J 167 (3 * (0 + t) + i)) ≤ k → (tb0 J2, w) = puO o k (tb0 J1) (J 167 (3 * (0 + t) + i)) q) : WQP o n (zup J2 n i w) J t p (q - z) (i + 1) := by
  have hg := hM.arg ht hi
  rcases h with ⟨a, b, c, d⟩ | ⟨a, _⟩
  · have ez : z = msz J 0 0 (J 167 (3 * (0 + t) + i)) := by rw [hz, ← msz_tb hM1 (by omega), c, msz_tb hM (by omega)]
    have := pfr_s (J := J) (t := t) hi.1
    refine Or.inr ⟨by omega, i, by omega, by omega, fun k hk => ?_, fun j u v y => by rw [zup_ne y, en]; exact d j u v⟩
    rw [zup_at, tb0_n (zOf.up (by simp [zbut]) zOf.rf) hn, ← b, ← c]
    exact x k (by omega)
  · omega
theorem WQP.end {o : Int} {n : Nat} {J1 J J' : zJ} {s m t p q z : Int} (h : WQP o n J1 J t p q (mar J 0 0 t)) (hM : MS J 0 0 0 s m) (ht : 0 ≤ t ∧ t < m) (hp : 1 ≤ p ∧ p < msz J 0 0 t) (e6 : J1 166 (0 + t) = J 166 (0 + t)) (e0 : ∀ k, J1 170 k = J 170 k) (x : (tb0 J', z) = tmO (tb0 J1) (J1 166 (0 + t)) (J1 n 0) (J1 n 1) (J1 n 2)) (k : Nat) (hk : J 168 (0 + t) ≤ k) : (tb0 J', z) = puO o k (tb0 J) t p := by
  have hT := hM.told
  have ha := hM.ar ht
  have hu := msz_un hM ht
  rcases h with ⟨a, b, _⟩ | ⟨_, i0, hi, ⟨p1, p2⟩, hr, ho⟩
  · have : pfr J t (mar J 0 0 t).toNat = tps (msz J 0 0) (mag J 0) t (mar J 0 0 t).toNat := rfl
    omega
  · obtain ⟨k9, rfl⟩ : ∃ k9, k = k9 + 1 := ⟨k - 1, by omega⟩
    have f := pfr_tb hM ht
    have h6 : tb0 J 166 (0 + t) = J 166 (0 + t) := by rw [tb0_6, if_pos (by omega)]
    have mo : ∀ i : Nat, ((i + 1 : Nat) : Int) ≤ mar J 0 0 t → pfr J t i ≤ pfr J t (i + 1) := fun i h => by
      have hg := hM.arg ht (i := i) (by omega)
      have := msz_bd hM 6 (mag J 0 t i) ⟨hg.1.1, by have := hg.1.2; show J 167 (3 * (0 + t) + i) < m; omega⟩ (hM.ar (t := mag J 0 t i) ⟨hg.1.1, by have := hg.1.2; show J 167 (3 * (0 + t) + i) < m; omega⟩).2.2.1.2
      show _ ≤ pfr J t i + msz J 0 0 (mag J 0 t i)
      omega
    have eI : puI (tb0 J) t p = i0 := by
      unfold puI
      rcases (show i0 = 0 ∨ i0 = 1 ∨ i0 = 2 by omega) with e | e | e
      · subst e
        rw [f 1 (by omega), if_pos (show p < pfr J t 1 from p2)]
      · subst e
        rw [f 1 (by omega), f 2 (by omega), if_neg (by have : pfr J t 1 ≤ p := p1; omega), if_pos (show p < pfr J t 2 from p2)]
      · subst e
        have m1 : pfr J t 1 ≤ pfr J t 2 := mo 1 (by omega)
        have p1 : pfr J t 2 ≤ p := p1
        rw [f 1 (by omega), f 2 (by omega), if_neg (by omega), if_neg (by omega)]
    have r := hr k9 hk
    have oa : oar (tb0 J1) (J 166 (0 + t)) = mar J 0 0 t := by
      unfold oar mar
      exact arh_cg (fun q => by rw [tb0_0, if_pos (by omega), e0])
    rw [puO_s, if_neg (by omega)]
    unfold puR
    rw [eI, f i0.toNat (by omega), mag_tb hM ht (i := i0) (by omega), ← r, h6, x, e6]
    refine tmO_c9 (fun u => ?_) (fun u => ?_) (fun u => ?_)
    · rw [oa] at u
      split
      · next v => rw [v]
      · next v => rw [mag_tb hM ht (by omega)]; exact ho 0 (by omega) u (fun e => v e.symm)
    · rw [oa] at u
      split
      · next v => rw [v]
      · next v => rw [mag_tb hM ht (by omega)]; exact ho 1 (by omega) u (fun e => v e.symm)
    · rw [oa] at u
      split
      · next v => rw [v]
      · next v => rw [mag_tb hM ht (by omega)]; exact ho 2 (by omega) u (fun e => v e.symm)
end
section
theorem WP.row {n k : Nat} {J2 J1 : zJ} {b r d s m1 m2 : Int} (g : MG (List.range' (n + 1) k) [] (fun _ => false) J2 J1 b r d s m1 m2) (hn : 184 ≤ n := by omega) : J2 n = J1 n := g.2.2.1.2.2.2 n (by
    simp only [zbut, Bool.not_eq_true', List.contains_eq_mem, decide_eq_false_iff_not, List.mem_cons, List.mem_range'_1]
    omega)
set_option maxHeartbeats 4000000 in
set_option maxRecDepth 100000 in
theorem o_withPutR {l : Launch} {G : tb_G} (hl : l.stackTraces = false) : ∀ (r9 : Nat) (n : Nat) (J : zJ) (t : Int) (p : Int) (o : Int) (hr_t : -2147483648 ≤ t ∧ t < 2147483648) (hr_p : -2147483648 ≤ p ∧ p < 2147483648) (hr_o : -2147483648 ≤ o ∧ o < 2147483648) (s m : Int) (hM : MS J 0 0 0 s m) (hs : J 164 9 = s) (ht : 0 ≤ t ∧ t < m) (ho : 0 ≤ o ∧ o < m) (hp : 0 ≤ p) (hpz : p < msz J 0 0 t) (hn0 : 184 ≤ n) (hns : n + r9 < tb_sc), ((J 168 (0 + t)).toNat) < r9 → tz_Ok l G M_X12_withPut (14 + 1 * r9) r9 (3 * r9) [.ref 164, zi t, zi p, zi o] n J (zqi (fun z J' => ∃ m', MG (List.range' n r9) [] (fun _ => false) J' J 0 0 0 s m m' ∧ (J' 164 21 = 0 → 0 ≤ z ∧ z < m') ∧ ∀ k : Nat, J 168 (0 + t) ≤ k → (tb0 J', z) = puO o k (tb0 J) t p)) zN := by
  intro r9
  induction r9 with
  | zero => intro n J t p o hr_t hr_p hr_o s m hM hs ht ho hp hpz hn0 hns hm9; exact absurd hm9 (Nat.not_lt_zero _)
  | succ r9 ih =>
    intro n J t p o hr_t hr_p hr_o s m hM hs ht ho hp hpz hn0 hns hm9
    refine tz_Ok.of hl (by decide +kernel) rfl (tb_c1 rfl) (Nat.le_of_ble_eq_true rfl) ?_
    show tz_At l G M_X12_withPut (tb_rm (14 + 1 * (r9 + 1)) (r9 + 1) (3 * (r9 + 1))) none (tb_ZM G (r9 + 1) (3 * (r9 + 1)) (zQ n (r9 + 1) (zqi (fun z J' => ∃ m', MG (List.range' n (r9 + 1)) [] (fun _ => false) J' J 0 0 0 s m m' ∧ (J' 164 21 = 0 → 0 ≤ z ∧ z < m') ∧ ∀ k : Nat, J 168 (0 + t) ≤ k → (tb0 J', z) = puO o k (tb0 J) t p))) (zX n (r9 + 1) zN)) 0 0 n J 0 [some (.ref 164), some (zi t), some (zi p), some (zi o), none, none, none, none] []
    have hT := hM.told
    have ha := hM.ar ht
    refine tz_iload_n (pc := 0) dX12_withPut_0 rfl rfl ?_
    refine tz_if_ne (pc := 1) (tgt := 6) dX12_withPut_1 (by decide) (by omega) (fun h_1 => ?_) (fun h_1 => ?_)
    · refine tz_iload_n (pc := 6) dX12_withPut_6 rfl rfl ?_
      refine tz_iconst (pc := 7) dX12_withPut_7 ?_
      refine tz_isub (pc := 8) (v := p - 1) dX12_withPut_8 rfl ?_
      refine tz_istore (pc := 9) (L2 := [_, _, _, _, _, _, _, _]) dX12_withPut_9 (by decide) rfl ?_
      refine tz_aload_n (pc := 11) dX12_withPut_11 rfl rfl ?_
      refine tz_iload_n (pc := 12) dX12_withPut_12 rfl rfl ?_
      refine tz_cVN (pc := 13) (m_parts hl n _ _ (by omega) 0 0 0 s m hM ht hn0 (by omega)) vl_X12_415 dX12_withPut_13 o_164 rfl rfl (Nat.le_of_ble_eq_true rfl) ⟨(show 3 + 1 ≤ 14 + 1 * (r9 + 1) by omega), (show 8 + (4 + 11) + 40 * (3) ≤ 40 * (14 + 1 * (r9 + 1)) by omega)⟩ rfl rfl (show 0 + 1 ≤ r9 + 1 by omega) (show 0 + 3 ≤ 3 * (r9 + 1) by omega) (fun r9 J_13 hq9 => ?_)
      obtain ⟨rfl, pa⟩ := hq9
      refine tz_astore (pc := 16) (L2 := [_, _, _, _, _, _, _, _]) dX12_withPut_16 (by decide) rfl ?_
      refine tz_iconst (pc := 18) dX12_withPut_18 ?_
      refine tz_istore (pc := 19) (L2 := [_, _, _, _, _, _, _, _]) dX12_withPut_19 (by decide) rfl ?_
      have loop21 : ∀ (f9 : Nat) (q : Int) (i : Int) (d7 : Option Value) (k1 : Nat) (k2 : Nat) (n1 : Nat) (J1 : zJ) (m1 : Int), ((3 - i).toNat) < f9 → (-2000 * i ≤ q ∧ q < 2147483648) → (0 ≤ i ∧ i ≤ mar J 0 0 t) → ((0 ≤ q → k1 = 0 + 1 ∧ k2 = 0 + 3) ∧ k1 ≤ r9 + 1 ∧ k2 ≤ 3 * (r9 + 1)) → (n + 1 ≤ n1 ∧ n1 ≤ n + k1) → (WP n (r9 + 1) J1 J 0 0 0 s m m1 t) → (WQP o n J1 J t p q i) → tz_At l G M_X12_withPut (tb_rm (14 + 1 * (r9 + 1)) (r9 + 1) (3 * (r9 + 1))) none (tb_ZM G (r9 + 1) (3 * (r9 + 1)) (zQ n (r9 + 1) (zqi (fun z J' => ∃ m', MG (List.range' n (r9 + 1)) [] (fun _ => false) J' J 0 0 0 s m m' ∧ (J' 164 21 = 0 → 0 ≤ z ∧ z < m') ∧ ∀ k : Nat, J 168 (0 + t) ≤ k → (tb0 J', z) = puO o k (tb0 J) t p))) (zX n (r9 + 1) zN)) k1 k2 n1 J1 21 [some (.ref 164), some (zi t), some (zi p), some (zi o), some (zi q), some (.ref n), some (zi i), d7] [] := by
        intro f9
        induction f9 with
        | zero => intro q i d7 k1 k2 n1 J1 m1 hm9; exact absurd hm9 (Nat.not_lt_zero _)
        | succ f9 ih21 =>
          intro q i d7 k1 k2 n1 J1 m1 hm21 hq hi hk hn g1 w1
          have l1 := g1.1.1.2
          have tt1 := g1.1.1.1.told
          refine tz_iload (pc := 21) dX12_withPut_21 rfl ?_
          refine tz_aload_n (pc := 23) dX12_withPut_23 rfl rfl ?_
          refine tz_iload_n (pc := 24) dX12_withPut_24 rfl rfl ?_
          refine tz_cV (pc := 25) (m_arity hl n1 _ _ (by omega) 0 0 0 s m1 g1.1.1.1 (by omega)) vl_X12_111 dX12_withPut_25 o_164 rfl rfl (Nat.le_of_ble_eq_true rfl) ⟨(show 2 + 1 ≤ 14 + 1 * (r9 + 1) by omega), (show 8 + (2 + 11) + 40 * (2) ≤ 40 * (14 + 1 * (r9 + 1)) by omega)⟩ rfl rfl (show k1 ≤ r9 + 1 by omega) (show k2 ≤ 3 * (r9 + 1) by omega) (fun r9 J_25 hq9 => ?_)
          obtain ⟨z_25, rfl, hz_25, rfl, hv_25⟩ := hq9
          rw [g1.ar hn0 ht] at hv_25
          obtain rfl : mar J 0 0 t = z_25 := hv_25
          refine tz_icmp_ge (pc := 28) (tgt := 88) dX12_withPut_28 (by decide) (by omega) (by omega) (fun h_28 => ?_) (fun h_28 => ?_)
          · refine tz_aload_n (pc := 88) dX12_withPut_88 rfl rfl ?_
            refine tz_iload_n (pc := 89) dX12_withPut_89 rfl rfl ?_
            refine tz_aload (pc := 90) dX12_withPut_90 rfl ?_
            refine tz_iconst (pc := 92) dX12_withPut_92 ?_
            refine tz_aL (pc := 93) (z := 0) (v := (J1 n 0)) dX12_withPut_93 (cA_new hn0 (by omega)) rfl (by decide) rfl (fun r_93 => ?_)
            refine tz_aload (pc := 94) dX12_withPut_94 rfl ?_
            refine tz_iconst (pc := 96) dX12_withPut_96 ?_
            refine tz_aL (pc := 97) (z := 1) (v := (J1 n 1)) dX12_withPut_97 (cA_new hn0 (by omega)) rfl (by decide) rfl (fun r_97 => ?_)
            refine tz_aload (pc := 98) dX12_withPut_98 rfl ?_
            refine tz_iconst (pc := 100) dX12_withPut_100 ?_
            refine tz_aL (pc := 101) (z := 2) (v := (J1 n 2)) dX12_withPut_101 (cA_new hn0 (by omega)) rfl (by decide) rfl (fun r_101 => ?_)
            refine tz_cV (pc := 102) (o_remade hl n1 _ _ _ _ _ (by omega) (by omega) (by omega) (by omega) s m1 g1.1.1.1 ((g1.1.2.2.1.2.2.1 9 rfl).trans hs) (by omega) (fun q9 => by have e0 := g1.2 q9 0; have e1 := g1.2 q9 1; have e2 := g1.2 q9 2; rw [g1.ar hn0 ht]; omega)) vl_X12_152 dX12_withPut_102 o_164 rfl rfl (Nat.le_of_ble_eq_true rfl) ⟨(show 3 + 1 ≤ 14 + 1 * (r9 + 1) by omega), (show 8 + (5 + 11) + 40 * (3) ≤ 40 * (14 + 1 * (r9 + 1)) by omega)⟩ rfl rfl (show k1 ≤ r9 + 1 by omega) (show k2 ≤ 3 * (r9 + 1) by omega) (fun r9 J_102 hq9 => ?_)
            obtain ⟨z_102, rfl, hz_102, m3, g3, h3, x3⟩ := hq9
            exact tz_iret (pc := 105) (z := z_102) dX12_withPut_105 rfl (by omega) (by omega) ⟨by omega, by omega⟩ ⟨_, rfl, (by omega), ⟨m3, g1.1.tr (g3.mono (fun _ q => by simp at q) (fun _ q => q) (fun _ q => q)), h3, fun k hk => WQP.end (show WQP o n J1 J t p q (mar J 0 0 t) from (show i = mar J 0 0 t by omega) ▸ w1) hM ht (by omega) (g1.1.2.1 t ht.1 ht.2).1.1 (fun k => congrFun (g1.1.2.2.1.2.2.2 170 (zbr (by omega) (by decide))) k) x3 k hk⟩⟩
          · refine tz_aload_n (pc := 31) dX12_withPut_31 rfl rfl ?_
            refine tz_aload_n (pc := 32) dX12_withPut_32 rfl rfl ?_
            refine tz_iload_n (pc := 33) dX12_withPut_33 rfl rfl ?_
            refine tz_iload (pc := 34) dX12_withPut_34 rfl ?_
            refine tz_cV (pc := 36) (m_arg hl n1 _ _ _ (by omega) (by omega) 0 0 0 s m1 g1.1.1.1 (by omega) (by omega)) vl_X12_88 dX12_withPut_36 o_164 rfl rfl (Nat.le_of_ble_eq_true rfl) ⟨(show 0 + 1 ≤ 14 + 1 * (r9 + 1) by omega), (show 8 + (3 + 11) + 40 * (0) ≤ 40 * (14 + 1 * (r9 + 1)) by omega)⟩ rfl rfl (show k1 ≤ r9 + 1 by omega) (show k2 ≤ 3 * (r9 + 1) by omega) (fun r9 J_36 hq9 => ?_)
            obtain ⟨z_36, rfl, hz_36, rfl, hv_36⟩ := hq9
            rw [(g1.1.2.1 t ht.1 ht.2).2 i (by omega) (by omega)] at hv_36
            obtain rfl : J 167 (3 * (0 + t) + i) = z_36 := hv_36
            have hg_36 := hM.arg ht (i := i) (by omega)
            have hs9 := g1.1.1.1.sz (t := J 167 (3 * (0 + t) + i)) (by omega)
            refine tz_cV (pc := 39) (m_size hl n1 _ _ (by omega) 0 0 0 s m1 g1.1.1.1 (by omega)) vl_X12_114 dX12_withPut_39 o_164 rfl rfl (Nat.le_of_ble_eq_true rfl) ⟨(show 10 + 1 ≤ 14 + 1 * (r9 + 1) by omega), (show 8 + (4 + 11) + 40 * (10) ≤ 40 * (14 + 1 * (r9 + 1)) by omega)⟩ rfl rfl (show k1 ≤ r9 + 1 by omega) (show k2 ≤ 3 * (r9 + 1) by omega) (fun r9 J_39 hq9 => ?_)
            obtain ⟨z_39, rfl, hz_39, rfl, rfl⟩ := hq9
            refine tz_istore (pc := 42) (L2 := [_, _, _, _, _, _, _, _]) dX12_withPut_42 (by decide) rfl ?_
            refine tz_iload (pc := 44) dX12_withPut_44 rfl ?_
            refine tz_if_lt (pc := 46) (tgt := 75) dX12_withPut_46 (by decide) (by omega) (fun h_46 => ?_) (fun h_46 => ?_)
            · refine tz_iload (pc := 75) dX12_withPut_75 rfl ?_
              refine tz_iload (pc := 77) dX12_withPut_77 rfl ?_
              refine tz_isub (pc := 79) (v := q - (msz J1 0 0 (J 167 (3 * (0 + t) + i)))) dX12_withPut_79 rfl ?_
              refine tz_istore (pc := 80) (L2 := [_, _, _, _, _, _, _, _]) dX12_withPut_80 (by decide) rfl ?_
              refine tz_iinc (pc := 82) (z := i + 1) (L2 := [_, _, _, _, _, _, _, _]) dX12_withPut_82 rfl (by omega) rfl ?_
              refine tz_goto (pc := 85) (tgt := 21) dX12_withPut_85 (by decide) ?_
              exact ih21 (q - (msz J1 0 0 (J 167 (3 * (0 + t) + i)))) (i + 1) _ k1 k2 n1 J1 m1 (by omega) (by omega) (by omega) (by omega) (by omega) g1 (w1.no hM g1.1.1.1 l1 ht (by omega) rfl (by omega) (by omega))
            · refine tz_iload (pc := 49) dX12_withPut_49 rfl ?_
              refine tz_iload (pc := 51) dX12_withPut_51 rfl ?_
              refine tz_icmp_ge (pc := 53) (tgt := 75) dX12_withPut_53 (by decide) (by omega) (by omega) (fun h_53 => ?_) (fun h_53 => ?_)
              · refine tz_iload (pc := 75) dX12_withPut_75 rfl ?_
                refine tz_iload (pc := 77) dX12_withPut_77 rfl ?_
                refine tz_isub (pc := 79) (v := q - (msz J1 0 0 (J 167 (3 * (0 + t) + i)))) dX12_withPut_79 rfl ?_
                refine tz_istore (pc := 80) (L2 := [_, _, _, _, _, _, _, _]) dX12_withPut_80 (by decide) rfl ?_
                refine tz_iinc (pc := 82) (z := i + 1) (L2 := [_, _, _, _, _, _, _, _]) dX12_withPut_82 rfl (by omega) rfl ?_
                refine tz_goto (pc := 85) (tgt := 21) dX12_withPut_85 (by decide) ?_
                exact ih21 (q - (msz J1 0 0 (J 167 (3 * (0 + t) + i)))) (i + 1) _ k1 k2 n1 J1 m1 (by omega) (by omega) (by omega) (by omega) (by omega) g1 (w1.no hM g1.1.1.1 l1 ht (by omega) rfl (by omega) (by omega))
              · refine tz_aload (pc := 56) dX12_withPut_56 rfl ?_
                refine tz_iload (pc := 58) dX12_withPut_58 rfl ?_
                refine tz_aload_n (pc := 60) dX12_withPut_60 rfl rfl ?_
                refine tz_aload_n (pc := 61) dX12_withPut_61 rfl rfl ?_
                refine tz_iload_n (pc := 62) dX12_withPut_62 rfl rfl ?_
                refine tz_iload (pc := 63) dX12_withPut_63 rfl ?_
                refine tz_cV (pc := 65) (m_arg hl n1 _ _ _ (by omega) (by omega) 0 0 0 s m1 g1.1.1.1 (by omega) (by omega)) vl_X12_88 dX12_withPut_65 o_164 rfl rfl (Nat.le_of_ble_eq_true rfl) ⟨(show 0 + 1 ≤ 14 + 1 * (r9 + 1) by omega), (show 8 + (3 + 11) + 40 * (0) ≤ 40 * (14 + 1 * (r9 + 1)) by omega)⟩ rfl rfl (show k1 ≤ r9 + 1 by omega) (show k2 ≤ 3 * (r9 + 1) by omega) (fun r9 J_65 hq9 => ?_)
                obtain ⟨z_65, rfl, hz_65, rfl, hv_65⟩ := hq9
                rw [(g1.1.2.1 t ht.1 ht.2).2 i (by omega) (by omega)] at hv_65
                obtain rfl : J 167 (3 * (0 + t) + i) = z_65 := hv_65
                have hg_65 := hM.arg ht (i := i) (by omega)
                refine tz_iload (pc := 68) dX12_withPut_68 rfl ?_
                refine tz_iload_n (pc := 70) dX12_withPut_70 rfl rfl ?_
                obtain ⟨hk9, hk8⟩ := hk.1 (by omega)
                have hn9 : n1 = n + 1 := by omega
                have d9 := (g1.1.2.1 (J 167 (3 * (0 + t) + i)) (by omega) (by omega)).1.2
                refine tz_cVX (pc := 71) (ih n1 _ _ _ _ (by omega) (by omega) (by omega) s m1 g1.1.1.1 ((g1.1.2.2.1.2.2.1 9 rfl).trans hs) (by omega) (by omega) (by omega) (by omega) (by omega) (by omega) (by rw [d9]; omega)) vl_X12_419 dX12_withPut_71 o_164 rfl rfl (Nat.le_of_ble_eq_true rfl) ⟨(show (14 + 1 * r9) + 1 ≤ 14 + 1 * (r9 + 1) by omega), (show 8 + (8 + 11) + 40 * ((14 + 1 * r9)) ≤ 40 * (14 + 1 * (r9 + 1)) by omega)⟩ rfl rfl (show k1 + r9 ≤ r9 + 1 by omega) (show k2 + (3 * r9) ≤ 3 * (r9 + 1) by omega) (fun r8 n_71 J_71 hn1_71 hn2_71 hq9 => ?_) (fun E9 n_71 J_71 hn1_71 hn2_71 hx9 => hx9.elim)
                obtain ⟨z_71, rfl, hz_71, m2, g2, h2, x2⟩ := hq9
                rw [hn9] at g2
                have g3 := g1.st (i := i) g2 h2 hn0
                have en9 := WP.row g2
                have w3 := w1.st hM g1.1.1.1 l1 ht (by omega) rfl (by omega) hn0 en9 (fun k hk => x2 k (by rw [d9]; exact hk))
                refine tz_aS (pc := 74) (z := i) dX12_withPut_74 (cA_new hn0 (by omega)) rfl (by omega) (by omega) ?_
                refine tz_iload (pc := 75) dX12_withPut_75 rfl ?_
                refine tz_iload (pc := 77) dX12_withPut_77 rfl ?_
                refine tz_isub (pc := 79) (v := q - (msz J1 0 0 (J 167 (3 * (0 + t) + i)))) dX12_withPut_79 rfl ?_
                refine tz_istore (pc := 80) (L2 := [_, _, _, _, _, _, _, _]) dX12_withPut_80 (by decide) rfl ?_
                refine tz_iinc (pc := 82) (z := i + 1) (L2 := [_, _, _, _, _, _, _, _]) dX12_withPut_82 rfl (by omega) rfl ?_
                refine tz_goto (pc := 85) (tgt := 21) dX12_withPut_85 (by decide) ?_
                exact ih21 (q - (msz J1 0 0 (J 167 (3 * (0 + t) + i)))) (i + 1) _ _ _ n_71 _ m2 (by omega) (by omega) (by omega) (by omega) (by omega) g3 w3
      exact loop21 _ _ 0 none _ _ _ _ m (Nat.lt_succ_self _) (by omega) (by omega) ⟨fun _ => ⟨rfl, rfl⟩, by omega, by omega⟩ ⟨by omega, by omega⟩ (WP.in hM ht pa hn0) (WQP.in pa hn0 (by omega))
    · refine tz_iload_n (pc := 4) dX12_withPut_4 rfl rfl ?_
      exact tz_iret (pc := 5) (z := o) dX12_withPut_5 rfl (Nat.le_of_ble_eq_true rfl) (Nat.le_of_ble_eq_true rfl) ⟨Nat.le_refl _, Nat.le_add_right _ _⟩ ⟨_, rfl, (by omega), ⟨m, MG.rf hM, fun _ => by omega, fun k hk => by obtain ⟨k9, rfl⟩ : ∃ k9, k = k9 + 1 := ⟨k - 1, by omega⟩; rw [puO_s, if_pos (by omega)]⟩⟩
theorem o_withPut {l : Launch} {G : tb_G} (hl : l.stackTraces = false) (n : Nat) (J : zJ) (t : Int) (p : Int) (o : Int) (hr_t : -2147483648 ≤ t ∧ t < 2147483648) (hr_p : -2147483648 ≤ p ∧ p < 2147483648) (hr_o : -2147483648 ≤ o ∧ o < 2147483648) (s m : Int) (hM : MS J 0 0 0 s m) (hs : J 164 9 = s) (ht : 0 ≤ t ∧ t < m) (ho : 0 ≤ o ∧ o < m) (hp : 0 ≤ p) (hpz : p < msz J 0 0 t) (hn0 : 184 ≤ n) (hns : n + 7 < tb_sc) : tz_Ok l G M_X12_withPut 21 7 21 [.ref 164, zi t, zi p, zi o] n J (zqi (fun z J' => ∃ m', MG (List.range' n 7) [] (fun _ => false) J' J 0 0 0 s m m' ∧ (J' 164 21 = 0 → 0 ≤ z ∧ z < m') ∧ ∀ k : Nat, J 168 (0 + t) ≤ k → (tb0 J', z) = puO o k (tb0 J) t p)) zN := o_withPutR hl 7 n J t p o hr_t hr_p hr_o s m hM hs ht ho hp hpz hn0 hns (by have := (hM.ar ht).2.2.1; omega)
end
section
/-! ===== put of the reference, exact ===== -/
theorem tps_mo {J : zJ} {b r d s m t : Int} (hM : MS J b r d s m) (ht : 0 ≤ t ∧ t < m) (n : Nat) : ∀ k : Nat, ((n + k : Nat) : Int) ≤ mar J b d t → tps (msz J b d) (mag J b) t n ≤ tps (msz J b d) (mag J b) t (n + k)
  | 0, _ => Int.le_refl _
  | k + 1, h => by
    have q := tps_mo hM ht n k (by omega)
    have hg := hM.arg ht (i := ((n + k : Nat) : Int)) (by omega)
    have z := hM.sz (t := mag J b t ((n + k : Nat) : Int)) ⟨hg.1.1, by have := hg.1.2; show J 167 (3 * (b + t) + ((n + k : Nat) : Int)) < m; omega⟩
    show _ ≤ tps _ _ t (n + k) + msz J b d (mag J b t ((n + k : Nat) : Int))
    omega
set_option maxHeartbeats 4000000 in
set_option maxRecDepth 100000 in
theorem o_placeR {l : Launch} {G : tb_G} (hl : l.stackTraces = false) (n : Nat) : ∀ (r9 : Nat) (J : zJ) (t : Int) (p : Int) (hr_t : -2147483648 ≤ t ∧ t < 2147483648) (hr_p : -2147483648 ≤ p ∧ p < 2147483648) (b r d s m : Int) (hM : MS J b r d s m) (ht : 0 ≤ t ∧ t < m), ((J 168 (b + t)).toNat) < r9 → tz_Ok l G M_X12_placeOf (12 + 1 * r9) 0 0 [.ref 164, zi t, zi p] n J (zqi (fun z J' => J = J' ∧ (z = -1 ∨ (0 ≤ z ∧ z < m)) ∧ (0 ≤ z → 0 ≤ p ∧ p < msz J b d t) ∧ (0 ≤ p → p < msz J b d t → 0 ≤ z))) zN := by
  intro r9
  induction r9 with
  | zero => intro J t p hr_t hr_p b r d s m hM ht hm9; exact absurd hm9 (Nat.not_lt_zero _)
  | succ r9 ih =>
    intro J t p hr_t hr_p b r d s m hM ht hm9
    refine tz_Ok.of hl (by decide +kernel) rfl (tb_c1 rfl) (Nat.le_of_ble_eq_true rfl) ?_
    show tz_At l G M_X12_placeOf (tb_rm (12 + 1 * (r9 + 1)) 0 0) none (tb_ZM G 0 0 (zQ n 0 (zqi (fun z J' => J = J' ∧ (z = -1 ∨ (0 ≤ z ∧ z < m)) ∧ (0 ≤ z → 0 ≤ p ∧ p < msz J b d t) ∧ (0 ≤ p → p < msz J b d t → 0 ≤ z)))) (zX n 0 zN)) 0 0 n J 0 [some (.ref 164), some (zi t), some (zi p), none, none, none] []
    obtain ⟨hM1, hM2, hM3, hM4, hM5, hM6⟩ := id hM
    have hT := hM.told
    have ha := hM.ar ht
    have hz := hM.sz ht
    have hu := msz_un hM ht
    refine tz_iload_n (pc := 0) dX12_placeOf_0 rfl rfl ?_
    refine tz_if_ge (pc := 1) (tgt := 6) dX12_placeOf_1 (by decide) (by omega) (fun h_1 => ?_) (fun h_1 => ?_)
    · refine tz_iload_n (pc := 6) dX12_placeOf_6 rfl rfl ?_
      refine tz_if_ne (pc := 7) (tgt := 12) dX12_placeOf_7 (by decide) (by omega) (fun h_7 => ?_) (fun h_7 => ?_)
      · refine tz_iload_n (pc := 12) dX12_placeOf_12 rfl rfl ?_
        refine tz_iconst (pc := 13) dX12_placeOf_13 ?_
        refine tz_isub (pc := 14) (v := p - 1) dX12_placeOf_14 rfl ?_
        refine tz_istore_n (pc := 15) (L2 := [_, _, _, _, _, _]) dX12_placeOf_15 rfl (by decide) rfl ?_
        refine tz_iconst (pc := 16) dX12_placeOf_16 ?_
        refine tz_istore (pc := 17) (L2 := [_, _, _, _, _, _]) dX12_placeOf_17 (by decide) rfl ?_
        have loop19 : ∀ (f9 : Nat) (q : Int) (i : Int) (d5 : Option Value), ((3 - i).toNat) < f9 → ((0 ≤ i ∧ i ≤ mar J b d t) ∧ 0 ≤ q) → (q = p - tps (msz J b d) (mag J b) t i.toNat) → tz_At l G M_X12_placeOf (tb_rm (12 + 1 * (r9 + 1)) 0 0) none (tb_ZM G 0 0 (zQ n 0 (zqi (fun z J' => J = J' ∧ (z = -1 ∨ (0 ≤ z ∧ z < m)) ∧ (0 ≤ z → 0 ≤ p ∧ p < msz J b d t) ∧ (0 ≤ p → p < msz J b d t → 0 ≤ z)))) (zX n 0 zN)) 0 0 n J 19 [some (.ref 164), some (zi t), some (zi p), some (zi q), some (zi i), d5] [] := by
          intro f9
          induction f9 with
          | zero => intro q i d5 hm9; exact absurd hm9 (Nat.not_lt_zero _)
          | succ f9 ih19 =>
            intro q i d5 hm19 hi hq
            have hb9 := tps_bd hM ht i.toNat (by omega)
            refine tz_iload (pc := 19) dX12_placeOf_19 rfl ?_
            refine tz_aload_n (pc := 21) dX12_placeOf_21 rfl rfl ?_
            refine tz_iload_n (pc := 22) dX12_placeOf_22 rfl rfl ?_
            refine tz_cV (pc := 23) (m_arity hl n _ _ (by omega) b r d s m hM (by omega)) vl_X12_111 dX12_placeOf_23 o_164 rfl rfl (Nat.le_of_ble_eq_true rfl) ⟨(show 2 + 1 ≤ 12 + 1 * (r9 + 1) by omega), (show 8 + (2 + 11) + 40 * (2) ≤ 40 * (12 + 1 * (r9 + 1)) by omega)⟩ rfl rfl (Nat.le_of_ble_eq_true rfl) (Nat.le_of_ble_eq_true rfl) (fun r9 J_23 hq9 => ?_)
            obtain ⟨z_23, rfl, hz_23, rfl, rfl⟩ := hq9
            refine tz_icmp_ge (pc := 26) (tgt := 72) dX12_placeOf_26 (by decide) (by omega) (by omega) (fun h_26 => ?_) (fun h_26 => ?_)
            · refine tz_iconst (pc := 72) dX12_placeOf_72 ?_
              exact tz_iret (pc := 73) (z := (-1)) dX12_placeOf_73 rfl (Nat.le_of_ble_eq_true rfl) (Nat.le_of_ble_eq_true rfl) ⟨Nat.le_refl _, Nat.le_add_right _ _⟩ ⟨_, rfl, (by decide), (by first | exact ⟨rfl, hz1, fun _ => ⟨by omega, by have a9 := tps_mo hM ht (i + 1).toNat ((mar J b d t).toNat - (i + 1).toNat) (by omega); rw [show (i + 1).toNat + ((mar J b d t).toNat - (i + 1).toNat) = (mar J b d t).toNat by omega, ← hu, tps_s (by omega)] at a9; omega⟩, fun _ _ => hz2 (by omega) (by omega)⟩ | exact ⟨rfl, by omega, fun _ => by omega, fun _ _ => by omega⟩ | exact ⟨rfl, Or.inl rfl, fun q9 => absurd q9 (by decide), fun _ w9 => by rw [hu, show (mar J b d t).toNat = i.toNat by omega] at w9; omega⟩)⟩
            · refine tz_aload_n (pc := 29) dX12_placeOf_29 rfl rfl ?_
              refine tz_aload_n (pc := 30) dX12_placeOf_30 rfl rfl ?_
              refine tz_iload_n (pc := 31) dX12_placeOf_31 rfl rfl ?_
              refine tz_iload (pc := 32) dX12_placeOf_32 rfl ?_
              refine tz_cV (pc := 34) (m_arg hl n _ _ _ (by omega) (by omega) b r d s m hM (by omega) (by omega)) vl_X12_88 dX12_placeOf_34 o_164 rfl rfl (Nat.le_of_ble_eq_true rfl) ⟨(show 0 + 1 ≤ 12 + 1 * (r9 + 1) by omega), (show 8 + (3 + 11) + 40 * (0) ≤ 40 * (12 + 1 * (r9 + 1)) by omega)⟩ rfl rfl (Nat.le_of_ble_eq_true rfl) (Nat.le_of_ble_eq_true rfl) (fun r9 J_34 hq9 => ?_)
              obtain ⟨z_34, rfl, hz_34, rfl, rfl⟩ := hq9
              have hg := hM.arg (t := t) (i := i) ht (by omega)
              have hs := hM.sz (t := J 167 (3 * (b + t) + i)) (by omega)
              refine tz_cV (pc := 37) (m_size hl n _ _ (by omega) b r d s m hM (by omega)) vl_X12_114 dX12_placeOf_37 o_164 rfl rfl (Nat.le_of_ble_eq_true rfl) ⟨(show 10 + 1 ≤ 12 + 1 * (r9 + 1) by omega), (show 8 + (4 + 11) + 40 * (10) ≤ 40 * (12 + 1 * (r9 + 1)) by omega)⟩ rfl rfl (Nat.le_of_ble_eq_true rfl) (Nat.le_of_ble_eq_true rfl) (fun r9 J_37 hq9 => ?_)
              obtain ⟨z_37, rfl, hz_37, rfl, rfl⟩ := hq9
              refine tz_istore (pc := 40) (L2 := [_, _, _, _, _, _]) dX12_placeOf_40 (by decide) rfl ?_
              refine tz_iload_n (pc := 42) dX12_placeOf_42 rfl rfl ?_
              refine tz_iload (pc := 43) dX12_placeOf_43 rfl ?_
              refine tz_icmp_ge (pc := 45) (tgt := 61) dX12_placeOf_45 (by decide) (by omega) (by omega) (fun h_45 => ?_) (fun h_45 => ?_)
              · refine tz_iload_n (pc := 61) dX12_placeOf_61 rfl rfl ?_
                refine tz_iload (pc := 62) dX12_placeOf_62 rfl ?_
                refine tz_isub (pc := 64) (v := q - (msz J b d (J 167 (3 * (b + t) + i)))) dX12_placeOf_64 rfl ?_
                refine tz_istore_n (pc := 65) (L2 := [_, _, _, _, _, _]) dX12_placeOf_65 rfl (by decide) rfl ?_
                refine tz_iinc (pc := 66) (z := i + 1) (L2 := [_, _, _, _, _, _]) dX12_placeOf_66 rfl (by omega) rfl ?_
                refine tz_goto (pc := 69) (tgt := 19) dX12_placeOf_69 (by decide) ?_
                exact ih19 _ (i + 1) _ (by omega) (by omega) (by rw [tps_s (by omega)]; omega)
              · refine tz_aload_n (pc := 48) dX12_placeOf_48 rfl rfl ?_
                refine tz_aload_n (pc := 49) dX12_placeOf_49 rfl rfl ?_
                refine tz_iload_n (pc := 50) dX12_placeOf_50 rfl rfl ?_
                refine tz_iload (pc := 51) dX12_placeOf_51 rfl ?_
                refine tz_cV (pc := 53) (m_arg hl n _ _ _ (by omega) (by omega) b r d s m hM (by omega) (by omega)) vl_X12_88 dX12_placeOf_53 o_164 rfl rfl (Nat.le_of_ble_eq_true rfl) ⟨(show 0 + 1 ≤ 12 + 1 * (r9 + 1) by omega), (show 8 + (3 + 11) + 40 * (0) ≤ 40 * (12 + 1 * (r9 + 1)) by omega)⟩ rfl rfl (Nat.le_of_ble_eq_true rfl) (Nat.le_of_ble_eq_true rfl) (fun r9 J_53 hq9 => ?_)
                obtain ⟨z_53, rfl, hz_53, rfl, rfl⟩ := hq9
                refine tz_iload_n (pc := 56) dX12_placeOf_56 rfl rfl ?_
                refine tz_cV (pc := 57) (ih _ _ _ (by omega) (by omega) b r d s m hM (by omega) (by omega)) vl_X12_139 dX12_placeOf_57 o_164 rfl rfl (Nat.le_of_ble_eq_true rfl) ⟨(show (12 + 1 * r9) + 1 ≤ 12 + 1 * (r9 + 1) by omega), (show 8 + (6 + 11) + 40 * ((12 + 1 * r9)) ≤ 40 * (12 + 1 * (r9 + 1)) by omega)⟩ rfl rfl (Nat.le_of_ble_eq_true rfl) (Nat.le_of_ble_eq_true rfl) (fun r9 J_57 hq9 => ?_)
                obtain ⟨z_57, rfl, hz_57, rfl, hz1, hz3, hz2⟩ := hq9
                exact tz_iret (pc := 60) (z := z_57) dX12_placeOf_60 rfl (Nat.le_of_ble_eq_true rfl) (Nat.le_of_ble_eq_true rfl) ⟨Nat.le_refl _, Nat.le_add_right _ _⟩ ⟨_, rfl, (by omega), (by first | exact ⟨rfl, hz1, fun _ => ⟨by omega, by have a9 := tps_mo hM ht (i + 1).toNat ((mar J b d t).toNat - (i + 1).toNat) (by omega); rw [show (i + 1).toNat + ((mar J b d t).toNat - (i + 1).toNat) = (mar J b d t).toNat by omega, ← hu, tps_s (by omega)] at a9; omega⟩, fun _ _ => hz2 (by omega) (by omega)⟩ | exact ⟨rfl, by omega, fun _ => by omega, fun _ _ => by omega⟩ | exact ⟨rfl, Or.inl rfl, fun q9 => absurd q9 (by decide), fun _ w9 => by rw [hu, show (mar J b d t).toNat = i.toNat by omega] at w9; omega⟩)⟩
        exact loop19 _ _ 0 none (Nat.lt_succ_self _) (by omega) rfl
      · refine tz_iload_n (pc := 10) dX12_placeOf_10 rfl rfl ?_
        exact tz_iret (pc := 11) (z := t) dX12_placeOf_11 rfl (Nat.le_of_ble_eq_true rfl) (Nat.le_of_ble_eq_true rfl) ⟨Nat.le_refl _, Nat.le_add_right _ _⟩ ⟨_, rfl, (by omega), (by first | exact ⟨rfl, hz1, fun _ => ⟨by omega, by have a9 := tps_mo hM ht (i + 1).toNat ((mar J b d t).toNat - (i + 1).toNat) (by omega); rw [show (i + 1).toNat + ((mar J b d t).toNat - (i + 1).toNat) = (mar J b d t).toNat by omega, ← hu, tps_s (by omega)] at a9; omega⟩, fun _ _ => hz2 (by omega) (by omega)⟩ | exact ⟨rfl, by omega, fun _ => by omega, fun _ _ => by omega⟩ | exact ⟨rfl, Or.inl rfl, fun q9 => absurd q9 (by decide), fun _ w9 => by rw [hu, show (mar J b d t).toNat = i.toNat by omega] at w9; omega⟩)⟩
    · refine tz_iconst (pc := 4) dX12_placeOf_4 ?_
      exact tz_iret (pc := 5) (z := (-1)) dX12_placeOf_5 rfl (Nat.le_of_ble_eq_true rfl) (Nat.le_of_ble_eq_true rfl) ⟨Nat.le_refl _, Nat.le_add_right _ _⟩ ⟨_, rfl, (by decide), (by first | exact ⟨rfl, hz1, fun _ => ⟨by omega, by have a9 := tps_mo hM ht (i + 1).toNat ((mar J b d t).toNat - (i + 1).toNat) (by omega); rw [show (i + 1).toNat + ((mar J b d t).toNat - (i + 1).toNat) = (mar J b d t).toNat by omega, ← hu, tps_s (by omega)] at a9; omega⟩, fun _ _ => hz2 (by omega) (by omega)⟩ | exact ⟨rfl, by omega, fun _ => by omega, fun _ _ => by omega⟩ | exact ⟨rfl, Or.inl rfl, fun q9 => absurd q9 (by decide), fun _ w9 => by rw [hu, show (mar J b d t).toNat = i.toNat by omega] at w9; omega⟩)⟩

theorem o_place {l : Launch} {G : tb_G} (hl : l.stackTraces = false) (n : Nat) (J : zJ) (t p : Int) (hr_t : -2147483648 ≤ t ∧ t < 2147483648) (hr_p : -2147483648 ≤ p ∧ p < 2147483648) (b r d s m : Int) (hM : MS J b r d s m) (ht : 0 ≤ t ∧ t < m) : tz_Ok l G M_X12_placeOf 19 0 0 [.ref 164, zi t, zi p] n J (zqi (fun z J' => J = J' ∧ (z = -1 ∨ (0 ≤ z ∧ z < m)) ∧ (0 ≤ z → 0 ≤ p ∧ p < msz J b d t) ∧ (0 ≤ p → p < msz J b d t → 0 ≤ z))) zN := o_placeR hl n 7 J t p hr_t hr_p b r d s m hM ht (by have := (hM.ar ht).2.2.1; omega)
end
section
/-! ===== put of the reference, exact: the call ===== -/
theorem MOP.mgx {X : List Nat} {Jo Jb : zJ} {s m m' : Int} (hX : ∀ c, c ∈ X → 184 ≤ c) (g : MG X [] (fun _ => false) Jo Jb 0 0 0 s m m') : MOP Jo Jb m := by
  obtain ⟨g1, g2, ⟨f1, f2, f3, f4⟩, g4⟩ := g
  have f5 : ∀ c, 169 ≤ c → c < 172 → Jo c = Jb c := fun c a b => f4 c (by
    simp only [zbut, Bool.not_eq_true', List.contains_eq_mem, decide_eq_false_iff_not, List.mem_cons]
    intro q
    have := hX c
    rcases q with q | q | q | q | q | q
    · omega
    · omega
    · omega
    · omega
    · omega
    · have := this q; omega)
  refine ⟨⟨fun k a => f2 k (by omega) rfl, fun k a b => f1.1 k (by omega), fun k a b => f1.2 k (by omega), f3 12 rfl, f3 13 rfl⟩, fun k a => f2 k (by omega) rfl, ⟨f3 9 rfl, f3 10 rfl, f3 11 rfl⟩, fun t a b => ?_, fun k a b => ?_, fun k _ _ => ⟨by rw [f5 169 (by decide) (by decide)], by rw [f5 170 (by decide) (by decide)], by rw [f5 171 (by decide) (by decide)]⟩⟩
  · have := (g2 t a b).1
    rw [Int.zero_add] at this
    exact this
  · have := (g2 (k / 3) (by omega) (by omega)).2 (k % 3) (by omega) (by omega)
    rw [show 3 * (0 + k / 3) + k % 3 = k from by omega] at this
    exact this
set_option maxHeartbeats 4000000 in
set_option maxRecDepth 100000 in
theorem v_qput {l : Launch} {G : tb_G} (hl : l.stackTraces = false) (n : Nat) (J : zJ) (x : Int) (y : Int) (v : Int) (hr_x : -2147483648 ≤ x ∧ x < 2147483648) (hr_y : -2147483648 ≤ y ∧ y < 2147483648) (hr_v : -2147483648 ≤ v ∧ v < 2147483648) (m : Int) (pn : Int) (RR : Int → Int → Int) (hI : MI J m) (u9 : MUr J pn RR) (hn0 : 184 ≤ n) (hns : n + 7 < tb_sc) : tz_Ok l G M_X12_put 22 7 21 [.ref 164, zi x, zi y, zi v] n J (zqi (fun z J' => MQr J' J ∧ MFI J' J ∧ ((((0 ≤ x ∧ x < J 165 0) ∧ (0 ≤ v ∧ v < J 165 0) ∧ 0 ≤ y ∧ y < msz (tbz J) 0 0 x) ∧ MED (tbz J) pn RR (puO v 6 (tbz J) x y) J' z) ∨ (¬ ((0 ≤ x ∧ x < J 165 0) ∧ (0 ≤ v ∧ v < J 165 0) ∧ 0 ≤ y ∧ y < msz (tbz J) 0 0 x) ∧ z = -1 ∧ MBT J' (tbz J) ∧ MUr J' pn RR)))) zN := by
  refine tz_Ok.of hl (by decide +kernel) rfl (tb_c1 rfl) (Nat.le_of_ble_eq_true rfl) ?_
  show tz_At l G M_X12_put (tb_rm 22 7 21) none (tb_ZM G 7 21 (zQ n 7 (zqi (fun z J' => MQr J' J ∧ MFI J' J ∧ ((((0 ≤ x ∧ x < J 165 0) ∧ (0 ≤ v ∧ v < J 165 0) ∧ 0 ≤ y ∧ y < msz (tbz J) 0 0 x) ∧ MED (tbz J) pn RR (puO v 6 (tbz J) x y) J' z) ∨ (¬ ((0 ≤ x ∧ x < J 165 0) ∧ (0 ≤ v ∧ v < J 165 0) ∧ 0 ≤ y ∧ y < msz (tbz J) 0 0 x) ∧ z = -1 ∧ MBT J' (tbz J) ∧ MUr J' pn RR))))) (zX n 7 zN)) 0 0 n J 0 [some (.ref 164), some (zi x), some (zi y), some (zi v)] []
  have hT := hI.told
  have hW := hI.row
  have hM := hI.1
  have hL := hI.2.1
  have eS : (0 ≤ x ∧ x < J 165 0) → msz (tbz J) 0 0 x = msz J 0 0 x := fun h => (show msz (tbz J) 0 0 x = msz (tb0 J) 0 0 x from rfl).trans (msz_tb hM ⟨h.1, by omega⟩)
  refine tz_aload_n (pc := 0) dX12_put_0 rfl rfl ?_
  refine tz_iconst (pc := 1) dX12_put_1 ?_
  refine tz_pI (pc := 2) (kz := 8) dX12_put_2 fl_X12_68 i_164_8 rfl rfl (by decide) ?_
  refine tz_aload_n (pc := 5) dX12_put_5 rfl rfl ?_
  refine tz_iload_n (pc := 6) dX12_put_6 rfl rfl ?_
  refine tz_cV (pc := 7) (m_isTerm hl n _ _ (by omega) (by rw [(show ((zup J 164 8 0) : zJ) 165 0 = (J 165 0) from rfl)]; omega)) vl_X12_376 dX12_put_7 o_164 rfl rfl (Nat.le_of_ble_eq_true rfl) ⟨(Nat.le_of_ble_eq_true rfl), (Nat.le_of_ble_eq_true rfl)⟩ rfl rfl (Nat.le_of_ble_eq_true rfl) (Nat.le_of_ble_eq_true rfl) (fun r9 J_7 hq9 => ?_)
  obtain ⟨z_7, rfl, hz_7, rfl, ht_7⟩ := hq9
  rw [(show ((zup J 164 8 0) : zJ) 165 0 = (J 165 0) from rfl)] at ht_7
  refine tz_if_eq (pc := 10) (tgt := 31) dX12_put_10 (by decide) (by omega) (fun h_10 => ?_) (fun h_10 => ?_)
  · refine tz_aload_n (pc := 31) dX12_put_31 rfl rfl ?_
    refine tz_iconst (pc := 32) dX12_put_32 ?_
    refine tz_iconst (pc := 33) dX12_put_33 ?_
    refine tz_cV (pc := 34) (m_refuses hl n _ _ _ (by decide) (by decide) (by decide)) vl_X12_391 dX12_put_34 o_164 rfl rfl (Nat.le_of_ble_eq_true rfl) ⟨(Nat.le_of_ble_eq_true rfl), (Nat.le_of_ble_eq_true rfl)⟩ rfl rfl (Nat.le_of_ble_eq_true rfl) (Nat.le_of_ble_eq_true rfl) (fun r9 J_34 hq9 => ?_)
    obtain ⟨z_34, rfl, hz_34, rfl, f_34⟩ := hq9
    have y_34 : MZ J_34 J := MZ.tr (MZ.up (k := 8) MZ.rf (by decide)) (MZ.c f_34 (by decide))
    exact tz_iret (pc := 37) (z := (-1)) dX12_put_37 rfl (Nat.le_of_ble_eq_true rfl) (Nat.le_of_ble_eq_true rfl) ⟨Nat.le_refl _, Nat.le_add_right _ _⟩ ⟨_, rfl, (by decide), ⟨MQr.z hI y_34, MFI.z y_34, Or.inr ⟨fun h9 => by have e9 := eS h9.1; omega, rfl, MBT.z hI y_34, u9.z y_34⟩⟩⟩
  · refine tz_aload_n (pc := 13) dX12_put_13 rfl rfl ?_
    refine tz_iload_n (pc := 14) dX12_put_14 rfl rfl ?_
    refine tz_cV (pc := 15) (m_isTerm hl n _ _ (by omega) (by rw [(show ((zup J 164 8 0) : zJ) 165 0 = (J 165 0) from rfl)]; omega)) vl_X12_376 dX12_put_15 o_164 rfl rfl (Nat.le_of_ble_eq_true rfl) ⟨(Nat.le_of_ble_eq_true rfl), (Nat.le_of_ble_eq_true rfl)⟩ rfl rfl (Nat.le_of_ble_eq_true rfl) (Nat.le_of_ble_eq_true rfl) (fun r9 J_15 hq9 => ?_)
    obtain ⟨z_15, rfl, hz_15, rfl, ht_15⟩ := hq9
    rw [(show ((zup J 164 8 0) : zJ) 165 0 = (J 165 0) from rfl)] at ht_15
    refine tz_if_eq (pc := 18) (tgt := 31) dX12_put_18 (by decide) (by omega) (fun h_18 => ?_) (fun h_18 => ?_)
    · refine tz_aload_n (pc := 31) dX12_put_31 rfl rfl ?_
      refine tz_iconst (pc := 32) dX12_put_32 ?_
      refine tz_iconst (pc := 33) dX12_put_33 ?_
      refine tz_cV (pc := 34) (m_refuses hl n _ _ _ (by decide) (by decide) (by decide)) vl_X12_391 dX12_put_34 o_164 rfl rfl (Nat.le_of_ble_eq_true rfl) ⟨(Nat.le_of_ble_eq_true rfl), (Nat.le_of_ble_eq_true rfl)⟩ rfl rfl (Nat.le_of_ble_eq_true rfl) (Nat.le_of_ble_eq_true rfl) (fun r9 J_34 hq9 => ?_)
      obtain ⟨z_34, rfl, hz_34, rfl, f_34⟩ := hq9
      have y_34 : MZ J_34 J := MZ.tr (MZ.up (k := 8) MZ.rf (by decide)) (MZ.c f_34 (by decide))
      exact tz_iret (pc := 37) (z := (-1)) dX12_put_37 rfl (Nat.le_of_ble_eq_true rfl) (Nat.le_of_ble_eq_true rfl) ⟨Nat.le_refl _, Nat.le_add_right _ _⟩ ⟨_, rfl, (by decide), ⟨MQr.z hI y_34, MFI.z y_34, Or.inr ⟨fun h9 => by have e9 := eS h9.1; omega, rfl, MBT.z hI y_34, u9.z y_34⟩⟩⟩
    · refine tz_aload_n (pc := 21) dX12_put_21 rfl rfl ?_
      refine tz_iload_n (pc := 22) dX12_put_22 rfl rfl ?_
      refine tz_iload_n (pc := 23) dX12_put_23 rfl rfl ?_
      refine tz_cV (pc := 24) (o_place hl n _ _ _ (by omega) (by omega) 0 0 0 (J 164 9) m (hM.z (MZ.up (k := 8) MZ.rf (by decide))) (by omega) ) vl_X12_139 dX12_put_24 o_164 rfl rfl (Nat.le_of_ble_eq_true rfl) ⟨(Nat.le_of_ble_eq_true rfl), (Nat.le_of_ble_eq_true rfl)⟩ rfl rfl (Nat.le_of_ble_eq_true rfl) (Nat.le_of_ble_eq_true rfl) (fun r9 J_24 hq9 => ?_)
      obtain ⟨z_24, rfl, hz_24, rfl, hy1_24, hy2_24, hy3_24⟩ := hq9
      have hy4_24 : 0 ≤ z_24 → 0 ≤ y ∧ y < msz J 0 0 x := hy2_24
      have hy5_24 : 0 ≤ y → y < msz J 0 0 x → 0 ≤ z_24 := hy3_24
      refine tz_iconst (pc := 27) dX12_put_27 ?_
      refine tz_icmp_ne (pc := 28) (tgt := 38) dX12_put_28 (by decide) (by omega) (by decide) (fun h_28 => ?_) (fun h_28 => ?_)
      · refine tz_aload_n (pc := 38) dX12_put_38 rfl rfl ?_
        refine tz_cV (pc := 39) (m_begins hl n _) vl_X12_400 dX12_put_39 o_164 rfl rfl (Nat.le_of_ble_eq_true rfl) ⟨(Nat.le_of_ble_eq_true rfl), (Nat.le_of_ble_eq_true rfl)⟩ rfl rfl (Nat.le_of_ble_eq_true rfl) (Nat.le_of_ble_eq_true rfl) (fun r9 J_39 hq9 => ?_)
        obtain ⟨rfl, hj_39⟩ := hq9
        have a_39 : AM J_39 J m m := by rw [← hj_39]; exact AM.begin (hI.z (MZ.up (k := 8) MZ.rf (by decide))) ⟨MZ.lo (MZ.up (k := 8) MZ.rf (by decide)), SC.z (MZ.up (k := 8) MZ.rf (by decide))⟩
        have br_39 : ∀ k, (k < 63 ∨ 126 ≤ k) → J_39 165 k = ((zup J 164 8 0) : zJ) 165 k := fun k hk => by rw [← hj_39]; exact zbg_r hk
        have bl_39 : ∀ k, ¬ k = 34 → ¬ k = 33 → ¬ k = 21 → J_39 164 k = ((zup J 164 8 0) : zJ) 164 k := fun k u v w => by rw [← hj_39]; exact zbg_f u v w
        have bo_39 : zOf (zbut [164, 165]) J_39 (zup J 164 8 0) := by rw [← hj_39]; exact zbg_of
        have b3_39 : J_39 164 21 = 0 ∧ J_39 164 33 = 0 ∧ J_39 164 34 = 0 := by rw [← hj_39]; exact ⟨rfl, rfl, rfl⟩
        have s9_39 : J_39 164 9 = J 164 9 := (bl_39 9 (by decide) (by decide) (by decide)).trans ((MZ.up (k := 8) MZ.rf (by decide)).2 9 (by decide) (by decide))
        obtain ⟨⟨bt_39, bs_39, bm_39, ba_39⟩, bu_39, bn_39, bf_39, bi_39⟩ := mbeg hI (MZ.up (k := 8) MZ.rf (by decide)) hj_39 u9
        refine tz_aload_n (pc := 42) dX12_put_42 rfl rfl ?_
        refine tz_aload_n (pc := 43) dX12_put_43 rfl rfl ?_
        refine tz_iload_n (pc := 44) dX12_put_44 rfl rfl ?_
        refine tz_iload_n (pc := 45) dX12_put_45 rfl rfl ?_
        refine tz_iload_n (pc := 46) dX12_put_46 rfl rfl ?_
        have mz9 : msz J_39 0 0 x = msz J 0 0 x := by rw [← msz_tb (a_39).1.1 (by omega), bt_39]; exact eS (by omega)
        refine tz_cVX (pc := 47) (o_withPut hl n _ _ _ _ (by omega) (by omega) (by omega) (J_39 164 9) m (a_39).1.1 rfl (by omega) (by omega) (by omega) (by omega) hn0 hns) vl_X12_419 dX12_put_47 o_164 rfl rfl (Nat.le_of_ble_eq_true rfl) ⟨(Nat.le_of_ble_eq_true rfl), (Nat.le_of_ble_eq_true rfl)⟩ rfl rfl (show 0 + 7 ≤ 7 by omega) (show 0 + 21 ≤ 21 by omega) (fun r8 n_47 J_47 hn1_47 hn2_47 hq9 => ?_) (fun E9 n_47 J_47 hn1_47 hn2_47 hx9 => hx9.elim)
        obtain ⟨z_47, rfl, hz_47, m_47, g_47, h_47, x_47⟩ := hq9
        have a_47 := AM.grow0 a_39 g_47 (fun c hc => by simp only [List.mem_range'_1] at hc; omega) (fun k x y => by simp; omega) rfl
        have d9 := ((a_39).1.1.ar (t := x) (by omega)).2.2.1
        have e_47 := x_47 6 d9.2
        rw [bt_39] at e_47
        refine tz_cV (pc := 50) (m_keeps hl n_47 _ _ (by omega) (a_47).2.2.2.1.1.1 (a_47).2.2.2.1.1.2) vl_X12_403 dX12_put_50 o_164 rfl rfl (Nat.le_of_ble_eq_true rfl) ⟨(Nat.le_of_ble_eq_true rfl), (Nat.le_of_ble_eq_true rfl)⟩ rfl rfl (show 0 + 7 ≤ 7 by omega) (show 0 + 21 ≤ 21 by omega) (fun r9 J_50 hq9 => ?_)
        obtain ⟨z_50, rfl, hz_50, k_50⟩ := hq9
        exact tz_iret (pc := 53) (z := z_50) dX12_put_53 rfl (by omega) (by omega) ⟨by omega, by omega⟩ ⟨_, rfl, (by omega), (AE (AM.keep a_47 k_50) bi_39 (mact_end (F := puO v 6 (tbz J) x y) bt_39 bs_39 bm_39 ba_39 bu_39 bn_39 bf_39 (MOP.mgx (fun c hc => by simp only [List.mem_range'_1] at hc; omega) g_47) (congrArg Prod.fst e_47) (by rw [← congrArg Prod.fst e_47]; show J_47 165 0 ≤ 400; have t9 := g_47.1.1.told; have s9 := g_47.1.1.2.2.2.2.1; omega) (fun _ => congrArg Prod.snd e_47) k_50) (by have e9 := eS (by omega); omega))⟩
      · refine tz_aload_n (pc := 31) dX12_put_31 rfl rfl ?_
        refine tz_iconst (pc := 32) dX12_put_32 ?_
        refine tz_iconst (pc := 33) dX12_put_33 ?_
        refine tz_cV (pc := 34) (m_refuses hl n _ _ _ (by decide) (by decide) (by decide)) vl_X12_391 dX12_put_34 o_164 rfl rfl (Nat.le_of_ble_eq_true rfl) ⟨(Nat.le_of_ble_eq_true rfl), (Nat.le_of_ble_eq_true rfl)⟩ rfl rfl (Nat.le_of_ble_eq_true rfl) (Nat.le_of_ble_eq_true rfl) (fun r9 J_34 hq9 => ?_)
        obtain ⟨z_34, rfl, hz_34, rfl, f_34⟩ := hq9
        have y_34 : MZ J_34 J := MZ.tr (MZ.up (k := 8) MZ.rf (by decide)) (MZ.c f_34 (by decide))
        exact tz_iret (pc := 37) (z := (-1)) dX12_put_37 rfl (Nat.le_of_ble_eq_true rfl) (Nat.le_of_ble_eq_true rfl) ⟨Nat.le_refl _, Nat.le_add_right _ _⟩ ⟨_, rfl, (by decide), ⟨MQr.z hI y_34, MFI.z y_34, Or.inr ⟨fun h9 => by have e9 := eS h9.1; omega, rfl, MBT.z hI y_34, u9.z y_34⟩⟩⟩

end
section
/-! ===== what two terms have in common, as functions ===== -/
/-- where a couple stands; the list's length, if it doesn't -/
def cix : List (Int × Int) → Int → Int → Int
  | [], _, _ => 0
  | p :: L, s, t => if p.1 = s ∧ p.2 = t then 0 else 1 + cix L s t
theorem cix_ap : ∀ (L M : List (Int × Int)) (s t : Int), cix L s t < L.length → cix (L ++ M) s t = cix L s t
  | [], _, _, _, h => absurd h (by unfold cix; simp)
  | p :: L, M, s, t, h => by
    rw [List.cons_append]
    unfold cix at h ⊢
    rw [List.length_cons] at h
    by_cases q : p.1 = s ∧ p.2 = t
    · rw [if_pos q, if_pos q]
    · rw [if_neg q] at h ⊢
      rw [if_neg q, cix_ap L M s t (by omega)]
theorem cix_nw : ∀ (L M : List (Int × Int)) (s t : Int), ¬ cix L s t < L.length → cix (L ++ [(s, t)] ++ M) s t = cix L s t
  | [], M, s, t, _ => by
    show (if s = s ∧ t = t then (0 : Int) else _) = 0
    rw [if_pos ⟨rfl, rfl⟩]
  | p :: L, M, s, t, h => by
    rw [List.cons_append, List.cons_append]
    unfold cix at h ⊢
    rw [List.length_cons] at h
    by_cases q : p.1 = s ∧ p.2 = t
    · rw [if_pos q] at h; omega
    · rw [if_neg q] at h ⊢
      rw [if_neg q, cix_nw L M s t (by omega)]
theorem cix_mem : ∀ (L : List (Int × Int)) (s t : Int), cix L s t < L.length → (s, t) ∈ L
  | [], _, _, h => absurd h (by unfold cix; simp)
  | p :: L, s, t, h => by
    unfold cix at h
    rw [List.length_cons] at h
    by_cases q : p.1 = s ∧ p.2 = t
    · obtain ⟨a, b⟩ := p
      obtain ⟨rfl, rfl⟩ := q
      exact List.mem_cons_self
    · rw [if_neg q] at h
      exact List.mem_cons_of_mem _ (cix_mem L s t (by omega))
/-- the couples of two rows -/
def cLo (a b : Int → Int) : Int → List (Int × Int) → Prop
  | _, [] => True
  | o, p :: L => (a o = p.1 ∧ b o = p.2) ∧ cLo a b (o + 1) L
theorem cLo_ix {a b : Int → Int} : ∀ (L : List (Int × Int)) (o z s t : Int), cLo a b o L → o ≤ z → z < o + L.length → (a z = s ∧ b z = t) → (∀ i, o ≤ i → i < z → ¬ (a i = s ∧ b i = t)) → cix L s t = z - o
  | [], o, z, _, _, _, h1, h2, _, _ => by
    rw [List.length_nil] at h2
    omega
  | p :: L, o, z, s, t, h, h1, h2, h3, h4 => by
    obtain ⟨⟨ha, hb⟩, h⟩ := h
    rw [List.length_cons] at h2
    unfold cix
    by_cases e : z = o
    · subst e
      rw [if_pos (by omega)]
      omega
    · have := h4 o (by omega) (by omega)
      rw [if_neg (by omega), cLo_ix L (o + 1) z s t h (by omega) (by omega) h3 (fun i a b => h4 i (by omega) b)]
      omega
theorem cLo_no {a b : Int → Int} : ∀ (L : List (Int × Int)) (o s t : Int), cLo a b o L → (∀ i, o ≤ i → i < o + L.length → ¬ (a i = s ∧ b i = t)) → cix L s t = L.length
  | [], _, _, _, _, _ => rfl
  | p :: L, o, s, t, h, h4 => by
    obtain ⟨⟨ha, hb⟩, h⟩ := h
    rw [List.length_cons] at h4 ⊢
    unfold cix
    have := h4 o (by omega) (by omega)
    rw [if_neg (by omega), cLo_no L (o + 1) s t h (fun i a b => h4 i (by omega) (by omega))]
    omega
theorem cLo_cg {a b a' b' : Int → Int} : ∀ (L : List (Int × Int)) (o : Int), (∀ i, o ≤ i → i < o + L.length → a' i = a i ∧ b' i = b i) → cLo a b o L → cLo a' b' o L
  | [], _, _, _ => trivial
  | p :: L, o, e, h => by
    obtain ⟨⟨ha, hb⟩, h⟩ := h
    rw [List.length_cons] at e
    have := e o (by omega) (by omega)
    exact ⟨⟨by omega, by omega⟩, cLo_cg L (o + 1) (fun i a b => e i (by omega) (by omega)) h⟩
theorem cLo_ap {a b : Int → Int} : ∀ (L M : List (Int × Int)) (o : Int), cLo a b o L → cLo a b (o + L.length) M → cLo a b o (L ++ M)
  | [], M, o, _, g => by
    have e : o + (([] : List (Int × Int)).length : Int) = o := by rw [List.length_nil]; omega
    rw [e] at g
    exact g
  | p :: L, M, o, h, g => by
    obtain ⟨h0, h⟩ := h
    rw [List.length_cons] at g
    exact ⟨h0, cLo_ap L M (o + 1) h (by rw [show o + 1 + (L.length : Int) = o + ((L.length + 1 : Nat) : Int) from by omega]; exact g)⟩
/-- one more couple, if it isn't there; false, if there is no room -/
def cad (L : List (Int × Int)) (s t : Int) : List (Int × Int) × Bool := if cix L s t < L.length then (L, true) else if L.length < 8 then (L ++ [(s, t)], true) else (L, false)
theorem cad_ix {L K : List (Int × Int)} {s t : Int} (h : cad L s t = (K, true)) (M : List (Int × Int)) : cix (K ++ M) s t = cix L s t := by
  unfold cad at h
  by_cases q : cix L s t < L.length
  · rw [if_pos q] at h
    rw [← (Prod.mk.inj h).1]
    exact cix_ap L M s t q
  · rw [if_neg q] at h
    by_cases r : L.length < 8
    · rw [if_pos r] at h
      rw [← (Prod.mk.inj h).1]
      exact cix_nw L M s t q
    · rw [if_neg r] at h
      exact absurd (Prod.mk.inj h).2 (by decide)
/-- the arguments' couples, one argument after the other -/
def stg (T : List (Int × Int) → Int → List (Int × Int) × Bool) (L : List (Int × Int)) (A : Int) : Nat → List (Int × Int) × Bool
  | 0 => (L, true)
  | i + 1 => if (stg T L A i).2 = true ∧ (i : Int) < A then T (stg T L A i).1 i else stg T L A i
theorem stg_s {T : List (Int × Int) → Int → List (Int × Int) × Bool} {L : List (Int × Int)} {A : Int} {i : Nat} : stg T L A (i + 1) = if (stg T L A i).2 = true ∧ (i : Int) < A then T (stg T L A i).1 i else stg T L A i := rfl
theorem stg_e {T : List (Int × Int) → Int → List (Int × Int) × Bool} {L : List (Int × Int)} {A : Int} {i : Nat} (h : (stg T L A i).2 = false ∨ A ≤ i) : ∀ j : Nat, stg T L A (i + j) = stg T L A i
  | 0 => rfl
  | j + 1 => by
    rw [show i + (j + 1) = (i + j) + 1 from rfl, stg_s, stg_e h j, if_neg]
    rcases h with h | h
    · rw [h]; simp
    · omega
def cpO : Nat → zJ → List (Int × Int) → Int → Int → List (Int × Int) × Bool
  | 0, _, L, _, _ => (L, false)
  | k + 1, S, L, s, t => if S 166 (0 + s) < 0 ∨ ¬ S 166 (0 + s) = S 166 (0 + t) then cad L s t else stg (fun M i => cpO k S M (S 167 (3 * (0 + s) + i)) (S 167 (3 * (0 + t) + i))) L (oar S (S 166 (0 + s))) 3
theorem cpO_s {k : Nat} {S : zJ} {L : List (Int × Int)} {s t : Int} : cpO (k + 1) S L s t = if S 166 (0 + s) < 0 ∨ ¬ S 166 (0 + s) = S 166 (0 + t) then cad L s t else stg (fun M i => cpO k S M (S 167 (3 * (0 + s) + i)) (S 167 (3 * (0 + t) + i))) L (oar S (S 166 (0 + s))) 3 := rfl
/-- the couples of the arguments -/
def cT (k : Nat) (S : zJ) (s t : Int) : List (Int × Int) → Int → List (Int × Int) × Bool := fun M i => cpO k S M (S 167 (3 * (0 + s) + i)) (S 167 (3 * (0 + t) + i))
/-- more of it -/
def pfx (L K : List (Int × Int)) : Prop := ∃ M, K = L ++ M
theorem pfx.rf {L : List (Int × Int)} : pfx L L := ⟨[], (List.append_nil L).symm⟩
theorem pfx.tr {L K N : List (Int × Int)} (h : pfx L K) (g : pfx K N) : pfx L N := by
  obtain ⟨A, rfl⟩ := h
  obtain ⟨B, rfl⟩ := g
  exact ⟨A ++ B, List.append_assoc L A B⟩
theorem cad_p {L : List (Int × Int)} {s t : Int} : pfx L (cad L s t).1 := by
  unfold cad
  (repeat' split) <;> first | exact pfx.rf | exact ⟨_, rfl⟩
theorem stg_p {T : List (Int × Int) → Int → List (Int × Int) × Bool} {L : List (Int × Int)} {A : Int} (hT : ∀ M i, pfx M (T M i).1) : ∀ i, pfx L (stg T L A i).1
  | 0 => pfx.rf
  | i + 1 => by
    rw [stg_s]
    split
    · exact (stg_p hT i).tr (hT _ _)
    · exact stg_p hT i
theorem cpO_p : ∀ (k : Nat) (S : zJ) (L : List (Int × Int)) (s t : Int), pfx L (cpO k S L s t).1
  | 0, _, _, _, _ => pfx.rf
  | k + 1, S, L, s, t => by
    rw [cpO_s]
    split
    · exact cad_p
    · exact stg_p (fun M i => cpO_p k S M _ _) 3
/-- all couples are unlike ones, or variables -/
def cok (S : zJ) (m : Int) (L : List (Int × Int)) : Prop := ∀ p, p ∈ L → (0 ≤ p.1 ∧ p.1 < m) ∧ (0 ≤ p.2 ∧ p.2 < m) ∧ (S 166 (0 + p.1) < 0 ∨ ¬ S 166 (0 + p.1) = S 166 (0 + p.2))
/-- the table's arguments are terms -/
def tcl (S : zJ) (m : Int) : Prop := ∀ t i, (0 ≤ t ∧ t < m) → 0 ≤ i → i < oar S (S 166 (0 + t)) → i < 3 ∧ 0 ≤ S 167 (3 * (0 + t) + i) ∧ S 167 (3 * (0 + t) + i) < m
theorem stg_k {P : List (Int × Int) → Prop} {T : List (Int × Int) → Int → List (Int × Int) × Bool} {L : List (Int × Int)} {A : Int} (h0 : P L) (hT : ∀ M i, 0 ≤ i → i < A → P M → P (T M i).1) : ∀ i, P (stg T L A i).1
  | 0 => h0
  | i + 1 => by
    rw [stg_s]
    split
    · next q => exact hT _ _ (by omega) q.2 (stg_k h0 hT i)
    · exact stg_k h0 hT i
theorem cpO_k {S : zJ} {m : Int} (hc : tcl S m) : ∀ (k : Nat) (L : List (Int × Int)) (s t : Int), (0 ≤ s ∧ s < m) → (0 ≤ t ∧ t < m) → cok S m L → cok S m (cpO k S L s t).1
  | 0, _, _, _, _, _, h => h
  | k + 1, L, s, t, hs, ht, h => by
    rw [cpO_s]
    by_cases q : S 166 (0 + s) < 0 ∨ ¬ S 166 (0 + s) = S 166 (0 + t)
    · rw [if_pos q]
      unfold cad
      by_cases q1 : cix L s t < L.length
      · rw [if_pos q1]; exact h
      · rw [if_neg q1]
        by_cases q2 : L.length < 8
        · rw [if_pos q2]
          intro p hp
          rcases List.mem_append.1 hp with hp | hp
          · exact h p hp
          · rw [List.mem_singleton.1 hp]
            exact ⟨hs, ht, q⟩
        · rw [if_neg q2]; exact h
    · rw [if_neg q]
      have e : S 166 (0 + s) = S 166 (0 + t) := by omega
      exact stg_k (P := cok S m) h (fun M i a b hM => cpO_k hc k M _ _ (hc s i hs a b).2 (hc t i ht a (by rw [← e]; exact b)).2 hM) 3
theorem stg_cg {T' T : List (Int × Int) → Int → List (Int × Int) × Bool} {L : List (Int × Int)} {A : Int} (hT : ∀ M i, 0 ≤ i → i < A → T' M i = T M i) : ∀ i, stg T' L A i = stg T L A i
  | 0 => rfl
  | i + 1 => by
    rw [stg_s, stg_s, stg_cg hT i]
    by_cases q : (stg T L A i).2 = true ∧ (i : Int) < A
    · rw [if_pos q, if_pos q, hT _ _ (by omega) q.2]
    · rw [if_neg q, if_neg q]
theorem cpO_cg {S' S : zJ} {m : Int} (hc : tcl S m) (h6 : ∀ t, 0 ≤ t → t < m → S' 166 (0 + t) = S 166 (0 + t)) (h7 : ∀ t i, 0 ≤ t → t < m → 0 ≤ i → i < 3 → S' 167 (3 * (0 + t) + i) = S 167 (3 * (0 + t) + i)) (h0 : ∀ k, S' 170 k = S 170 k) : ∀ (k : Nat) (L : List (Int × Int)) (s t : Int), (0 ≤ s ∧ s < m) → (0 ≤ t ∧ t < m) → cpO k S' L s t = cpO k S L s t
  | 0, _, _, _, _, _ => rfl
  | k + 1, L, s, t, hs, ht => by
    rw [cpO_s, cpO_s, h6 s hs.1 hs.2, h6 t ht.1 ht.2]
    by_cases q : S 166 (0 + s) < 0 ∨ ¬ S 166 (0 + s) = S 166 (0 + t)
    · rw [if_pos q, if_pos q]
    · rw [if_neg q, if_neg q]
      have e : S 166 (0 + s) = S 166 (0 + t) := by omega
      have eA : oar S' (S 166 (0 + s)) = oar S (S 166 (0 + s)) := by
        unfold oar
        exact arh_cg (fun _ => h0 _)
      rw [eA]
      refine stg_cg (fun M i a b => ?_) 3
      have c1 := hc s i hs a b
      have c2 := hc t i ht a (by rw [← e]; exact b)
      rw [h7 s i hs.1 hs.2 a c1.1, h7 t i ht.1 ht.2 a c1.1]
      exact cpO_cg hc h6 h7 h0 k M _ _ c1.2 c2.2
end
section
/-! ===== a term whose arguments are made one after the other ===== -/
def gA (T : zJ → Int → zJ × Int) (G : zJ) (A i : Int) : zJ × Int := if i < A then T G i else (G, 0)
def gst (T : zJ → Int → zJ × Int) (G : zJ) (A : Int) : Nat → zJ × Int
  | 0 => (G, 0)
  | i + 1 => gA T (gst T G A i).1 A i
theorem gst_s {T : zJ → Int → zJ × Int} {G : zJ} {A : Int} {i : Nat} : gst T G A (i + 1) = gA T (gst T G A i).1 A i := rfl
noncomputable def gR (T : zJ → Int → zJ × Int) (G : zJ) (h : Int) : zJ × Int := tmO (gst T G (oar G h) 3).1 h (gst T G (oar G h) 1).2 (gst T G (oar G h) 2).2 (gst T G (oar G h) 3).2
theorem gA_f {T : zJ → Int → zJ × Int} (hT : ∀ S i, ¬ S 164 21 = 0 → ¬ (T S i).1 164 21 = 0) {G : zJ} {A i : Int} (h : ¬ G 164 21 = 0) : ¬ (gA T G A i).1 164 21 = 0 := by
  unfold gA
  split
  · exact hT _ _ h
  · exact h
theorem gst_f {T : zJ → Int → zJ × Int} (hT : ∀ S i, ¬ S 164 21 = 0 → ¬ (T S i).1 164 21 = 0) {G : zJ} {A : Int} {i : Nat} (h : ¬ (gst T G A i).1 164 21 = 0) : ∀ j, ¬ (gst T G A (i + j)).1 164 21 = 0
  | 0 => h
  | j + 1 => gA_f hT (gst_f hT h j)
theorem gR_f {T : zJ → Int → zJ × Int} {G : zJ} {h : Int} (q : ¬ (gst T G (oar G h) 3).1 164 21 = 0) : ¬ (gR T G h).1 164 21 = 0 := by
  unfold gR
  rw [tmO_f q]; exact q
theorem gg_st {T : zJ → Int → zJ × Int} {G J1 J : zJ} {A i z : Int} (hG : G 164 21 = 0) (E : A0 J G) (h : (i < A ∧ (∀ S, S 164 21 = 0 → A0 J S → EXO (T S i) z J1)) ∨ (¬ i < A ∧ J1 = J)) : (i < A ∧ z = -3 ∧ ¬ (gA T G A i).1 164 21 = 0) ∨ SGE (gA T G A i) J1 z A i := by
  unfold gA
  rcases h with ⟨h1, h2⟩ | ⟨h1, h2⟩
  · rw [if_pos h1]
    rcases h2 G hG E with ⟨q1, q2⟩ | ⟨q1, q2, q3, q4⟩
    · exact Or.inl ⟨h1, q1, q2⟩
    · exact Or.inr ⟨q2, q3, fun _ => ⟨q1, q4⟩⟩
  · rw [if_neg h1, h2]
    exact Or.inr ⟨hG, E, fun q => absurd q h1⟩
/-- what an argument's call tells (or that there is none) -/
def ARX (X : List Nat) (T : zJ → Int → zJ × Int) (J1 J : zJ) (A i z m m1 : Int) : Prop := (i < A ∧ GX X J1 J m m1 ∧ (z = -3 ∨ (0 ≤ z ∧ z < m1)) ∧ (∀ S, S 164 21 = 0 → A0 J S → EXO (T S i) z J1)) ∨ (¬ i < A ∧ J1 = J ∧ m1 = m)
theorem ARX.gr {X : List Nat} {T : zJ → Int → zJ × Int} {J1 J : zJ} {A i z m m1 : Int} (a : ARX X T J1 J A i z m m1) (C : CT J m) (hm : J 6 12 = m) : GX X J1 J m m1 := by
  rcases a with ⟨_, g, _⟩ | ⟨_, e, e'⟩
  · exact g
  · rw [e, e']; exact GX.rf C hm
theorem gp_end {X : List Nat} (hX : zbut (6 :: 7 :: 8 :: 9 :: 10 :: 11 :: 12 :: 13 :: 14 :: 15 :: 16 :: 17 :: X) 1 = true ∧ zbut (6 :: 7 :: 8 :: 9 :: 10 :: 11 :: 12 :: 13 :: 14 :: 15 :: 16 :: 17 :: X) 3 = true) {T : zJ → Int → zJ × Int} (hT : ∀ S i, ¬ S 164 21 = 0 → ¬ (T S i).1 164 21 = 0) {G J J0 J1 J2 J' : zJ} {h A m m0 m1 m2 z0 z1 z2 z : Int} (hG : G 164 21 = 0) (E : A0 J G) (C : CT J m) (hm : J 6 12 = m) (hh : -8 ≤ h ∧ h < J 1 3) (hA : arh (J 3) h = A) (a0 : ARX X T J0 J A 0 z0 m m0) (a1 : ARX X T J1 J0 A 1 z1 m0 m1) (a2 : ARX X T J2 J1 A 2 z2 m1 m2) (p : madeP J2 m2 h z0 z1 z2 z J') : EXO (gR T G h) z J' := by
  have g0 := a0.gr C hm
  have g1 := a1.gr g0.2.1 g0.2.2.1
  have g2 := a2.gr g1.2.1 g1.2.2.1
  have g20 := (g0.tr g1).tr g2
  have l0 := g0.1
  have l1 := g1.1
  have l2 := g2.1
  have eA : oar G h = A := (E.ar hh.2).trans hA
  have e3 : J2 3 = J 3 := g20.2.2.2.2 3 hX.2
  have e1 : J2 1 = J 1 := g20.2.2.2.2 1 hX.1
  have ea : arh (J2 3) h = A := by rw [e3, hA]
  have st0 : (0 < A ∧ z0 = -3 ∧ ¬ (gst T G A 1).1 164 21 = 0) ∨ SGE (gst T G A 1) J0 z0 A 0 := gg_st (T := T) (J1 := J0) (z := z0) (i := 0) hG E (a0.imp (fun q => ⟨q.1, q.2.2.2⟩) (fun q => ⟨q.1, q.2.1⟩))
  have st1 : ((0 < A ∧ z0 = -3) ∨ (1 < A ∧ z1 = -3)) ∧ ¬ (gst T G A 2).1 164 21 = 0 ∨ (SGE (gst T G A 1) J0 z0 A 0 ∧ SGE (gst T G A 2) J1 z1 A 1) := by
    rcases st0 with ⟨q1, q2, q3⟩ | q
    · exact Or.inl ⟨Or.inl ⟨q1, q2⟩, gA_f hT q3⟩
    · rcases gg_st (T := T) (J1 := J1) (z := z1) (i := 1) q.1 q.2.1 (a1.imp (fun q => ⟨q.1, q.2.2.2⟩) (fun q => ⟨q.1, q.2.1⟩)) with ⟨r1, r2, r3⟩ | r
      · exact Or.inl ⟨Or.inr ⟨r1, r2⟩, r3⟩
      · exact Or.inr ⟨q, r⟩
  have st2 : ((0 < A ∧ z0 = -3) ∨ (1 < A ∧ z1 = -3) ∨ (2 < A ∧ z2 = -3)) ∧ ¬ (gst T G A 3).1 164 21 = 0 ∨ (SGE (gst T G A 1) J0 z0 A 0 ∧ SGE (gst T G A 2) J1 z1 A 1 ∧ SGE (gst T G A 3) J2 z2 A 2) := by
    rcases st1 with ⟨q1, q3⟩ | ⟨q0, q⟩
    · exact Or.inl ⟨q1.imp id Or.inl, gA_f hT q3⟩
    · rcases gg_st (T := T) (J1 := J2) (z := z2) (i := 2) q.1 q.2.1 (a2.imp (fun q => ⟨q.1, q.2.2.2⟩) (fun q => ⟨q.1, q.2.1⟩)) with ⟨r1, r2, r3⟩ | r
      · exact Or.inl ⟨Or.inr (Or.inr ⟨r1, r2⟩), r3⟩
      · exact Or.inr ⟨q0, q, r⟩
  unfold gR
  rw [eA]
  rcases st2 with ⟨q1, q2⟩ | ⟨q0, q1, q2⟩
  · refine Or.inl ⟨made_neg p (fun k => ?_), ?_⟩
    · rw [ea] at k
      obtain ⟨k0, k1, k2⟩ := k
      rcases q1 with ⟨u, v⟩ | ⟨u, v⟩ | ⟨u, v⟩
      · have := k0 u; omega
      · have := k1 u; omega
      · have := k2 u; omega
    · rw [tmO_f q2]; exact q2
  · have b0 : 0 < A → 0 ≤ z0 ∧ z0 < m2 := fun u => by
      have r := q0.2.2 u
      rcases a0 with ⟨_, _, w, _⟩ | ⟨w, _⟩
      · omega
      · omega
    have b1 : 1 < A → 0 ≤ z1 ∧ z1 < m2 := fun u => by
      have r := q1.2.2 u
      rcases a1 with ⟨_, _, w, _⟩ | ⟨w, _⟩
      · omega
      · omega
    have b2 : 2 < A → 0 ≤ z2 ∧ z2 < m2 := fun u => by
      have r := q2.2.2 u
      rcases a2 with ⟨_, _, w, _⟩ | ⟨w, _⟩
      · omega
      · omega
    have := q2.2.1.made q2.1 g2.2.1 g2.2.2.1 (h := h) (a := z0) (b := z1) (c := z2) (x := (gst T G A 1).2) (y := (gst T G A 2).2) (w := (gst T G A 3).2) (by rw [e1]; exact hh) (by rw [ea]; exact ⟨fun u => (q0.2.2 u).2, fun u => (q1.2.2 u).2, fun u => (q2.2.2 u).2⟩) (by rw [ea]; exact ⟨b0, b1, b2⟩) p
    exact this.imp (fun u => ⟨u.1.2, u.2⟩) id
/-- what two terms have in common, by a list of all couples -/
noncomputable def coO (L : List (Int × Int)) : Nat → zJ → Int → Int → zJ × Int
  | 0, G, _, _ => (zup G 164 21 1, 0)
  | k + 1, G, s, t => if G 164 21 = 0 then (if G 166 (0 + s) < 0 ∨ ¬ G 166 (0 + s) = G 166 (0 + t) then tmO G (-1 - cix L s t) 0 0 0 else gR (fun H i => coO L k H (H 167 (3 * (0 + s) + i)) (H 167 (3 * (0 + t) + i))) G (G 166 (0 + s))) else (G, 0)
theorem coO_s {L : List (Int × Int)} {k : Nat} {G : zJ} {s t : Int} : coO L (k + 1) G s t = if G 164 21 = 0 then (if G 166 (0 + s) < 0 ∨ ¬ G 166 (0 + s) = G 166 (0 + t) then tmO G (-1 - cix L s t) 0 0 0 else gR (fun H i => coO L k H (H 167 (3 * (0 + s) + i)) (H 167 (3 * (0 + t) + i))) G (G 166 (0 + s))) else (G, 0) := rfl
theorem coO_f {L : List (Int × Int)} {k : Nat} {G : zJ} {s t : Int} (h : ¬ G 164 21 = 0) : ¬ (coO L k G s t).1 164 21 = 0 := by
  cases k with
  | zero => show ¬ (1 : Int) = 0; decide
  | succ k => rw [coO_s, if_neg h]; exact h
theorem coO_5 {L : List (Int × Int)} : ∀ (k : Nat) (S : zJ) (s t q : Int), ¬ q = 0 → (coO L k S s t).1 165 q = S 165 q
  | 0, _, _, _, _, _ => rfl
  | k + 1, S, s, t, q, h => by
    have a : ∀ i, (gst (fun H i => coO L k H (H 167 (3 * (0 + s) + i)) (H 167 (3 * (0 + t) + i))) S (oar S (S 166 (0 + s))) i).1 165 q = S 165 q := fun i => by
      induction i with
      | zero => rfl
      | succ i ih =>
        rw [gst_s]
        unfold gA
        split
        · rw [← ih]; exact coO_5 k _ _ _ q h
        · exact ih
    rw [coO_s]
    split
    · split
      · rw [tmO_5 h]
      · unfold gR
        rw [tmO_5 h, a]
    · rfl
end
