/-! ===== put of the class, exact ===== -/
theorem x_put7 {l : Launch} {G : tb_G} (hl : l.stackTraces = false) (n : Nat) (J : zJ) (t p x : Int) (hr_t : -2147483648 ≤ t ∧ t < 2147483648) (hr_p : -2147483648 ≤ p ∧ p < 2147483648) (hr_x : -2147483648 ≤ x ∧ x < 2147483648) (m : Int) (C : CT J m) (hm : J 6 12 = m) (ht : 0 ≤ t ∧ t < m) (hp : p < J 10 t) (ho : 0 ≤ x ∧ x < m) (hd : J 12 t ≤ 0) : tz_Ok l G M_X2_replacedPart 0 0 0 [.ref 141, zi t, zi p, zi x, zi 7] n J (zqi (fun z J' => ∃ m', GR J' J m m' ∧ (z = -3 ∨ (0 ≤ z ∧ z < m')) ∧ ∀ S, S 164 21 = 0 → A0 J S → EXO (puO x 0 S t p) z J')) zN := by have := C.nums ht.1 ht.2; omega
set_option maxHeartbeats 4000000 in
set_option maxRecDepth 100000 in
theorem x_put6 {l : Launch} {G : tb_G} (hl : l.stackTraces = false) (n : Nat) (J : zJ) (t : Int) (p : Int) (x : Int) (hr_t : -2147483648 ≤ t ∧ t < 2147483648) (hr_p : -2147483648 ≤ p ∧ p < 2147483648) (hr_x : -2147483648 ≤ x ∧ x < 2147483648) (m : Int) (C : CT J m) (hm : J 6 12 = m) (ht : 0 ≤ t ∧ t < m) (hp : p < J 10 t) (ho : 0 ≤ x ∧ x < m) (hd : J 12 t ≤ 1) : tz_Ok l G M_X2_replacedPart 3 0 0 [.ref 141, zi t, zi p, zi x, zi 6] n J (zqi (fun z J' => ∃ m', GR J' J m m' ∧ (z = -3 ∨ (0 ≤ z ∧ z < m')) ∧ ∀ S, S 164 21 = 0 → A0 J S → EXO (puO x 1 S t p) z J')) zN := by
  refine tz_Ok.of hl (by decide +kernel) rfl (tb_c1 rfl) (Nat.le_of_ble_eq_true rfl) ?_
  show tz_At l G M_X2_replacedPart (tb_rm 3 0 0) none (tb_ZM G 0 0 (zQ n 0 (zqi (fun z J' => ∃ m', GR J' J m m' ∧ (z = -3 ∨ (0 ≤ z ∧ z < m')) ∧ ∀ S, S 164 21 = 0 → A0 J S → EXO (puO x 1 S t p) z J'))) (zX n 0 zN)) 0 0 n J 0 [some (.ref 141), some (zi t), some (zi p), some (zi x), some (zi 6), none, none, none, none, none, none] []
  have hb := C.told
  have har := C.ar ht.1 ht.2
  have hn := C.nums ht.1 ht.2
  refine tz_iload_n (pc := 0) dX2_replacedPart_0 rfl rfl ?_
  refine tz_if_gt (pc := 1) (tgt := 6) dX2_replacedPart_1 (by decide) (by omega) (fun h_1 => ?_) (fun h_1 => ?_)
  · refine tz_iload (pc := 6) dX2_replacedPart_6 rfl ?_
    refine tz_bipush (pc := 8) dX2_replacedPart_8 (by decide) ?_
    refine tz_icmp_leT (pc := 10) (tgt := 16) (by decide) dX2_replacedPart_10 (by decide) (by decide) (by decide) ?_
    refine tz_aload_n (pc := 16) dX2_replacedPart_16 rfl rfl ?_
    refine tz_fR (pc := 17) dX2_replacedPart_17 fl_X2_28 r_141_0 ?_
    refine tz_iload_n (pc := 20) dX2_replacedPart_20 rfl rfl ?_
    refine tz_iload_n (pc := 21) dX2_replacedPart_21 rfl rfl ?_
    refine tz_cV (pc := 22) (c_atPlace hl n _ _ _ (by omega) (by omega) m C (by omega) (by omega)) vl_X2_78 dX2_replacedPart_22 o_6 rfl rfl (Nat.le_of_ble_eq_true rfl) ⟨(Nat.le_of_ble_eq_true rfl), (Nat.le_of_ble_eq_true rfl)⟩ rfl rfl (Nat.le_of_ble_eq_true rfl) (Nat.le_of_ble_eq_true rfl) (fun r9 J_22 hq9 => ?_)
    obtain ⟨z_22, rfl, hz_22, rfl, hz1, hz2, hz3⟩ := hq9
    have hg := C.arg (t := t) (i := z_22) (by omega) (by omega) (by omega) (by omega)
    have hbd := zfr_bd C (t := t) (by omega) (by omega) z_22.toNat (by omega)
    refine tz_istore (pc := 25) (L2 := [_, _, _, _, _, _, _, _, _, _, _]) dX2_replacedPart_25 (by decide) rfl ?_
    refine tz_aload_n (pc := 27) dX2_replacedPart_27 rfl rfl ?_
    refine tz_fR (pc := 28) dX2_replacedPart_28 fl_X2_28 r_141_0 ?_
    refine tz_iload_n (pc := 31) dX2_replacedPart_31 rfl rfl ?_
    refine tz_iload (pc := 32) dX2_replacedPart_32 rfl ?_
    refine tz_cV (pc := 34) (c_arg hl n _ _ _ (by omega) (by omega) (by omega)) vl_X2_48 dX2_replacedPart_34 o_6 rfl rfl (Nat.le_of_ble_eq_true rfl) ⟨(Nat.le_of_ble_eq_true rfl), (Nat.le_of_ble_eq_true rfl)⟩ rfl rfl (Nat.le_of_ble_eq_true rfl) (Nat.le_of_ble_eq_true rfl) (fun r9 J_34 hq9 => ?_)
    obtain ⟨z_34, rfl, hz_34, rfl, rfl⟩ := hq9
    refine tz_istore (pc := 37) (L2 := [_, _, _, _, _, _, _, _, _, _, _]) dX2_replacedPart_37 (by decide) rfl ?_
    refine tz_aload_n (pc := 39) dX2_replacedPart_39 rfl rfl ?_
    refine tz_iload (pc := 40) dX2_replacedPart_40 rfl ?_
    refine tz_aload_n (pc := 42) dX2_replacedPart_42 rfl rfl ?_
    refine tz_fR (pc := 43) dX2_replacedPart_43 fl_X2_28 r_141_0 ?_
    refine tz_iload_n (pc := 46) dX2_replacedPart_46 rfl rfl ?_
    refine tz_iload_n (pc := 47) dX2_replacedPart_47 rfl rfl ?_
    refine tz_iload (pc := 48) dX2_replacedPart_48 rfl ?_
    refine tz_cV (pc := 50) (c_inArg hl n _ _ _ _ (by omega) (by omega) (by omega) m C (by omega) (by omega) (by omega)) vl_X2_81 dX2_replacedPart_50 o_6 rfl rfl (Nat.le_of_ble_eq_true rfl) ⟨(Nat.le_of_ble_eq_true rfl), (Nat.le_of_ble_eq_true rfl)⟩ rfl rfl (Nat.le_of_ble_eq_true rfl) (Nat.le_of_ble_eq_true rfl) (fun r9 J_50 hq9 => ?_)
    obtain ⟨z_50, rfl, hz_50, rfl, rfl⟩ := hq9
    refine tz_iload_n (pc := 53) dX2_replacedPart_53 rfl rfl ?_
    refine tz_iload (pc := 54) dX2_replacedPart_54 rfl ?_
    refine tz_iconst (pc := 56) dX2_replacedPart_56 ?_
    refine tz_iadd (pc := 57) (v := 7) dX2_replacedPart_57 (by decide) ?_
    refine tz_cV (pc := 58) (x_put7 hl n _ _ _ _ (by omega) (by omega) (by omega) m C hm (by omega) (by have := zfr_s (J := J) (t := t) (i := z_22) (by omega); omega) ho (by omega)) vl_X2_75 dX2_replacedPart_58 o_141 rfl rfl (Nat.le_of_ble_eq_true rfl) ⟨(Nat.le_of_ble_eq_true rfl), (Nat.le_of_ble_eq_true rfl)⟩ rfl rfl (Nat.le_of_ble_eq_true rfl) (Nat.le_of_ble_eq_true rfl) (fun r9 J_58 hq9 => ?_)
    obtain ⟨z_58, rfl, hz_58, m1, g1, h1, x1⟩ := hq9
    have d1 := g1.1
    have har2 := g1.2.1.ar (t := t) (by omega) (by omega)
    have e1 := g1.2.2.2.2 1 rfl
    refine tz_istore (pc := 61) (L2 := [_, _, _, _, _, _, _, _, _, _, _]) dX2_replacedPart_61 (by decide) rfl ?_
    refine tz_iload (pc := 63) dX2_replacedPart_63 rfl ?_
    refine tz_if_ne (pc := 65) (tgt := 73) dX2_replacedPart_65 (by decide) (by omega) (fun h_65 => ?_) (fun h_65 => ?_)
    · refine tz_aload_n (pc := 73) dX2_replacedPart_73 rfl rfl ?_
      refine tz_fR (pc := 74) dX2_replacedPart_74 fl_X2_28 r_141_0 ?_
      refine tz_iload_n (pc := 77) dX2_replacedPart_77 rfl rfl ?_
      refine tz_iconst (pc := 78) dX2_replacedPart_78 ?_
      refine tz_cV (pc := 79) (c_arg hl n _ _ _ (by omega) (by decide) (by omega)) vl_X2_48 dX2_replacedPart_79 o_6 rfl rfl (Nat.le_of_ble_eq_true rfl) ⟨(Nat.le_of_ble_eq_true rfl), (Nat.le_of_ble_eq_true rfl)⟩ rfl rfl (Nat.le_of_ble_eq_true rfl) (Nat.le_of_ble_eq_true rfl) (fun r9 J_79 hq9 => ?_)
      obtain ⟨z_79, rfl, hz_79, rfl, rfl⟩ := hq9
      refine tz_istore (pc := 82) (L2 := [_, _, _, _, _, _, _, _, _, _, _]) dX2_replacedPart_82 (by decide) rfl ?_
      refine tz_iload (pc := 84) dX2_replacedPart_84 rfl ?_
      refine tz_iconst (pc := 86) dX2_replacedPart_86 ?_
      refine tz_icmp_ne (pc := 87) (tgt := 95) dX2_replacedPart_87 (by decide) (by omega) (by decide) (fun h_87 => ?_) (fun h_87 => ?_)
      · refine tz_aload_n (pc := 95) dX2_replacedPart_95 rfl rfl ?_
        refine tz_fR (pc := 96) dX2_replacedPart_96 fl_X2_28 r_141_0 ?_
        refine tz_iload_n (pc := 99) dX2_replacedPart_99 rfl rfl ?_
        refine tz_iconst (pc := 100) dX2_replacedPart_100 ?_
        refine tz_cV (pc := 101) (c_arg hl n _ _ _ (by omega) (by decide) (by omega)) vl_X2_48 dX2_replacedPart_101 o_6 rfl rfl (Nat.le_of_ble_eq_true rfl) ⟨(Nat.le_of_ble_eq_true rfl), (Nat.le_of_ble_eq_true rfl)⟩ rfl rfl (Nat.le_of_ble_eq_true rfl) (Nat.le_of_ble_eq_true rfl) (fun r9 J_101 hq9 => ?_)
        obtain ⟨z_101, rfl, hz_101, rfl, rfl⟩ := hq9
        refine tz_istore (pc := 104) (L2 := [_, _, _, _, _, _, _, _, _, _, _]) dX2_replacedPart_104 (by decide) rfl ?_
        refine tz_iload (pc := 106) dX2_replacedPart_106 rfl ?_
        refine tz_iconst (pc := 108) dX2_replacedPart_108 ?_
        refine tz_icmp_ne (pc := 109) (tgt := 117) dX2_replacedPart_109 (by decide) (by omega) (by decide) (fun h_109 => ?_) (fun h_109 => ?_)
        · refine tz_aload_n (pc := 117) dX2_replacedPart_117 rfl rfl ?_
          refine tz_fR (pc := 118) dX2_replacedPart_118 fl_X2_28 r_141_0 ?_
          refine tz_iload_n (pc := 121) dX2_replacedPart_121 rfl rfl ?_
          refine tz_iconst (pc := 122) dX2_replacedPart_122 ?_
          refine tz_cV (pc := 123) (c_arg hl n _ _ _ (by omega) (by decide) (by omega)) vl_X2_48 dX2_replacedPart_123 o_6 rfl rfl (Nat.le_of_ble_eq_true rfl) ⟨(Nat.le_of_ble_eq_true rfl), (Nat.le_of_ble_eq_true rfl)⟩ rfl rfl (Nat.le_of_ble_eq_true rfl) (Nat.le_of_ble_eq_true rfl) (fun r9 J_123 hq9 => ?_)
          obtain ⟨z_123, rfl, hz_123, rfl, rfl⟩ := hq9
          refine tz_istore (pc := 126) (L2 := [_, _, _, _, _, _, _, _, _, _, _]) dX2_replacedPart_126 (by decide) rfl ?_
          refine tz_aload_n (pc := 128) dX2_replacedPart_128 rfl rfl ?_
          refine tz_fR (pc := 129) dX2_replacedPart_129 fl_X2_28 r_141_0 ?_
          refine tz_aload_n (pc := 132) dX2_replacedPart_132 rfl rfl ?_
          refine tz_fR (pc := 133) dX2_replacedPart_133 fl_X2_28 r_141_0 ?_
          refine tz_fR (pc := 136) dX2_replacedPart_136 fl_X2_42 r_6_1 ?_
          refine tz_iload_n (pc := 139) dX2_replacedPart_139 rfl rfl ?_
          refine tz_aL (pc := 140) (z := t) (v := (J_58 7 t)) dX2_replacedPart_140 a_7 rfl (by omega) rfl (fun r_140 => ?_)
          refine tz_iload (pc := 141) dX2_replacedPart_141 rfl ?_
          refine tz_iload (pc := 143) dX2_replacedPart_143 rfl ?_
          refine tz_iload (pc := 145) dX2_replacedPart_145 rfl ?_
          refine tz_cV (pc := 147) (c_made hl n _ _ _ _ _ (by omega) (by omega) (by omega) (by omega) m1 g1.2.1 g1.2.2.1 (by omega) (GR.lt g1 ht (fun h => by have := GR.arg g1 C ht (i := 0) (by omega); omega) (fun h => by have := GR.arg g1 C ht (i := 1) (by omega); omega) (fun h => by have := GR.arg g1 C ht (i := 2) (by omega); omega))) vl_X2_52 dX2_replacedPart_147 o_6 rfl rfl (Nat.le_of_ble_eq_true rfl) ⟨(Nat.le_of_ble_eq_true rfl), (Nat.le_of_ble_eq_true rfl)⟩ rfl rfl (Nat.le_of_ble_eq_true rfl) (Nat.le_of_ble_eq_true rfl) (fun r9 J_147 hq9 => ?_)
          obtain ⟨z_147, rfl, hz_147, p_9⟩ := hq9
          obtain ⟨m9, g9, h9⟩ := GR.made p_9 (by omega)
          have q9 := GR.tr g1 g9
          exact tz_iret (pc := 150) (z := z_147) dX2_replacedPart_150 rfl (Nat.le_of_ble_eq_true rfl) (Nat.le_of_ble_eq_true rfl) ⟨Nat.le_refl _, Nat.le_add_right _ _⟩ ⟨_, rfl, (by omega), ⟨m9, q9, h9, fun S hG E => by rw [puO_s, if_neg (by omega)]; exact pu_end hG E C hm ht hz1 hz2 hz3 g1 h1 x1 p_9 (by first | exact Or.inl ⟨by omega, rfl⟩ | exact Or.inr ⟨by omega, rfl⟩) (by first | exact Or.inl ⟨by omega, rfl⟩ | exact Or.inr ⟨by omega, rfl⟩) (by first | exact Or.inl ⟨by omega, rfl⟩ | exact Or.inr ⟨by omega, rfl⟩)⟩⟩
        · refine tz_iload (pc := 112) dX2_replacedPart_112 rfl ?_
          refine tz_goto (pc := 114) (tgt := 126) dX2_replacedPart_114 (by decide) ?_
          refine tz_istore (pc := 126) (L2 := [_, _, _, _, _, _, _, _, _, _, _]) dX2_replacedPart_126 (by decide) rfl ?_
          refine tz_aload_n (pc := 128) dX2_replacedPart_128 rfl rfl ?_
          refine tz_fR (pc := 129) dX2_replacedPart_129 fl_X2_28 r_141_0 ?_
          refine tz_aload_n (pc := 132) dX2_replacedPart_132 rfl rfl ?_
          refine tz_fR (pc := 133) dX2_replacedPart_133 fl_X2_28 r_141_0 ?_
          refine tz_fR (pc := 136) dX2_replacedPart_136 fl_X2_42 r_6_1 ?_
          refine tz_iload_n (pc := 139) dX2_replacedPart_139 rfl rfl ?_
          refine tz_aL (pc := 140) (z := t) (v := (J_58 7 t)) dX2_replacedPart_140 a_7 rfl (by omega) rfl (fun r_140 => ?_)
          refine tz_iload (pc := 141) dX2_replacedPart_141 rfl ?_
          refine tz_iload (pc := 143) dX2_replacedPart_143 rfl ?_
          refine tz_iload (pc := 145) dX2_replacedPart_145 rfl ?_
          refine tz_cV (pc := 147) (c_made hl n _ _ _ _ _ (by omega) (by omega) (by omega) (by omega) m1 g1.2.1 g1.2.2.1 (by omega) (GR.lt g1 ht (fun h => by have := GR.arg g1 C ht (i := 0) (by omega); omega) (fun h => by have := GR.arg g1 C ht (i := 1) (by omega); omega) (fun h => by have := GR.arg g1 C ht (i := 2) (by omega); omega))) vl_X2_52 dX2_replacedPart_147 o_6 rfl rfl (Nat.le_of_ble_eq_true rfl) ⟨(Nat.le_of_ble_eq_true rfl), (Nat.le_of_ble_eq_true rfl)⟩ rfl rfl (Nat.le_of_ble_eq_true rfl) (Nat.le_of_ble_eq_true rfl) (fun r9 J_147 hq9 => ?_)
          obtain ⟨z_147, rfl, hz_147, p_9⟩ := hq9
          obtain ⟨m9, g9, h9⟩ := GR.made p_9 (by omega)
          have q9 := GR.tr g1 g9
          exact tz_iret (pc := 150) (z := z_147) dX2_replacedPart_150 rfl (Nat.le_of_ble_eq_true rfl) (Nat.le_of_ble_eq_true rfl) ⟨Nat.le_refl _, Nat.le_add_right _ _⟩ ⟨_, rfl, (by omega), ⟨m9, q9, h9, fun S hG E => by rw [puO_s, if_neg (by omega)]; exact pu_end hG E C hm ht hz1 hz2 hz3 g1 h1 x1 p_9 (by first | exact Or.inl ⟨by omega, rfl⟩ | exact Or.inr ⟨by omega, rfl⟩) (by first | exact Or.inl ⟨by omega, rfl⟩ | exact Or.inr ⟨by omega, rfl⟩) (by first | exact Or.inl ⟨by omega, rfl⟩ | exact Or.inr ⟨by omega, rfl⟩)⟩⟩
      · refine tz_iload (pc := 90) dX2_replacedPart_90 rfl ?_
        refine tz_goto (pc := 92) (tgt := 104) dX2_replacedPart_92 (by decide) ?_
        refine tz_istore (pc := 104) (L2 := [_, _, _, _, _, _, _, _, _, _, _]) dX2_replacedPart_104 (by decide) rfl ?_
        refine tz_iload (pc := 106) dX2_replacedPart_106 rfl ?_
        refine tz_iconst (pc := 108) dX2_replacedPart_108 ?_
        refine tz_icmp_ne (pc := 109) (tgt := 117) dX2_replacedPart_109 (by decide) (by omega) (by decide) (fun h_109 => ?_) (fun h_109 => ?_)
        · refine tz_aload_n (pc := 117) dX2_replacedPart_117 rfl rfl ?_
          refine tz_fR (pc := 118) dX2_replacedPart_118 fl_X2_28 r_141_0 ?_
          refine tz_iload_n (pc := 121) dX2_replacedPart_121 rfl rfl ?_
          refine tz_iconst (pc := 122) dX2_replacedPart_122 ?_
          refine tz_cV (pc := 123) (c_arg hl n _ _ _ (by omega) (by decide) (by omega)) vl_X2_48 dX2_replacedPart_123 o_6 rfl rfl (Nat.le_of_ble_eq_true rfl) ⟨(Nat.le_of_ble_eq_true rfl), (Nat.le_of_ble_eq_true rfl)⟩ rfl rfl (Nat.le_of_ble_eq_true rfl) (Nat.le_of_ble_eq_true rfl) (fun r9 J_123 hq9 => ?_)
          obtain ⟨z_123, rfl, hz_123, rfl, rfl⟩ := hq9
          refine tz_istore (pc := 126) (L2 := [_, _, _, _, _, _, _, _, _, _, _]) dX2_replacedPart_126 (by decide) rfl ?_
          refine tz_aload_n (pc := 128) dX2_replacedPart_128 rfl rfl ?_
          refine tz_fR (pc := 129) dX2_replacedPart_129 fl_X2_28 r_141_0 ?_
          refine tz_aload_n (pc := 132) dX2_replacedPart_132 rfl rfl ?_
          refine tz_fR (pc := 133) dX2_replacedPart_133 fl_X2_28 r_141_0 ?_
          refine tz_fR (pc := 136) dX2_replacedPart_136 fl_X2_42 r_6_1 ?_
          refine tz_iload_n (pc := 139) dX2_replacedPart_139 rfl rfl ?_
          refine tz_aL (pc := 140) (z := t) (v := (J_58 7 t)) dX2_replacedPart_140 a_7 rfl (by omega) rfl (fun r_140 => ?_)
          refine tz_iload (pc := 141) dX2_replacedPart_141 rfl ?_
          refine tz_iload (pc := 143) dX2_replacedPart_143 rfl ?_
          refine tz_iload (pc := 145) dX2_replacedPart_145 rfl ?_
          refine tz_cV (pc := 147) (c_made hl n _ _ _ _ _ (by omega) (by omega) (by omega) (by omega) m1 g1.2.1 g1.2.2.1 (by omega) (GR.lt g1 ht (fun h => by have := GR.arg g1 C ht (i := 0) (by omega); omega) (fun h => by have := GR.arg g1 C ht (i := 1) (by omega); omega) (fun h => by have := GR.arg g1 C ht (i := 2) (by omega); omega))) vl_X2_52 dX2_replacedPart_147 o_6 rfl rfl (Nat.le_of_ble_eq_true rfl) ⟨(Nat.le_of_ble_eq_true rfl), (Nat.le_of_ble_eq_true rfl)⟩ rfl rfl (Nat.le_of_ble_eq_true rfl) (Nat.le_of_ble_eq_true rfl) (fun r9 J_147 hq9 => ?_)
          obtain ⟨z_147, rfl, hz_147, p_9⟩ := hq9
          obtain ⟨m9, g9, h9⟩ := GR.made p_9 (by omega)
          have q9 := GR.tr g1 g9
          exact tz_iret (pc := 150) (z := z_147) dX2_replacedPart_150 rfl (Nat.le_of_ble_eq_true rfl) (Nat.le_of_ble_eq_true rfl) ⟨Nat.le_refl _, Nat.le_add_right _ _⟩ ⟨_, rfl, (by omega), ⟨m9, q9, h9, fun S hG E => by rw [puO_s, if_neg (by omega)]; exact pu_end hG E C hm ht hz1 hz2 hz3 g1 h1 x1 p_9 (by first | exact Or.inl ⟨by omega, rfl⟩ | exact Or.inr ⟨by omega, rfl⟩) (by first | exact Or.inl ⟨by omega, rfl⟩ | exact Or.inr ⟨by omega, rfl⟩) (by first | exact Or.inl ⟨by omega, rfl⟩ | exact Or.inr ⟨by omega, rfl⟩)⟩⟩
        · refine tz_iload (pc := 112) dX2_replacedPart_112 rfl ?_
          refine tz_goto (pc := 114) (tgt := 126) dX2_replacedPart_114 (by decide) ?_
          refine tz_istore (pc := 126) (L2 := [_, _, _, _, _, _, _, _, _, _, _]) dX2_replacedPart_126 (by decide) rfl ?_
          refine tz_aload_n (pc := 128) dX2_replacedPart_128 rfl rfl ?_
          refine tz_fR (pc := 129) dX2_replacedPart_129 fl_X2_28 r_141_0 ?_
          refine tz_aload_n (pc := 132) dX2_replacedPart_132 rfl rfl ?_
          refine tz_fR (pc := 133) dX2_replacedPart_133 fl_X2_28 r_141_0 ?_
          refine tz_fR (pc := 136) dX2_replacedPart_136 fl_X2_42 r_6_1 ?_
          refine tz_iload_n (pc := 139) dX2_replacedPart_139 rfl rfl ?_
          refine tz_aL (pc := 140) (z := t) (v := (J_58 7 t)) dX2_replacedPart_140 a_7 rfl (by omega) rfl (fun r_140 => ?_)
          refine tz_iload (pc := 141) dX2_replacedPart_141 rfl ?_
          refine tz_iload (pc := 143) dX2_replacedPart_143 rfl ?_
          refine tz_iload (pc := 145) dX2_replacedPart_145 rfl ?_
          refine tz_cV (pc := 147) (c_made hl n _ _ _ _ _ (by omega) (by omega) (by omega) (by omega) m1 g1.2.1 g1.2.2.1 (by omega) (GR.lt g1 ht (fun h => by have := GR.arg g1 C ht (i := 0) (by omega); omega) (fun h => by have := GR.arg g1 C ht (i := 1) (by omega); omega) (fun h => by have := GR.arg g1 C ht (i := 2) (by omega); omega))) vl_X2_52 dX2_replacedPart_147 o_6 rfl rfl (Nat.le_of_ble_eq_true rfl) ⟨(Nat.le_of_ble_eq_true rfl), (Nat.le_of_ble_eq_true rfl)⟩ rfl rfl (Nat.le_of_ble_eq_true rfl) (Nat.le_of_ble_eq_true rfl) (fun r9 J_147 hq9 => ?_)
          obtain ⟨z_147, rfl, hz_147, p_9⟩ := hq9
          obtain ⟨m9, g9, h9⟩ := GR.made p_9 (by omega)
          have q9 := GR.tr g1 g9
          exact tz_iret (pc := 150) (z := z_147) dX2_replacedPart_150 rfl (Nat.le_of_ble_eq_true rfl) (Nat.le_of_ble_eq_true rfl) ⟨Nat.le_refl _, Nat.le_add_right _ _⟩ ⟨_, rfl, (by omega), ⟨m9, q9, h9, fun S hG E => by rw [puO_s, if_neg (by omega)]; exact pu_end hG E C hm ht hz1 hz2 hz3 g1 h1 x1 p_9 (by first | exact Or.inl ⟨by omega, rfl⟩ | exact Or.inr ⟨by omega, rfl⟩) (by first | exact Or.inl ⟨by omega, rfl⟩ | exact Or.inr ⟨by omega, rfl⟩) (by first | exact Or.inl ⟨by omega, rfl⟩ | exact Or.inr ⟨by omega, rfl⟩)⟩⟩
    · refine tz_iload (pc := 68) dX2_replacedPart_68 rfl ?_
      refine tz_goto (pc := 70) (tgt := 82) dX2_replacedPart_70 (by decide) ?_
      refine tz_istore (pc := 82) (L2 := [_, _, _, _, _, _, _, _, _, _, _]) dX2_replacedPart_82 (by decide) rfl ?_
      refine tz_iload (pc := 84) dX2_replacedPart_84 rfl ?_
      refine tz_iconst (pc := 86) dX2_replacedPart_86 ?_
      refine tz_icmp_ne (pc := 87) (tgt := 95) dX2_replacedPart_87 (by decide) (by omega) (by decide) (fun h_87 => ?_) (fun h_87 => ?_)
      · refine tz_aload_n (pc := 95) dX2_replacedPart_95 rfl rfl ?_
        refine tz_fR (pc := 96) dX2_replacedPart_96 fl_X2_28 r_141_0 ?_
        refine tz_iload_n (pc := 99) dX2_replacedPart_99 rfl rfl ?_
        refine tz_iconst (pc := 100) dX2_replacedPart_100 ?_
        refine tz_cV (pc := 101) (c_arg hl n _ _ _ (by omega) (by decide) (by omega)) vl_X2_48 dX2_replacedPart_101 o_6 rfl rfl (Nat.le_of_ble_eq_true rfl) ⟨(Nat.le_of_ble_eq_true rfl), (Nat.le_of_ble_eq_true rfl)⟩ rfl rfl (Nat.le_of_ble_eq_true rfl) (Nat.le_of_ble_eq_true rfl) (fun r9 J_101 hq9 => ?_)
        obtain ⟨z_101, rfl, hz_101, rfl, rfl⟩ := hq9
        refine tz_istore (pc := 104) (L2 := [_, _, _, _, _, _, _, _, _, _, _]) dX2_replacedPart_104 (by decide) rfl ?_
        refine tz_iload (pc := 106) dX2_replacedPart_106 rfl ?_
        refine tz_iconst (pc := 108) dX2_replacedPart_108 ?_
        refine tz_icmp_ne (pc := 109) (tgt := 117) dX2_replacedPart_109 (by decide) (by omega) (by decide) (fun h_109 => ?_) (fun h_109 => ?_)
        · refine tz_aload_n (pc := 117) dX2_replacedPart_117 rfl rfl ?_
          refine tz_fR (pc := 118) dX2_replacedPart_118 fl_X2_28 r_141_0 ?_
          refine tz_iload_n (pc := 121) dX2_replacedPart_121 rfl rfl ?_
          refine tz_iconst (pc := 122) dX2_replacedPart_122 ?_
          refine tz_cV (pc := 123) (c_arg hl n _ _ _ (by omega) (by decide) (by omega)) vl_X2_48 dX2_replacedPart_123 o_6 rfl rfl (Nat.le_of_ble_eq_true rfl) ⟨(Nat.le_of_ble_eq_true rfl), (Nat.le_of_ble_eq_true rfl)⟩ rfl rfl (Nat.le_of_ble_eq_true rfl) (Nat.le_of_ble_eq_true rfl) (fun r9 J_123 hq9 => ?_)
          obtain ⟨z_123, rfl, hz_123, rfl, rfl⟩ := hq9
          refine tz_istore (pc := 126) (L2 := [_, _, _, _, _, _, _, _, _, _, _]) dX2_replacedPart_126 (by decide) rfl ?_
          refine tz_aload_n (pc := 128) dX2_replacedPart_128 rfl rfl ?_
          refine tz_fR (pc := 129) dX2_replacedPart_129 fl_X2_28 r_141_0 ?_
          refine tz_aload_n (pc := 132) dX2_replacedPart_132 rfl rfl ?_
          refine tz_fR (pc := 133) dX2_replacedPart_133 fl_X2_28 r_141_0 ?_
          refine tz_fR (pc := 136) dX2_replacedPart_136 fl_X2_42 r_6_1 ?_
          refine tz_iload_n (pc := 139) dX2_replacedPart_139 rfl rfl ?_
          refine tz_aL (pc := 140) (z := t) (v := (J_58 7 t)) dX2_replacedPart_140 a_7 rfl (by omega) rfl (fun r_140 => ?_)
          refine tz_iload (pc := 141) dX2_replacedPart_141 rfl ?_
          refine tz_iload (pc := 143) dX2_replacedPart_143 rfl ?_
          refine tz_iload (pc := 145) dX2_replacedPart_145 rfl ?_
          refine tz_cV (pc := 147) (c_made hl n _ _ _ _ _ (by omega) (by omega) (by omega) (by omega) m1 g1.2.1 g1.2.2.1 (by omega) (GR.lt g1 ht (fun h => by have := GR.arg g1 C ht (i := 0) (by omega); omega) (fun h => by have := GR.arg g1 C ht (i := 1) (by omega); omega) (fun h => by have := GR.arg g1 C ht (i := 2) (by omega); omega))) vl_X2_52 dX2_replacedPart_147 o_6 rfl rfl (Nat.le_of_ble_eq_true rfl) ⟨(Nat.le_of_ble_eq_true rfl), (Nat.le_of_ble_eq_true rfl)⟩ rfl rfl (Nat.le_of_ble_eq_true rfl) (Nat.le_of_ble_eq_true rfl) (fun r9 J_147 hq9 => ?_)
          obtain ⟨z_147, rfl, hz_147, p_9⟩ := hq9
          obtain ⟨m9, g9, h9⟩ := GR.made p_9 (by omega)
          have q9 := GR.tr g1 g9
          exact tz_iret (pc := 150) (z := z_147) dX2_replacedPart_150 rfl (Nat.le_of_ble_eq_true rfl) (Nat.le_of_ble_eq_true rfl) ⟨Nat.le_refl _, Nat.le_add_right _ _⟩ ⟨_, rfl, (by omega), ⟨m9, q9, h9, fun S hG E => by rw [puO_s, if_neg (by omega)]; exact pu_end hG E C hm ht hz1 hz2 hz3 g1 h1 x1 p_9 (by first | exact Or.inl ⟨by omega, rfl⟩ | exact Or.inr ⟨by omega, rfl⟩) (by first | exact Or.inl ⟨by omega, rfl⟩ | exact Or.inr ⟨by omega, rfl⟩) (by first | exact Or.inl ⟨by omega, rfl⟩ | exact Or.inr ⟨by omega, rfl⟩)⟩⟩
        · refine tz_iload (pc := 112) dX2_replacedPart_112 rfl ?_
          refine tz_goto (pc := 114) (tgt := 126) dX2_replacedPart_114 (by decide) ?_
          refine tz_istore (pc := 126) (L2 := [_, _, _, _, _, _, _, _, _, _, _]) dX2_replacedPart_126 (by decide) rfl ?_
          refine tz_aload_n (pc := 128) dX2_replacedPart_128 rfl rfl ?_
          refine tz_fR (pc := 129) dX2_replacedPart_129 fl_X2_28 r_141_0 ?_
          refine tz_aload_n (pc := 132) dX2_replacedPart_132 rfl rfl ?_
          refine tz_fR (pc := 133) dX2_replacedPart_133 fl_X2_28 r_141_0 ?_
          refine tz_fR (pc := 136) dX2_replacedPart_136 fl_X2_42 r_6_1 ?_
          refine tz_iload_n (pc := 139) dX2_replacedPart_139 rfl rfl ?_
          refine tz_aL (pc := 140) (z := t) (v := (J_58 7 t)) dX2_replacedPart_140 a_7 rfl (by omega) rfl (fun r_140 => ?_)
          refine tz_iload (pc := 141) dX2_replacedPart_141 rfl ?_
          refine tz_iload (pc := 143) dX2_replacedPart_143 rfl ?_
          refine tz_iload (pc := 145) dX2_replacedPart_145 rfl ?_
          refine tz_cV (pc := 147) (c_made hl n _ _ _ _ _ (by omega) (by omega) (by omega) (by omega) m1 g1.2.1 g1.2.2.1 (by omega) (GR.lt g1 ht (fun h => by have := GR.arg g1 C ht (i := 0) (by omega); omega) (fun h => by have := GR.arg g1 C ht (i := 1) (by omega); omega) (fun h => by have := GR.arg g1 C ht (i := 2) (by omega); omega))) vl_X2_52 dX2_replacedPart_147 o_6 rfl rfl (Nat.le_of_ble_eq_true rfl) ⟨(Nat.le_of_ble_eq_true rfl), (Nat.le_of_ble_eq_true rfl)⟩ rfl rfl (Nat.le_of_ble_eq_true rfl) (Nat.le_of_ble_eq_true rfl) (fun r9 J_147 hq9 => ?_)
          obtain ⟨z_147, rfl, hz_147, p_9⟩ := hq9
          obtain ⟨m9, g9, h9⟩ := GR.made p_9 (by omega)
          have q9 := GR.tr g1 g9
          exact tz_iret (pc := 150) (z := z_147) dX2_replacedPart_150 rfl (Nat.le_of_ble_eq_true rfl) (Nat.le_of_ble_eq_true rfl) ⟨Nat.le_refl _, Nat.le_add_right _ _⟩ ⟨_, rfl, (by omega), ⟨m9, q9, h9, fun S hG E => by rw [puO_s, if_neg (by omega)]; exact pu_end hG E C hm ht hz1 hz2 hz3 g1 h1 x1 p_9 (by first | exact Or.inl ⟨by omega, rfl⟩ | exact Or.inr ⟨by omega, rfl⟩) (by first | exact Or.inl ⟨by omega, rfl⟩ | exact Or.inr ⟨by omega, rfl⟩) (by first | exact Or.inl ⟨by omega, rfl⟩ | exact Or.inr ⟨by omega, rfl⟩)⟩⟩
      · refine tz_iload (pc := 90) dX2_replacedPart_90 rfl ?_
        refine tz_goto (pc := 92) (tgt := 104) dX2_replacedPart_92 (by decide) ?_
        refine tz_istore (pc := 104) (L2 := [_, _, _, _, _, _, _, _, _, _, _]) dX2_replacedPart_104 (by decide) rfl ?_
        refine tz_iload (pc := 106) dX2_replacedPart_106 rfl ?_
        refine tz_iconst (pc := 108) dX2_replacedPart_108 ?_
        refine tz_icmp_ne (pc := 109) (tgt := 117) dX2_replacedPart_109 (by decide) (by omega) (by decide) (fun h_109 => ?_) (fun h_109 => ?_)
        · refine tz_aload_n (pc := 117) dX2_replacedPart_117 rfl rfl ?_
          refine tz_fR (pc := 118) dX2_replacedPart_118 fl_X2_28 r_141_0 ?_
          refine tz_iload_n (pc := 121) dX2_replacedPart_121 rfl rfl ?_
          refine tz_iconst (pc := 122) dX2_replacedPart_122 ?_
          refine tz_cV (pc := 123) (c_arg hl n _ _ _ (by omega) (by decide) (by omega)) vl_X2_48 dX2_replacedPart_123 o_6 rfl rfl (Nat.le_of_ble_eq_true rfl) ⟨(Nat.le_of_ble_eq_true rfl), (Nat.le_of_ble_eq_true rfl)⟩ rfl rfl (Nat.le_of_ble_eq_true rfl) (Nat.le_of_ble_eq_true rfl) (fun r9 J_123 hq9 => ?_)
          obtain ⟨z_123, rfl, hz_123, rfl, rfl⟩ := hq9
          refine tz_istore (pc := 126) (L2 := [_, _, _, _, _, _, _, _, _, _, _]) dX2_replacedPart_126 (by decide) rfl ?_
          refine tz_aload_n (pc := 128) dX2_replacedPart_128 rfl rfl ?_
          refine tz_fR (pc := 129) dX2_replacedPart_129 fl_X2_28 r_141_0 ?_
          refine tz_aload_n (pc := 132) dX2_replacedPart_132 rfl rfl ?_
          refine tz_fR (pc := 133) dX2_replacedPart_133 fl_X2_28 r_141_0 ?_
          refine tz_fR (pc := 136) dX2_replacedPart_136 fl_X2_42 r_6_1 ?_
          refine tz_iload_n (pc := 139) dX2_replacedPart_139 rfl rfl ?_
          refine tz_aL (pc := 140) (z := t) (v := (J_58 7 t)) dX2_replacedPart_140 a_7 rfl (by omega) rfl (fun r_140 => ?_)
          refine tz_iload (pc := 141) dX2_replacedPart_141 rfl ?_
          refine tz_iload (pc := 143) dX2_replacedPart_143 rfl ?_
          refine tz_iload (pc := 145) dX2_replacedPart_145 rfl ?_
          refine tz_cV (pc := 147) (c_made hl n _ _ _ _ _ (by omega) (by omega) (by omega) (by omega) m1 g1.2.1 g1.2.2.1 (by omega) (GR.lt g1 ht (fun h => by have := GR.arg g1 C ht (i := 0) (by omega); omega) (fun h => by have := GR.arg g1 C ht (i := 1) (by omega); omega) (fun h => by have := GR.arg g1 C ht (i := 2) (by omega); omega))) vl_X2_52 dX2_replacedPart_147 o_6 rfl rfl (Nat.le_of_ble_eq_true rfl) ⟨(Nat.le_of_ble_eq_true rfl), (Nat.le_of_ble_eq_true rfl)⟩ rfl rfl (Nat.le_of_ble_eq_true rfl) (Nat.le_of_ble_eq_true rfl) (fun r9 J_147 hq9 => ?_)
          obtain ⟨z_147, rfl, hz_147, p_9⟩ := hq9
          obtain ⟨m9, g9, h9⟩ := GR.made p_9 (by omega)
          have q9 := GR.tr g1 g9
          exact tz_iret (pc := 150) (z := z_147) dX2_replacedPart_150 rfl (Nat.le_of_ble_eq_true rfl) (Nat.le_of_ble_eq_true rfl) ⟨Nat.le_refl _, Nat.le_add_right _ _⟩ ⟨_, rfl, (by omega), ⟨m9, q9, h9, fun S hG E => by rw [puO_s, if_neg (by omega)]; exact pu_end hG E C hm ht hz1 hz2 hz3 g1 h1 x1 p_9 (by first | exact Or.inl ⟨by omega, rfl⟩ | exact Or.inr ⟨by omega, rfl⟩) (by first | exact Or.inl ⟨by omega, rfl⟩ | exact Or.inr ⟨by omega, rfl⟩) (by first | exact Or.inl ⟨by omega, rfl⟩ | exact Or.inr ⟨by omega, rfl⟩)⟩⟩
        · refine tz_iload (pc := 112) dX2_replacedPart_112 rfl ?_
          refine tz_goto (pc := 114) (tgt := 126) dX2_replacedPart_114 (by decide) ?_
          refine tz_istore (pc := 126) (L2 := [_, _, _, _, _, _, _, _, _, _, _]) dX2_replacedPart_126 (by decide) rfl ?_
          refine tz_aload_n (pc := 128) dX2_replacedPart_128 rfl rfl ?_
          refine tz_fR (pc := 129) dX2_replacedPart_129 fl_X2_28 r_141_0 ?_
          refine tz_aload_n (pc := 132) dX2_replacedPart_132 rfl rfl ?_
          refine tz_fR (pc := 133) dX2_replacedPart_133 fl_X2_28 r_141_0 ?_
          refine tz_fR (pc := 136) dX2_replacedPart_136 fl_X2_42 r_6_1 ?_
          refine tz_iload_n (pc := 139) dX2_replacedPart_139 rfl rfl ?_
          refine tz_aL (pc := 140) (z := t) (v := (J_58 7 t)) dX2_replacedPart_140 a_7 rfl (by omega) rfl (fun r_140 => ?_)
          refine tz_iload (pc := 141) dX2_replacedPart_141 rfl ?_
          refine tz_iload (pc := 143) dX2_replacedPart_143 rfl ?_
          refine tz_iload (pc := 145) dX2_replacedPart_145 rfl ?_
          refine tz_cV (pc := 147) (c_made hl n _ _ _ _ _ (by omega) (by omega) (by omega) (by omega) m1 g1.2.1 g1.2.2.1 (by omega) (GR.lt g1 ht (fun h => by have := GR.arg g1 C ht (i := 0) (by omega); omega) (fun h => by have := GR.arg g1 C ht (i := 1) (by omega); omega) (fun h => by have := GR.arg g1 C ht (i := 2) (by omega); omega))) vl_X2_52 dX2_replacedPart_147 o_6 rfl rfl (Nat.le_of_ble_eq_true rfl) ⟨(Nat.le_of_ble_eq_true rfl), (Nat.le_of_ble_eq_true rfl)⟩ rfl rfl (Nat.le_of_ble_eq_true rfl) (Nat.le_of_ble_eq_true rfl) (fun r9 J_147 hq9 => ?_)
          obtain ⟨z_147, rfl, hz_147, p_9⟩ := hq9
          obtain ⟨m9, g9, h9⟩ := GR.made p_9 (by omega)
          have q9 := GR.tr g1 g9
          exact tz_iret (pc := 150) (z := z_147) dX2_replacedPart_150 rfl (Nat.le_of_ble_eq_true rfl) (Nat.le_of_ble_eq_true rfl) ⟨Nat.le_refl _, Nat.le_add_right _ _⟩ ⟨_, rfl, (by omega), ⟨m9, q9, h9, fun S hG E => by rw [puO_s, if_neg (by omega)]; exact pu_end hG E C hm ht hz1 hz2 hz3 g1 h1 x1 p_9 (by first | exact Or.inl ⟨by omega, rfl⟩ | exact Or.inr ⟨by omega, rfl⟩) (by first | exact Or.inl ⟨by omega, rfl⟩ | exact Or.inr ⟨by omega, rfl⟩) (by first | exact Or.inl ⟨by omega, rfl⟩ | exact Or.inr ⟨by omega, rfl⟩)⟩⟩
  · refine tz_iload_n (pc := 4) dX2_replacedPart_4 rfl rfl ?_
    exact tz_iret (pc := 5) (z := x) dX2_replacedPart_5 rfl (Nat.le_of_ble_eq_true rfl) (Nat.le_of_ble_eq_true rfl) ⟨Nat.le_refl _, Nat.le_add_right _ _⟩ ⟨_, rfl, (by omega), ⟨m, GR.rf C hm, by omega, fun S hG E => Or.inr ⟨by omega, by rw [puO_s, if_pos (by omega)]; exact hG, by rw [puO_s, if_pos (by omega)]; exact E, by rw [puO_s, if_pos (by omega)]⟩⟩⟩

set_option maxHeartbeats 4000000 in
set_option maxRecDepth 100000 in
theorem x_put5 {l : Launch} {G : tb_G} (hl : l.stackTraces = false) (n : Nat) (J : zJ) (t : Int) (p : Int) (x : Int) (hr_t : -2147483648 ≤ t ∧ t < 2147483648) (hr_p : -2147483648 ≤ p ∧ p < 2147483648) (hr_x : -2147483648 ≤ x ∧ x < 2147483648) (m : Int) (C : CT J m) (hm : J 6 12 = m) (ht : 0 ≤ t ∧ t < m) (hp : p < J 10 t) (ho : 0 ≤ x ∧ x < m) (hd : J 12 t ≤ 2) : tz_Ok l G M_X2_replacedPart 4 0 0 [.ref 141, zi t, zi p, zi x, zi 5] n J (zqi (fun z J' => ∃ m', GR J' J m m' ∧ (z = -3 ∨ (0 ≤ z ∧ z < m')) ∧ ∀ S, S 164 21 = 0 → A0 J S → EXO (puO x 2 S t p) z J')) zN := by
  refine tz_Ok.of hl (by decide +kernel) rfl (tb_c1 rfl) (Nat.le_of_ble_eq_true rfl) ?_
  show tz_At l G M_X2_replacedPart (tb_rm 4 0 0) none (tb_ZM G 0 0 (zQ n 0 (zqi (fun z J' => ∃ m', GR J' J m m' ∧ (z = -3 ∨ (0 ≤ z ∧ z < m')) ∧ ∀ S, S 164 21 = 0 → A0 J S → EXO (puO x 2 S t p) z J'))) (zX n 0 zN)) 0 0 n J 0 [some (.ref 141), some (zi t), some (zi p), some (zi x), some (zi 5), none, none, none, none, none, none] []
  have hb := C.told
  have har := C.ar ht.1 ht.2
  have hn := C.nums ht.1 ht.2
  refine tz_iload_n (pc := 0) dX2_replacedPart_0 rfl rfl ?_
  refine tz_if_gt (pc := 1) (tgt := 6) dX2_replacedPart_1 (by decide) (by omega) (fun h_1 => ?_) (fun h_1 => ?_)
  · refine tz_iload (pc := 6) dX2_replacedPart_6 rfl ?_
    refine tz_bipush (pc := 8) dX2_replacedPart_8 (by decide) ?_
    refine tz_icmp_leT (pc := 10) (tgt := 16) (by decide) dX2_replacedPart_10 (by decide) (by decide) (by decide) ?_
    refine tz_aload_n (pc := 16) dX2_replacedPart_16 rfl rfl ?_
    refine tz_fR (pc := 17) dX2_replacedPart_17 fl_X2_28 r_141_0 ?_
    refine tz_iload_n (pc := 20) dX2_replacedPart_20 rfl rfl ?_
    refine tz_iload_n (pc := 21) dX2_replacedPart_21 rfl rfl ?_
    refine tz_cV (pc := 22) (c_atPlace hl n _ _ _ (by omega) (by omega) m C (by omega) (by omega)) vl_X2_78 dX2_replacedPart_22 o_6 rfl rfl (Nat.le_of_ble_eq_true rfl) ⟨(Nat.le_of_ble_eq_true rfl), (Nat.le_of_ble_eq_true rfl)⟩ rfl rfl (Nat.le_of_ble_eq_true rfl) (Nat.le_of_ble_eq_true rfl) (fun r9 J_22 hq9 => ?_)
    obtain ⟨z_22, rfl, hz_22, rfl, hz1, hz2, hz3⟩ := hq9
    have hg := C.arg (t := t) (i := z_22) (by omega) (by omega) (by omega) (by omega)
    have hbd := zfr_bd C (t := t) (by omega) (by omega) z_22.toNat (by omega)
    refine tz_istore (pc := 25) (L2 := [_, _, _, _, _, _, _, _, _, _, _]) dX2_replacedPart_25 (by decide) rfl ?_
    refine tz_aload_n (pc := 27) dX2_replacedPart_27 rfl rfl ?_
    refine tz_fR (pc := 28) dX2_replacedPart_28 fl_X2_28 r_141_0 ?_
    refine tz_iload_n (pc := 31) dX2_replacedPart_31 rfl rfl ?_
    refine tz_iload (pc := 32) dX2_replacedPart_32 rfl ?_
    refine tz_cV (pc := 34) (c_arg hl n _ _ _ (by omega) (by omega) (by omega)) vl_X2_48 dX2_replacedPart_34 o_6 rfl rfl (Nat.le_of_ble_eq_true rfl) ⟨(Nat.le_of_ble_eq_true rfl), (Nat.le_of_ble_eq_true rfl)⟩ rfl rfl (Nat.le_of_ble_eq_true rfl) (Nat.le_of_ble_eq_true rfl) (fun r9 J_34 hq9 => ?_)
    obtain ⟨z_34, rfl, hz_34, rfl, rfl⟩ := hq9
    refine tz_istore (pc := 37) (L2 := [_, _, _, _, _, _, _, _, _, _, _]) dX2_replacedPart_37 (by decide) rfl ?_
    refine tz_aload_n (pc := 39) dX2_replacedPart_39 rfl rfl ?_
    refine tz_iload (pc := 40) dX2_replacedPart_40 rfl ?_
    refine tz_aload_n (pc := 42) dX2_replacedPart_42 rfl rfl ?_
    refine tz_fR (pc := 43) dX2_replacedPart_43 fl_X2_28 r_141_0 ?_
    refine tz_iload_n (pc := 46) dX2_replacedPart_46 rfl rfl ?_
    refine tz_iload_n (pc := 47) dX2_replacedPart_47 rfl rfl ?_
    refine tz_iload (pc := 48) dX2_replacedPart_48 rfl ?_
    refine tz_cV (pc := 50) (c_inArg hl n _ _ _ _ (by omega) (by omega) (by omega) m C (by omega) (by omega) (by omega)) vl_X2_81 dX2_replacedPart_50 o_6 rfl rfl (Nat.le_of_ble_eq_true rfl) ⟨(Nat.le_of_ble_eq_true rfl), (Nat.le_of_ble_eq_true rfl)⟩ rfl rfl (Nat.le_of_ble_eq_true rfl) (Nat.le_of_ble_eq_true rfl) (fun r9 J_50 hq9 => ?_)
    obtain ⟨z_50, rfl, hz_50, rfl, rfl⟩ := hq9
    refine tz_iload_n (pc := 53) dX2_replacedPart_53 rfl rfl ?_
    refine tz_iload (pc := 54) dX2_replacedPart_54 rfl ?_
    refine tz_iconst (pc := 56) dX2_replacedPart_56 ?_
    refine tz_iadd (pc := 57) (v := 6) dX2_replacedPart_57 (by decide) ?_
    refine tz_cV (pc := 58) (x_put6 hl n _ _ _ _ (by omega) (by omega) (by omega) m C hm (by omega) (by have := zfr_s (J := J) (t := t) (i := z_22) (by omega); omega) ho (by omega)) vl_X2_75 dX2_replacedPart_58 o_141 rfl rfl (Nat.le_of_ble_eq_true rfl) ⟨(Nat.le_of_ble_eq_true rfl), (Nat.le_of_ble_eq_true rfl)⟩ rfl rfl (Nat.le_of_ble_eq_true rfl) (Nat.le_of_ble_eq_true rfl) (fun r9 J_58 hq9 => ?_)
    obtain ⟨z_58, rfl, hz_58, m1, g1, h1, x1⟩ := hq9
    have d1 := g1.1
    have har2 := g1.2.1.ar (t := t) (by omega) (by omega)
    have e1 := g1.2.2.2.2 1 rfl
    refine tz_istore (pc := 61) (L2 := [_, _, _, _, _, _, _, _, _, _, _]) dX2_replacedPart_61 (by decide) rfl ?_
    refine tz_iload (pc := 63) dX2_replacedPart_63 rfl ?_
    refine tz_if_ne (pc := 65) (tgt := 73) dX2_replacedPart_65 (by decide) (by omega) (fun h_65 => ?_) (fun h_65 => ?_)
    · refine tz_aload_n (pc := 73) dX2_replacedPart_73 rfl rfl ?_
      refine tz_fR (pc := 74) dX2_replacedPart_74 fl_X2_28 r_141_0 ?_
      refine tz_iload_n (pc := 77) dX2_replacedPart_77 rfl rfl ?_
      refine tz_iconst (pc := 78) dX2_replacedPart_78 ?_
      refine tz_cV (pc := 79) (c_arg hl n _ _ _ (by omega) (by decide) (by omega)) vl_X2_48 dX2_replacedPart_79 o_6 rfl rfl (Nat.le_of_ble_eq_true rfl) ⟨(Nat.le_of_ble_eq_true rfl), (Nat.le_of_ble_eq_true rfl)⟩ rfl rfl (Nat.le_of_ble_eq_true rfl) (Nat.le_of_ble_eq_true rfl) (fun r9 J_79 hq9 => ?_)
      obtain ⟨z_79, rfl, hz_79, rfl, rfl⟩ := hq9
      refine tz_istore (pc := 82) (L2 := [_, _, _, _, _, _, _, _, _, _, _]) dX2_replacedPart_82 (by decide) rfl ?_
      refine tz_iload (pc := 84) dX2_replacedPart_84 rfl ?_
      refine tz_iconst (pc := 86) dX2_replacedPart_86 ?_
      refine tz_icmp_ne (pc := 87) (tgt := 95) dX2_replacedPart_87 (by decide) (by omega) (by decide) (fun h_87 => ?_) (fun h_87 => ?_)
      · refine tz_aload_n (pc := 95) dX2_replacedPart_95 rfl rfl ?_
        refine tz_fR (pc := 96) dX2_replacedPart_96 fl_X2_28 r_141_0 ?_
        refine tz_iload_n (pc := 99) dX2_replacedPart_99 rfl rfl ?_
        refine tz_iconst (pc := 100) dX2_replacedPart_100 ?_
        refine tz_cV (pc := 101) (c_arg hl n _ _ _ (by omega) (by decide) (by omega)) vl_X2_48 dX2_replacedPart_101 o_6 rfl rfl (Nat.le_of_ble_eq_true rfl) ⟨(Nat.le_of_ble_eq_true rfl), (Nat.le_of_ble_eq_true rfl)⟩ rfl rfl (Nat.le_of_ble_eq_true rfl) (Nat.le_of_ble_eq_true rfl) (fun r9 J_101 hq9 => ?_)
        obtain ⟨z_101, rfl, hz_101, rfl, rfl⟩ := hq9
        refine tz_istore (pc := 104) (L2 := [_, _, _, _, _, _, _, _, _, _, _]) dX2_replacedPart_104 (by decide) rfl ?_
        refine tz_iload (pc := 106) dX2_replacedPart_106 rfl ?_
        refine tz_iconst (pc := 108) dX2_replacedPart_108 ?_
        refine tz_icmp_ne (pc := 109) (tgt := 117) dX2_replacedPart_109 (by decide) (by omega) (by decide) (fun h_109 => ?_) (fun h_109 => ?_)
        · refine tz_aload_n (pc := 117) dX2_replacedPart_117 rfl rfl ?_
          refine tz_fR (pc := 118) dX2_replacedPart_118 fl_X2_28 r_141_0 ?_
          refine tz_iload_n (pc := 121) dX2_replacedPart_121 rfl rfl ?_
          refine tz_iconst (pc := 122) dX2_replacedPart_122 ?_
          refine tz_cV (pc := 123) (c_arg hl n _ _ _ (by omega) (by decide) (by omega)) vl_X2_48 dX2_replacedPart_123 o_6 rfl rfl (Nat.le_of_ble_eq_true rfl) ⟨(Nat.le_of_ble_eq_true rfl), (Nat.le_of_ble_eq_true rfl)⟩ rfl rfl (Nat.le_of_ble_eq_true rfl) (Nat.le_of_ble_eq_true rfl) (fun r9 J_123 hq9 => ?_)
          obtain ⟨z_123, rfl, hz_123, rfl, rfl⟩ := hq9
          refine tz_istore (pc := 126) (L2 := [_, _, _, _, _, _, _, _, _, _, _]) dX2_replacedPart_126 (by decide) rfl ?_
          refine tz_aload_n (pc := 128) dX2_replacedPart_128 rfl rfl ?_
          refine tz_fR (pc := 129) dX2_replacedPart_129 fl_X2_28 r_141_0 ?_
          refine tz_aload_n (pc := 132) dX2_replacedPart_132 rfl rfl ?_
          refine tz_fR (pc := 133) dX2_replacedPart_133 fl_X2_28 r_141_0 ?_
          refine tz_fR (pc := 136) dX2_replacedPart_136 fl_X2_42 r_6_1 ?_
          refine tz_iload_n (pc := 139) dX2_replacedPart_139 rfl rfl ?_
          refine tz_aL (pc := 140) (z := t) (v := (J_58 7 t)) dX2_replacedPart_140 a_7 rfl (by omega) rfl (fun r_140 => ?_)
          refine tz_iload (pc := 141) dX2_replacedPart_141 rfl ?_
          refine tz_iload (pc := 143) dX2_replacedPart_143 rfl ?_
          refine tz_iload (pc := 145) dX2_replacedPart_145 rfl ?_
          refine tz_cV (pc := 147) (c_made hl n _ _ _ _ _ (by omega) (by omega) (by omega) (by omega) m1 g1.2.1 g1.2.2.1 (by omega) (GR.lt g1 ht (fun h => by have := GR.arg g1 C ht (i := 0) (by omega); omega) (fun h => by have := GR.arg g1 C ht (i := 1) (by omega); omega) (fun h => by have := GR.arg g1 C ht (i := 2) (by omega); omega))) vl_X2_52 dX2_replacedPart_147 o_6 rfl rfl (Nat.le_of_ble_eq_true rfl) ⟨(Nat.le_of_ble_eq_true rfl), (Nat.le_of_ble_eq_true rfl)⟩ rfl rfl (Nat.le_of_ble_eq_true rfl) (Nat.le_of_ble_eq_true rfl) (fun r9 J_147 hq9 => ?_)
          obtain ⟨z_147, rfl, hz_147, p_9⟩ := hq9
          obtain ⟨m9, g9, h9⟩ := GR.made p_9 (by omega)
          have q9 := GR.tr g1 g9
          exact tz_iret (pc := 150) (z := z_147) dX2_replacedPart_150 rfl (Nat.le_of_ble_eq_true rfl) (Nat.le_of_ble_eq_true rfl) ⟨Nat.le_refl _, Nat.le_add_right _ _⟩ ⟨_, rfl, (by omega), ⟨m9, q9, h9, fun S hG E => by rw [puO_s, if_neg (by omega)]; exact pu_end hG E C hm ht hz1 hz2 hz3 g1 h1 x1 p_9 (by first | exact Or.inl ⟨by omega, rfl⟩ | exact Or.inr ⟨by omega, rfl⟩) (by first | exact Or.inl ⟨by omega, rfl⟩ | exact Or.inr ⟨by omega, rfl⟩) (by first | exact Or.inl ⟨by omega, rfl⟩ | exact Or.inr ⟨by omega, rfl⟩)⟩⟩
        · refine tz_iload (pc := 112) dX2_replacedPart_112 rfl ?_
          refine tz_goto (pc := 114) (tgt := 126) dX2_replacedPart_114 (by decide) ?_
          refine tz_istore (pc := 126) (L2 := [_, _, _, _, _, _, _, _, _, _, _]) dX2_replacedPart_126 (by decide) rfl ?_
          refine tz_aload_n (pc := 128) dX2_replacedPart_128 rfl rfl ?_
          refine tz_fR (pc := 129) dX2_replacedPart_129 fl_X2_28 r_141_0 ?_
          refine tz_aload_n (pc := 132) dX2_replacedPart_132 rfl rfl ?_
          refine tz_fR (pc := 133) dX2_replacedPart_133 fl_X2_28 r_141_0 ?_
          refine tz_fR (pc := 136) dX2_replacedPart_136 fl_X2_42 r_6_1 ?_
          refine tz_iload_n (pc := 139) dX2_replacedPart_139 rfl rfl ?_
          refine tz_aL (pc := 140) (z := t) (v := (J_58 7 t)) dX2_replacedPart_140 a_7 rfl (by omega) rfl (fun r_140 => ?_)
          refine tz_iload (pc := 141) dX2_replacedPart_141 rfl ?_
          refine tz_iload (pc := 143) dX2_replacedPart_143 rfl ?_
          refine tz_iload (pc := 145) dX2_replacedPart_145 rfl ?_
          refine tz_cV (pc := 147) (c_made hl n _ _ _ _ _ (by omega) (by omega) (by omega) (by omega) m1 g1.2.1 g1.2.2.1 (by omega) (GR.lt g1 ht (fun h => by have := GR.arg g1 C ht (i := 0) (by omega); omega) (fun h => by have := GR.arg g1 C ht (i := 1) (by omega); omega) (fun h => by have := GR.arg g1 C ht (i := 2) (by omega); omega))) vl_X2_52 dX2_replacedPart_147 o_6 rfl rfl (Nat.le_of_ble_eq_true rfl) ⟨(Nat.le_of_ble_eq_true rfl), (Nat.le_of_ble_eq_true rfl)⟩ rfl rfl (Nat.le_of_ble_eq_true rfl) (Nat.le_of_ble_eq_true rfl) (fun r9 J_147 hq9 => ?_)
          obtain ⟨z_147, rfl, hz_147, p_9⟩ := hq9
          obtain ⟨m9, g9, h9⟩ := GR.made p_9 (by omega)
          have q9 := GR.tr g1 g9
          exact tz_iret (pc := 150) (z := z_147) dX2_replacedPart_150 rfl (Nat.le_of_ble_eq_true rfl) (Nat.le_of_ble_eq_true rfl) ⟨Nat.le_refl _, Nat.le_add_right _ _⟩ ⟨_, rfl, (by omega), ⟨m9, q9, h9, fun S hG E => by rw [puO_s, if_neg (by omega)]; exact pu_end hG E C hm ht hz1 hz2 hz3 g1 h1 x1 p_9 (by first | exact Or.inl ⟨by omega, rfl⟩ | exact Or.inr ⟨by omega, rfl⟩) (by first | exact Or.inl ⟨by omega, rfl⟩ | exact Or.inr ⟨by omega, rfl⟩) (by first | exact Or.inl ⟨by omega, rfl⟩ | exact Or.inr ⟨by omega, rfl⟩)⟩⟩
      · refine tz_iload (pc := 90) dX2_replacedPart_90 rfl ?_
        refine tz_goto (pc := 92) (tgt := 104) dX2_replacedPart_92 (by decide) ?_
        refine tz_istore (pc := 104) (L2 := [_, _, _, _, _, _, _, _, _, _, _]) dX2_replacedPart_104 (by decide) rfl ?_
        refine tz_iload (pc := 106) dX2_replacedPart_106 rfl ?_
        refine tz_iconst (pc := 108) dX2_replacedPart_108 ?_
        refine tz_icmp_ne (pc := 109) (tgt := 117) dX2_replacedPart_109 (by decide) (by omega) (by decide) (fun h_109 => ?_) (fun h_109 => ?_)
        · refine tz_aload_n (pc := 117) dX2_replacedPart_117 rfl rfl ?_
          refine tz_fR (pc := 118) dX2_replacedPart_118 fl_X2_28 r_141_0 ?_
          refine tz_iload_n (pc := 121) dX2_replacedPart_121 rfl rfl ?_
          refine tz_iconst (pc := 122) dX2_replacedPart_122 ?_
          refine tz_cV (pc := 123) (c_arg hl n _ _ _ (by omega) (by decide) (by omega)) vl_X2_48 dX2_replacedPart_123 o_6 rfl rfl (Nat.le_of_ble_eq_true rfl) ⟨(Nat.le_of_ble_eq_true rfl), (Nat.le_of_ble_eq_true rfl)⟩ rfl rfl (Nat.le_of_ble_eq_true rfl) (Nat.le_of_ble_eq_true rfl) (fun r9 J_123 hq9 => ?_)
          obtain ⟨z_123, rfl, hz_123, rfl, rfl⟩ := hq9
          refine tz_istore (pc := 126) (L2 := [_, _, _, _, _, _, _, _, _, _, _]) dX2_replacedPart_126 (by decide) rfl ?_
          refine tz_aload_n (pc := 128) dX2_replacedPart_128 rfl rfl ?_
          refine tz_fR (pc := 129) dX2_replacedPart_129 fl_X2_28 r_141_0 ?_
          refine tz_aload_n (pc := 132) dX2_replacedPart_132 rfl rfl ?_
          refine tz_fR (pc := 133) dX2_replacedPart_133 fl_X2_28 r_141_0 ?_
          refine tz_fR (pc := 136) dX2_replacedPart_136 fl_X2_42 r_6_1 ?_
          refine tz_iload_n (pc := 139) dX2_replacedPart_139 rfl rfl ?_
          refine tz_aL (pc := 140) (z := t) (v := (J_58 7 t)) dX2_replacedPart_140 a_7 rfl (by omega) rfl (fun r_140 => ?_)
          refine tz_iload (pc := 141) dX2_replacedPart_141 rfl ?_
          refine tz_iload (pc := 143) dX2_replacedPart_143 rfl ?_
          refine tz_iload (pc := 145) dX2_replacedPart_145 rfl ?_
          refine tz_cV (pc := 147) (c_made hl n _ _ _ _ _ (by omega) (by omega) (by omega) (by omega) m1 g1.2.1 g1.2.2.1 (by omega) (GR.lt g1 ht (fun h => by have := GR.arg g1 C ht (i := 0) (by omega); omega) (fun h => by have := GR.arg g1 C ht (i := 1) (by omega); omega) (fun h => by have := GR.arg g1 C ht (i := 2) (by omega); omega))) vl_X2_52 dX2_replacedPart_147 o_6 rfl rfl (Nat.le_of_ble_eq_true rfl) ⟨(Nat.le_of_ble_eq_true rfl), (Nat.le_of_ble_eq_true rfl)⟩ rfl rfl (Nat.le_of_ble_eq_true rfl) (Nat.le_of_ble_eq_true rfl) (fun r9 J_147 hq9 => ?_)
          obtain ⟨z_147, rfl, hz_147, p_9⟩ := hq9
          obtain ⟨m9, g9, h9⟩ := GR.made p_9 (by omega)
          have q9 := GR.tr g1 g9
          exact tz_iret (pc := 150) (z := z_147) dX2_replacedPart_150 rfl (Nat.le_of_ble_eq_true rfl) (Nat.le_of_ble_eq_true rfl) ⟨Nat.le_refl _, Nat.le_add_right _ _⟩ ⟨_, rfl, (by omega), ⟨m9, q9, h9, fun S hG E => by rw [puO_s, if_neg (by omega)]; exact pu_end hG E C hm ht hz1 hz2 hz3 g1 h1 x1 p_9 (by first | exact Or.inl ⟨by omega, rfl⟩ | exact Or.inr ⟨by omega, rfl⟩) (by first | exact Or.inl ⟨by omega, rfl⟩ | exact Or.inr ⟨by omega, rfl⟩) (by first | exact Or.inl ⟨by omega, rfl⟩ | exact Or.inr ⟨by omega, rfl⟩)⟩⟩
        · refine tz_iload (pc := 112) dX2_replacedPart_112 rfl ?_
          refine tz_goto (pc := 114) (tgt := 126) dX2_replacedPart_114 (by decide) ?_
          refine tz_istore (pc := 126) (L2 := [_, _, _, _, _, _, _, _, _, _, _]) dX2_replacedPart_126 (by decide) rfl ?_
          refine tz_aload_n (pc := 128) dX2_replacedPart_128 rfl rfl ?_
          refine tz_fR (pc := 129) dX2_replacedPart_129 fl_X2_28 r_141_0 ?_
          refine tz_aload_n (pc := 132) dX2_replacedPart_132 rfl rfl ?_
          refine tz_fR (pc := 133) dX2_replacedPart_133 fl_X2_28 r_141_0 ?_
          refine tz_fR (pc := 136) dX2_replacedPart_136 fl_X2_42 r_6_1 ?_
          refine tz_iload_n (pc := 139) dX2_replacedPart_139 rfl rfl ?_
          refine tz_aL (pc := 140) (z := t) (v := (J_58 7 t)) dX2_replacedPart_140 a_7 rfl (by omega) rfl (fun r_140 => ?_)
          refine tz_iload (pc := 141) dX2_replacedPart_141 rfl ?_
          refine tz_iload (pc := 143) dX2_replacedPart_143 rfl ?_
          refine tz_iload (pc := 145) dX2_replacedPart_145 rfl ?_
          refine tz_cV (pc := 147) (c_made hl n _ _ _ _ _ (by omega) (by omega) (by omega) (by omega) m1 g1.2.1 g1.2.2.1 (by omega) (GR.lt g1 ht (fun h => by have := GR.arg g1 C ht (i := 0) (by omega); omega) (fun h => by have := GR.arg g1 C ht (i := 1) (by omega); omega) (fun h => by have := GR.arg g1 C ht (i := 2) (by omega); omega))) vl_X2_52 dX2_replacedPart_147 o_6 rfl rfl (Nat.le_of_ble_eq_true rfl) ⟨(Nat.le_of_ble_eq_true rfl), (Nat.le_of_ble_eq_true rfl)⟩ rfl rfl (Nat.le_of_ble_eq_true rfl) (Nat.le_of_ble_eq_true rfl) (fun r9 J_147 hq9 => ?_)
          obtain ⟨z_147, rfl, hz_147, p_9⟩ := hq9
          obtain ⟨m9, g9, h9⟩ := GR.made p_9 (by omega)
          have q9 := GR.tr g1 g9
          exact tz_iret (pc := 150) (z := z_147) dX2_replacedPart_150 rfl (Nat.le_of_ble_eq_true rfl) (Nat.le_of_ble_eq_true rfl) ⟨Nat.le_refl _, Nat.le_add_right _ _⟩ ⟨_, rfl, (by omega), ⟨m9, q9, h9, fun S hG E => by rw [puO_s, if_neg (by omega)]; exact pu_end hG E C hm ht hz1 hz2 hz3 g1 h1 x1 p_9 (by first | exact Or.inl ⟨by omega, rfl⟩ | exact Or.inr ⟨by omega, rfl⟩) (by first | exact Or.inl ⟨by omega, rfl⟩ | exact Or.inr ⟨by omega, rfl⟩) (by first | exact Or.inl ⟨by omega, rfl⟩ | exact Or.inr ⟨by omega, rfl⟩)⟩⟩
    · refine tz_iload (pc := 68) dX2_replacedPart_68 rfl ?_
      refine tz_goto (pc := 70) (tgt := 82) dX2_replacedPart_70 (by decide) ?_
      refine tz_istore (pc := 82) (L2 := [_, _, _, _, _, _, _, _, _, _, _]) dX2_replacedPart_82 (by decide) rfl ?_
      refine tz_iload (pc := 84) dX2_replacedPart_84 rfl ?_
      refine tz_iconst (pc := 86) dX2_replacedPart_86 ?_
      refine tz_icmp_ne (pc := 87) (tgt := 95) dX2_replacedPart_87 (by decide) (by omega) (by decide) (fun h_87 => ?_) (fun h_87 => ?_)
      · refine tz_aload_n (pc := 95) dX2_replacedPart_95 rfl rfl ?_
        refine tz_fR (pc := 96) dX2_replacedPart_96 fl_X2_28 r_141_0 ?_
        refine tz_iload_n (pc := 99) dX2_replacedPart_99 rfl rfl ?_
        refine tz_iconst (pc := 100) dX2_replacedPart_100 ?_
        refine tz_cV (pc := 101) (c_arg hl n _ _ _ (by omega) (by decide) (by omega)) vl_X2_48 dX2_replacedPart_101 o_6 rfl rfl (Nat.le_of_ble_eq_true rfl) ⟨(Nat.le_of_ble_eq_true rfl), (Nat.le_of_ble_eq_true rfl)⟩ rfl rfl (Nat.le_of_ble_eq_true rfl) (Nat.le_of_ble_eq_true rfl) (fun r9 J_101 hq9 => ?_)
        obtain ⟨z_101, rfl, hz_101, rfl, rfl⟩ := hq9
        refine tz_istore (pc := 104) (L2 := [_, _, _, _, _, _, _, _, _, _, _]) dX2_replacedPart_104 (by decide) rfl ?_
        refine tz_iload (pc := 106) dX2_replacedPart_106 rfl ?_
        refine tz_iconst (pc := 108) dX2_replacedPart_108 ?_
        refine tz_icmp_ne (pc := 109) (tgt := 117) dX2_replacedPart_109 (by decide) (by omega) (by decide) (fun h_109 => ?_) (fun h_109 => ?_)
        · refine tz_aload_n (pc := 117) dX2_replacedPart_117 rfl rfl ?_
          refine tz_fR (pc := 118) dX2_replacedPart_118 fl_X2_28 r_141_0 ?_
          refine tz_iload_n (pc := 121) dX2_replacedPart_121 rfl rfl ?_
          refine tz_iconst (pc := 122) dX2_replacedPart_122 ?_
          refine tz_cV (pc := 123) (c_arg hl n _ _ _ (by omega) (by decide) (by omega)) vl_X2_48 dX2_replacedPart_123 o_6 rfl rfl (Nat.le_of_ble_eq_true rfl) ⟨(Nat.le_of_ble_eq_true rfl), (Nat.le_of_ble_eq_true rfl)⟩ rfl rfl (Nat.le_of_ble_eq_true rfl) (Nat.le_of_ble_eq_true rfl) (fun r9 J_123 hq9 => ?_)
          obtain ⟨z_123, rfl, hz_123, rfl, rfl⟩ := hq9
          refine tz_istore (pc := 126) (L2 := [_, _, _, _, _, _, _, _, _, _, _]) dX2_replacedPart_126 (by decide) rfl ?_
          refine tz_aload_n (pc := 128) dX2_replacedPart_128 rfl rfl ?_
          refine tz_fR (pc := 129) dX2_replacedPart_129 fl_X2_28 r_141_0 ?_
          refine tz_aload_n (pc := 132) dX2_replacedPart_132 rfl rfl ?_
          refine tz_fR (pc := 133) dX2_replacedPart_133 fl_X2_28 r_141_0 ?_
          refine tz_fR (pc := 136) dX2_replacedPart_136 fl_X2_42 r_6_1 ?_
          refine tz_iload_n (pc := 139) dX2_replacedPart_139 rfl rfl ?_
          refine tz_aL (pc := 140) (z := t) (v := (J_58 7 t)) dX2_replacedPart_140 a_7 rfl (by omega) rfl (fun r_140 => ?_)
          refine tz_iload (pc := 141) dX2_replacedPart_141 rfl ?_
          refine tz_iload (pc := 143) dX2_replacedPart_143 rfl ?_
          refine tz_iload (pc := 145) dX2_replacedPart_145 rfl ?_
          refine tz_cV (pc := 147) (c_made hl n _ _ _ _ _ (by omega) (by omega) (by omega) (by omega) m1 g1.2.1 g1.2.2.1 (by omega) (GR.lt g1 ht (fun h => by have := GR.arg g1 C ht (i := 0) (by omega); omega) (fun h => by have := GR.arg g1 C ht (i := 1) (by omega); omega) (fun h => by have := GR.arg g1 C ht (i := 2) (by omega); omega))) vl_X2_52 dX2_replacedPart_147 o_6 rfl rfl (Nat.le_of_ble_eq_true rfl) ⟨(Nat.le_of_ble_eq_true rfl), (Nat.le_of_ble_eq_true rfl)⟩ rfl rfl (Nat.le_of_ble_eq_true rfl) (Nat.le_of_ble_eq_true rfl) (fun r9 J_147 hq9 => ?_)
          obtain ⟨z_147, rfl, hz_147, p_9⟩ := hq9
          obtain ⟨m9, g9, h9⟩ := GR.made p_9 (by omega)
          have q9 := GR.tr g1 g9
          exact tz_iret (pc := 150) (z := z_147) dX2_replacedPart_150 rfl (Nat.le_of_ble_eq_true rfl) (Nat.le_of_ble_eq_true rfl) ⟨Nat.le_refl _, Nat.le_add_right _ _⟩ ⟨_, rfl, (by omega), ⟨m9, q9, h9, fun S hG E => by rw [puO_s, if_neg (by omega)]; exact pu_end hG E C hm ht hz1 hz2 hz3 g1 h1 x1 p_9 (by first | exact Or.inl ⟨by omega, rfl⟩ | exact Or.inr ⟨by omega, rfl⟩) (by first | exact Or.inl ⟨by omega, rfl⟩ | exact Or.inr ⟨by omega, rfl⟩) (by first | exact Or.inl ⟨by omega, rfl⟩ | exact Or.inr ⟨by omega, rfl⟩)⟩⟩
        · refine tz_iload (pc := 112) dX2_replacedPart_112 rfl ?_
          refine tz_goto (pc := 114) (tgt := 126) dX2_replacedPart_114 (by decide) ?_
          refine tz_istore (pc := 126) (L2 := [_, _, _, _, _, _, _, _, _, _, _]) dX2_replacedPart_126 (by decide) rfl ?_
          refine tz_aload_n (pc := 128) dX2_replacedPart_128 rfl rfl ?_
          refine tz_fR (pc := 129) dX2_replacedPart_129 fl_X2_28 r_141_0 ?_
          refine tz_aload_n (pc := 132) dX2_replacedPart_132 rfl rfl ?_
          refine tz_fR (pc := 133) dX2_replacedPart_133 fl_X2_28 r_141_0 ?_
          refine tz_fR (pc := 136) dX2_replacedPart_136 fl_X2_42 r_6_1 ?_
          refine tz_iload_n (pc := 139) dX2_replacedPart_139 rfl rfl ?_
          refine tz_aL (pc := 140) (z := t) (v := (J_58 7 t)) dX2_replacedPart_140 a_7 rfl (by omega) rfl (fun r_140 => ?_)
          refine tz_iload (pc := 141) dX2_replacedPart_141 rfl ?_
          refine tz_iload (pc := 143) dX2_replacedPart_143 rfl ?_
          refine tz_iload (pc := 145) dX2_replacedPart_145 rfl ?_
          refine tz_cV (pc := 147) (c_made hl n _ _ _ _ _ (by omega) (by omega) (by omega) (by omega) m1 g1.2.1 g1.2.2.1 (by omega) (GR.lt g1 ht (fun h => by have := GR.arg g1 C ht (i := 0) (by omega); omega) (fun h => by have := GR.arg g1 C ht (i := 1) (by omega); omega) (fun h => by have := GR.arg g1 C ht (i := 2) (by omega); omega))) vl_X2_52 dX2_replacedPart_147 o_6 rfl rfl (Nat.le_of_ble_eq_true rfl) ⟨(Nat.le_of_ble_eq_true rfl), (Nat.le_of_ble_eq_true rfl)⟩ rfl rfl (Nat.le_of_ble_eq_true rfl) (Nat.le_of_ble_eq_true rfl) (fun r9 J_147 hq9 => ?_)
          obtain ⟨z_147, rfl, hz_147, p_9⟩ := hq9
          obtain ⟨m9, g9, h9⟩ := GR.made p_9 (by omega)
          have q9 := GR.tr g1 g9
          exact tz_iret (pc := 150) (z := z_147) dX2_replacedPart_150 rfl (Nat.le_of_ble_eq_true rfl) (Nat.le_of_ble_eq_true rfl) ⟨Nat.le_refl _, Nat.le_add_right _ _⟩ ⟨_, rfl, (by omega), ⟨m9, q9, h9, fun S hG E => by rw [puO_s, if_neg (by omega)]; exact pu_end hG E C hm ht hz1 hz2 hz3 g1 h1 x1 p_9 (by first | exact Or.inl ⟨by omega, rfl⟩ | exact Or.inr ⟨by omega, rfl⟩) (by first | exact Or.inl ⟨by omega, rfl⟩ | exact Or.inr ⟨by omega, rfl⟩) (by first | exact Or.inl ⟨by omega, rfl⟩ | exact Or.inr ⟨by omega, rfl⟩)⟩⟩
      · refine tz_iload (pc := 90) dX2_replacedPart_90 rfl ?_
        refine tz_goto (pc := 92) (tgt := 104) dX2_replacedPart_92 (by decide) ?_
        refine tz_istore (pc := 104) (L2 := [_, _, _, _, _, _, _, _, _, _, _]) dX2_replacedPart_104 (by decide) rfl ?_
        refine tz_iload (pc := 106) dX2_replacedPart_106 rfl ?_
        refine tz_iconst (pc := 108) dX2_replacedPart_108 ?_
        refine tz_icmp_ne (pc := 109) (tgt := 117) dX2_replacedPart_109 (by decide) (by omega) (by decide) (fun h_109 => ?_) (fun h_109 => ?_)
        · refine tz_aload_n (pc := 117) dX2_replacedPart_117 rfl rfl ?_
          refine tz_fR (pc := 118) dX2_replacedPart_118 fl_X2_28 r_141_0 ?_
          refine tz_iload_n (pc := 121) dX2_replacedPart_121 rfl rfl ?_
          refine tz_iconst (pc := 122) dX2_replacedPart_122 ?_
          refine tz_cV (pc := 123) (c_arg hl n _ _ _ (by omega) (by decide) (by omega)) vl_X2_48 dX2_replacedPart_123 o_6 rfl rfl (Nat.le_of_ble_eq_true rfl) ⟨(Nat.le_of_ble_eq_true rfl), (Nat.le_of_ble_eq_true rfl)⟩ rfl rfl (Nat.le_of_ble_eq_true rfl) (Nat.le_of_ble_eq_true rfl) (fun r9 J_123 hq9 => ?_)
          obtain ⟨z_123, rfl, hz_123, rfl, rfl⟩ := hq9
          refine tz_istore (pc := 126) (L2 := [_, _, _, _, _, _, _, _, _, _, _]) dX2_replacedPart_126 (by decide) rfl ?_
          refine tz_aload_n (pc := 128) dX2_replacedPart_128 rfl rfl ?_
          refine tz_fR (pc := 129) dX2_replacedPart_129 fl_X2_28 r_141_0 ?_
          refine tz_aload_n (pc := 132) dX2_replacedPart_132 rfl rfl ?_
          refine tz_fR (pc := 133) dX2_replacedPart_133 fl_X2_28 r_141_0 ?_
          refine tz_fR (pc := 136) dX2_replacedPart_136 fl_X2_42 r_6_1 ?_
          refine tz_iload_n (pc := 139) dX2_replacedPart_139 rfl rfl ?_
          refine tz_aL (pc := 140) (z := t) (v := (J_58 7 t)) dX2_replacedPart_140 a_7 rfl (by omega) rfl (fun r_140 => ?_)
          refine tz_iload (pc := 141) dX2_replacedPart_141 rfl ?_
          refine tz_iload (pc := 143) dX2_replacedPart_143 rfl ?_
          refine tz_iload (pc := 145) dX2_replacedPart_145 rfl ?_
          refine tz_cV (pc := 147) (c_made hl n _ _ _ _ _ (by omega) (by omega) (by omega) (by omega) m1 g1.2.1 g1.2.2.1 (by omega) (GR.lt g1 ht (fun h => by have := GR.arg g1 C ht (i := 0) (by omega); omega) (fun h => by have := GR.arg g1 C ht (i := 1) (by omega); omega) (fun h => by have := GR.arg g1 C ht (i := 2) (by omega); omega))) vl_X2_52 dX2_replacedPart_147 o_6 rfl rfl (Nat.le_of_ble_eq_true rfl) ⟨(Nat.le_of_ble_eq_true rfl), (Nat.le_of_ble_eq_true rfl)⟩ rfl rfl (Nat.le_of_ble_eq_true rfl) (Nat.le_of_ble_eq_true rfl) (fun r9 J_147 hq9 => ?_)
          obtain ⟨z_147, rfl, hz_147, p_9⟩ := hq9
          obtain ⟨m9, g9, h9⟩ := GR.made p_9 (by omega)
          have q9 := GR.tr g1 g9
          exact tz_iret (pc := 150) (z := z_147) dX2_replacedPart_150 rfl (Nat.le_of_ble_eq_true rfl) (Nat.le_of_ble_eq_true rfl) ⟨Nat.le_refl _, Nat.le_add_right _ _⟩ ⟨_, rfl, (by omega), ⟨m9, q9, h9, fun S hG E => by rw [puO_s, if_neg (by omega)]; exact pu_end hG E C hm ht hz1 hz2 hz3 g1 h1 x1 p_9 (by first | exact Or.inl ⟨by omega, rfl⟩ | exact Or.inr ⟨by omega, rfl⟩) (by first | exact Or.inl ⟨by omega, rfl⟩ | exact Or.inr ⟨by omega, rfl⟩) (by first | exact Or.inl ⟨by omega, rfl⟩ | exact Or.inr ⟨by omega, rfl⟩)⟩⟩
        · refine tz_iload (pc := 112) dX2_replacedPart_112 rfl ?_
          refine tz_goto (pc := 114) (tgt := 126) dX2_replacedPart_114 (by decide) ?_
          refine tz_istore (pc := 126) (L2 := [_, _, _, _, _, _, _, _, _, _, _]) dX2_replacedPart_126 (by decide) rfl ?_
          refine tz_aload_n (pc := 128) dX2_replacedPart_128 rfl rfl ?_
          refine tz_fR (pc := 129) dX2_replacedPart_129 fl_X2_28 r_141_0 ?_
          refine tz_aload_n (pc := 132) dX2_replacedPart_132 rfl rfl ?_
          refine tz_fR (pc := 133) dX2_replacedPart_133 fl_X2_28 r_141_0 ?_
          refine tz_fR (pc := 136) dX2_replacedPart_136 fl_X2_42 r_6_1 ?_
          refine tz_iload_n (pc := 139) dX2_replacedPart_139 rfl rfl ?_
          refine tz_aL (pc := 140) (z := t) (v := (J_58 7 t)) dX2_replacedPart_140 a_7 rfl (by omega) rfl (fun r_140 => ?_)
          refine tz_iload (pc := 141) dX2_replacedPart_141 rfl ?_
          refine tz_iload (pc := 143) dX2_replacedPart_143 rfl ?_
          refine tz_iload (pc := 145) dX2_replacedPart_145 rfl ?_
          refine tz_cV (pc := 147) (c_made hl n _ _ _ _ _ (by omega) (by omega) (by omega) (by omega) m1 g1.2.1 g1.2.2.1 (by omega) (GR.lt g1 ht (fun h => by have := GR.arg g1 C ht (i := 0) (by omega); omega) (fun h => by have := GR.arg g1 C ht (i := 1) (by omega); omega) (fun h => by have := GR.arg g1 C ht (i := 2) (by omega); omega))) vl_X2_52 dX2_replacedPart_147 o_6 rfl rfl (Nat.le_of_ble_eq_true rfl) ⟨(Nat.le_of_ble_eq_true rfl), (Nat.le_of_ble_eq_true rfl)⟩ rfl rfl (Nat.le_of_ble_eq_true rfl) (Nat.le_of_ble_eq_true rfl) (fun r9 J_147 hq9 => ?_)
          obtain ⟨z_147, rfl, hz_147, p_9⟩ := hq9
          obtain ⟨m9, g9, h9⟩ := GR.made p_9 (by omega)
          have q9 := GR.tr g1 g9
          exact tz_iret (pc := 150) (z := z_147) dX2_replacedPart_150 rfl (Nat.le_of_ble_eq_true rfl) (Nat.le_of_ble_eq_true rfl) ⟨Nat.le_refl _, Nat.le_add_right _ _⟩ ⟨_, rfl, (by omega), ⟨m9, q9, h9, fun S hG E => by rw [puO_s, if_neg (by omega)]; exact pu_end hG E C hm ht hz1 hz2 hz3 g1 h1 x1 p_9 (by first | exact Or.inl ⟨by omega, rfl⟩ | exact Or.inr ⟨by omega, rfl⟩) (by first | exact Or.inl ⟨by omega, rfl⟩ | exact Or.inr ⟨by omega, rfl⟩) (by first | exact Or.inl ⟨by omega, rfl⟩ | exact Or.inr ⟨by omega, rfl⟩)⟩⟩
  · refine tz_iload_n (pc := 4) dX2_replacedPart_4 rfl rfl ?_
    exact tz_iret (pc := 5) (z := x) dX2_replacedPart_5 rfl (Nat.le_of_ble_eq_true rfl) (Nat.le_of_ble_eq_true rfl) ⟨Nat.le_refl _, Nat.le_add_right _ _⟩ ⟨_, rfl, (by omega), ⟨m, GR.rf C hm, by omega, fun S hG E => Or.inr ⟨by omega, by rw [puO_s, if_pos (by omega)]; exact hG, by rw [puO_s, if_pos (by omega)]; exact E, by rw [puO_s, if_pos (by omega)]⟩⟩⟩

set_option maxHeartbeats 4000000 in
set_option maxRecDepth 100000 in
theorem x_put4 {l : Launch} {G : tb_G} (hl : l.stackTraces = false) (n : Nat) (J : zJ) (t : Int) (p : Int) (x : Int) (hr_t : -2147483648 ≤ t ∧ t < 2147483648) (hr_p : -2147483648 ≤ p ∧ p < 2147483648) (hr_x : -2147483648 ≤ x ∧ x < 2147483648) (m : Int) (C : CT J m) (hm : J 6 12 = m) (ht : 0 ≤ t ∧ t < m) (hp : p < J 10 t) (ho : 0 ≤ x ∧ x < m) (hd : J 12 t ≤ 3) : tz_Ok l G M_X2_replacedPart 5 0 0 [.ref 141, zi t, zi p, zi x, zi 4] n J (zqi (fun z J' => ∃ m', GR J' J m m' ∧ (z = -3 ∨ (0 ≤ z ∧ z < m')) ∧ ∀ S, S 164 21 = 0 → A0 J S → EXO (puO x 3 S t p) z J')) zN := by
  refine tz_Ok.of hl (by decide +kernel) rfl (tb_c1 rfl) (Nat.le_of_ble_eq_true rfl) ?_
  show tz_At l G M_X2_replacedPart (tb_rm 5 0 0) none (tb_ZM G 0 0 (zQ n 0 (zqi (fun z J' => ∃ m', GR J' J m m' ∧ (z = -3 ∨ (0 ≤ z ∧ z < m')) ∧ ∀ S, S 164 21 = 0 → A0 J S → EXO (puO x 3 S t p) z J'))) (zX n 0 zN)) 0 0 n J 0 [some (.ref 141), some (zi t), some (zi p), some (zi x), some (zi 4), none, none, none, none, none, none] []
  have hb := C.told
  have har := C.ar ht.1 ht.2
  have hn := C.nums ht.1 ht.2
  refine tz_iload_n (pc := 0) dX2_replacedPart_0 rfl rfl ?_
  refine tz_if_gt (pc := 1) (tgt := 6) dX2_replacedPart_1 (by decide) (by omega) (fun h_1 => ?_) (fun h_1 => ?_)
  · refine tz_iload (pc := 6) dX2_replacedPart_6 rfl ?_
    refine tz_bipush (pc := 8) dX2_replacedPart_8 (by decide) ?_
    refine tz_icmp_leT (pc := 10) (tgt := 16) (by decide) dX2_replacedPart_10 (by decide) (by decide) (by decide) ?_
    refine tz_aload_n (pc := 16) dX2_replacedPart_16 rfl rfl ?_
    refine tz_fR (pc := 17) dX2_replacedPart_17 fl_X2_28 r_141_0 ?_
    refine tz_iload_n (pc := 20) dX2_replacedPart_20 rfl rfl ?_
    refine tz_iload_n (pc := 21) dX2_replacedPart_21 rfl rfl ?_
    refine tz_cV (pc := 22) (c_atPlace hl n _ _ _ (by omega) (by omega) m C (by omega) (by omega)) vl_X2_78 dX2_replacedPart_22 o_6 rfl rfl (Nat.le_of_ble_eq_true rfl) ⟨(Nat.le_of_ble_eq_true rfl), (Nat.le_of_ble_eq_true rfl)⟩ rfl rfl (Nat.le_of_ble_eq_true rfl) (Nat.le_of_ble_eq_true rfl) (fun r9 J_22 hq9 => ?_)
    obtain ⟨z_22, rfl, hz_22, rfl, hz1, hz2, hz3⟩ := hq9
    have hg := C.arg (t := t) (i := z_22) (by omega) (by omega) (by omega) (by omega)
    have hbd := zfr_bd C (t := t) (by omega) (by omega) z_22.toNat (by omega)
    refine tz_istore (pc := 25) (L2 := [_, _, _, _, _, _, _, _, _, _, _]) dX2_replacedPart_25 (by decide) rfl ?_
    refine tz_aload_n (pc := 27) dX2_replacedPart_27 rfl rfl ?_
    refine tz_fR (pc := 28) dX2_replacedPart_28 fl_X2_28 r_141_0 ?_
    refine tz_iload_n (pc := 31) dX2_replacedPart_31 rfl rfl ?_
    refine tz_iload (pc := 32) dX2_replacedPart_32 rfl ?_
    refine tz_cV (pc := 34) (c_arg hl n _ _ _ (by omega) (by omega) (by omega)) vl_X2_48 dX2_replacedPart_34 o_6 rfl rfl (Nat.le_of_ble_eq_true rfl) ⟨(Nat.le_of_ble_eq_true rfl), (Nat.le_of_ble_eq_true rfl)⟩ rfl rfl (Nat.le_of_ble_eq_true rfl) (Nat.le_of_ble_eq_true rfl) (fun r9 J_34 hq9 => ?_)
    obtain ⟨z_34, rfl, hz_34, rfl, rfl⟩ := hq9
    refine tz_istore (pc := 37) (L2 := [_, _, _, _, _, _, _, _, _, _, _]) dX2_replacedPart_37 (by decide) rfl ?_
    refine tz_aload_n (pc := 39) dX2_replacedPart_39 rfl rfl ?_
    refine tz_iload (pc := 40) dX2_replacedPart_40 rfl ?_
    refine tz_aload_n (pc := 42) dX2_replacedPart_42 rfl rfl ?_
    refine tz_fR (pc := 43) dX2_replacedPart_43 fl_X2_28 r_141_0 ?_
    refine tz_iload_n (pc := 46) dX2_replacedPart_46 rfl rfl ?_
    refine tz_iload_n (pc := 47) dX2_replacedPart_47 rfl rfl ?_
    refine tz_iload (pc := 48) dX2_replacedPart_48 rfl ?_
    refine tz_cV (pc := 50) (c_inArg hl n _ _ _ _ (by omega) (by omega) (by omega) m C (by omega) (by omega) (by omega)) vl_X2_81 dX2_replacedPart_50 o_6 rfl rfl (Nat.le_of_ble_eq_true rfl) ⟨(Nat.le_of_ble_eq_true rfl), (Nat.le_of_ble_eq_true rfl)⟩ rfl rfl (Nat.le_of_ble_eq_true rfl) (Nat.le_of_ble_eq_true rfl) (fun r9 J_50 hq9 => ?_)
    obtain ⟨z_50, rfl, hz_50, rfl, rfl⟩ := hq9
    refine tz_iload_n (pc := 53) dX2_replacedPart_53 rfl rfl ?_
    refine tz_iload (pc := 54) dX2_replacedPart_54 rfl ?_
    refine tz_iconst (pc := 56) dX2_replacedPart_56 ?_
    refine tz_iadd (pc := 57) (v := 5) dX2_replacedPart_57 (by decide) ?_
    refine tz_cV (pc := 58) (x_put5 hl n _ _ _ _ (by omega) (by omega) (by omega) m C hm (by omega) (by have := zfr_s (J := J) (t := t) (i := z_22) (by omega); omega) ho (by omega)) vl_X2_75 dX2_replacedPart_58 o_141 rfl rfl (Nat.le_of_ble_eq_true rfl) ⟨(Nat.le_of_ble_eq_true rfl), (Nat.le_of_ble_eq_true rfl)⟩ rfl rfl (Nat.le_of_ble_eq_true rfl) (Nat.le_of_ble_eq_true rfl) (fun r9 J_58 hq9 => ?_)
    obtain ⟨z_58, rfl, hz_58, m1, g1, h1, x1⟩ := hq9
    have d1 := g1.1
    have har2 := g1.2.1.ar (t := t) (by omega) (by omega)
    have e1 := g1.2.2.2.2 1 rfl
    refine tz_istore (pc := 61) (L2 := [_, _, _, _, _, _, _, _, _, _, _]) dX2_replacedPart_61 (by decide) rfl ?_
    refine tz_iload (pc := 63) dX2_replacedPart_63 rfl ?_
    refine tz_if_ne (pc := 65) (tgt := 73) dX2_replacedPart_65 (by decide) (by omega) (fun h_65 => ?_) (fun h_65 => ?_)
    · refine tz_aload_n (pc := 73) dX2_replacedPart_73 rfl rfl ?_
      refine tz_fR (pc := 74) dX2_replacedPart_74 fl_X2_28 r_141_0 ?_
      refine tz_iload_n (pc := 77) dX2_replacedPart_77 rfl rfl ?_
      refine tz_iconst (pc := 78) dX2_replacedPart_78 ?_
      refine tz_cV (pc := 79) (c_arg hl n _ _ _ (by omega) (by decide) (by omega)) vl_X2_48 dX2_replacedPart_79 o_6 rfl rfl (Nat.le_of_ble_eq_true rfl) ⟨(Nat.le_of_ble_eq_true rfl), (Nat.le_of_ble_eq_true rfl)⟩ rfl rfl (Nat.le_of_ble_eq_true rfl) (Nat.le_of_ble_eq_true rfl) (fun r9 J_79 hq9 => ?_)
      obtain ⟨z_79, rfl, hz_79, rfl, rfl⟩ := hq9
      refine tz_istore (pc := 82) (L2 := [_, _, _, _, _, _, _, _, _, _, _]) dX2_replacedPart_82 (by decide) rfl ?_
      refine tz_iload (pc := 84) dX2_replacedPart_84 rfl ?_
      refine tz_iconst (pc := 86) dX2_replacedPart_86 ?_
      refine tz_icmp_ne (pc := 87) (tgt := 95) dX2_replacedPart_87 (by decide) (by omega) (by decide) (fun h_87 => ?_) (fun h_87 => ?_)
      · refine tz_aload_n (pc := 95) dX2_replacedPart_95 rfl rfl ?_
        refine tz_fR (pc := 96) dX2_replacedPart_96 fl_X2_28 r_141_0 ?_
        refine tz_iload_n (pc := 99) dX2_replacedPart_99 rfl rfl ?_
        refine tz_iconst (pc := 100) dX2_replacedPart_100 ?_
        refine tz_cV (pc := 101) (c_arg hl n _ _ _ (by omega) (by decide) (by omega)) vl_X2_48 dX2_replacedPart_101 o_6 rfl rfl (Nat.le_of_ble_eq_true rfl) ⟨(Nat.le_of_ble_eq_true rfl), (Nat.le_of_ble_eq_true rfl)⟩ rfl rfl (Nat.le_of_ble_eq_true rfl) (Nat.le_of_ble_eq_true rfl) (fun r9 J_101 hq9 => ?_)
        obtain ⟨z_101, rfl, hz_101, rfl, rfl⟩ := hq9
        refine tz_istore (pc := 104) (L2 := [_, _, _, _, _, _, _, _, _, _, _]) dX2_replacedPart_104 (by decide) rfl ?_
        refine tz_iload (pc := 106) dX2_replacedPart_106 rfl ?_
        refine tz_iconst (pc := 108) dX2_replacedPart_108 ?_
        refine tz_icmp_ne (pc := 109) (tgt := 117) dX2_replacedPart_109 (by decide) (by omega) (by decide) (fun h_109 => ?_) (fun h_109 => ?_)
        · refine tz_aload_n (pc := 117) dX2_replacedPart_117 rfl rfl ?_
          refine tz_fR (pc := 118) dX2_replacedPart_118 fl_X2_28 r_141_0 ?_
          refine tz_iload_n (pc := 121) dX2_replacedPart_121 rfl rfl ?_
          refine tz_iconst (pc := 122) dX2_replacedPart_122 ?_
          refine tz_cV (pc := 123) (c_arg hl n _ _ _ (by omega) (by decide) (by omega)) vl_X2_48 dX2_replacedPart_123 o_6 rfl rfl (Nat.le_of_ble_eq_true rfl) ⟨(Nat.le_of_ble_eq_true rfl), (Nat.le_of_ble_eq_true rfl)⟩ rfl rfl (Nat.le_of_ble_eq_true rfl) (Nat.le_of_ble_eq_true rfl) (fun r9 J_123 hq9 => ?_)
          obtain ⟨z_123, rfl, hz_123, rfl, rfl⟩ := hq9
          refine tz_istore (pc := 126) (L2 := [_, _, _, _, _, _, _, _, _, _, _]) dX2_replacedPart_126 (by decide) rfl ?_
          refine tz_aload_n (pc := 128) dX2_replacedPart_128 rfl rfl ?_
          refine tz_fR (pc := 129) dX2_replacedPart_129 fl_X2_28 r_141_0 ?_
          refine tz_aload_n (pc := 132) dX2_replacedPart_132 rfl rfl ?_
          refine tz_fR (pc := 133) dX2_replacedPart_133 fl_X2_28 r_141_0 ?_
          refine tz_fR (pc := 136) dX2_replacedPart_136 fl_X2_42 r_6_1 ?_
          refine tz_iload_n (pc := 139) dX2_replacedPart_139 rfl rfl ?_
          refine tz_aL (pc := 140) (z := t) (v := (J_58 7 t)) dX2_replacedPart_140 a_7 rfl (by omega) rfl (fun r_140 => ?_)
          refine tz_iload (pc := 141) dX2_replacedPart_141 rfl ?_
          refine tz_iload (pc := 143) dX2_replacedPart_143 rfl ?_
          refine tz_iload (pc := 145) dX2_replacedPart_145 rfl ?_
          refine tz_cV (pc := 147) (c_made hl n _ _ _ _ _ (by omega) (by omega) (by omega) (by omega) m1 g1.2.1 g1.2.2.1 (by omega) (GR.lt g1 ht (fun h => by have := GR.arg g1 C ht (i := 0) (by omega); omega) (fun h => by have := GR.arg g1 C ht (i := 1) (by omega); omega) (fun h => by have := GR.arg g1 C ht (i := 2) (by omega); omega))) vl_X2_52 dX2_replacedPart_147 o_6 rfl rfl (Nat.le_of_ble_eq_true rfl) ⟨(Nat.le_of_ble_eq_true rfl), (Nat.le_of_ble_eq_true rfl)⟩ rfl rfl (Nat.le_of_ble_eq_true rfl) (Nat.le_of_ble_eq_true rfl) (fun r9 J_147 hq9 => ?_)
          obtain ⟨z_147, rfl, hz_147, p_9⟩ := hq9
          obtain ⟨m9, g9, h9⟩ := GR.made p_9 (by omega)
          have q9 := GR.tr g1 g9
          exact tz_iret (pc := 150) (z := z_147) dX2_replacedPart_150 rfl (Nat.le_of_ble_eq_true rfl) (Nat.le_of_ble_eq_true rfl) ⟨Nat.le_refl _, Nat.le_add_right _ _⟩ ⟨_, rfl, (by omega), ⟨m9, q9, h9, fun S hG E => by rw [puO_s, if_neg (by omega)]; exact pu_end hG E C hm ht hz1 hz2 hz3 g1 h1 x1 p_9 (by first | exact Or.inl ⟨by omega, rfl⟩ | exact Or.inr ⟨by omega, rfl⟩) (by first | exact Or.inl ⟨by omega, rfl⟩ | exact Or.inr ⟨by omega, rfl⟩) (by first | exact Or.inl ⟨by omega, rfl⟩ | exact Or.inr ⟨by omega, rfl⟩)⟩⟩
        · refine tz_iload (pc := 112) dX2_replacedPart_112 rfl ?_
          refine tz_goto (pc := 114) (tgt := 126) dX2_replacedPart_114 (by decide) ?_
          refine tz_istore (pc := 126) (L2 := [_, _, _, _, _, _, _, _, _, _, _]) dX2_replacedPart_126 (by decide) rfl ?_
          refine tz_aload_n (pc := 128) dX2_replacedPart_128 rfl rfl ?_
          refine tz_fR (pc := 129) dX2_replacedPart_129 fl_X2_28 r_141_0 ?_
          refine tz_aload_n (pc := 132) dX2_replacedPart_132 rfl rfl ?_
          refine tz_fR (pc := 133) dX2_replacedPart_133 fl_X2_28 r_141_0 ?_
          refine tz_fR (pc := 136) dX2_replacedPart_136 fl_X2_42 r_6_1 ?_
          refine tz_iload_n (pc := 139) dX2_replacedPart_139 rfl rfl ?_
          refine tz_aL (pc := 140) (z := t) (v := (J_58 7 t)) dX2_replacedPart_140 a_7 rfl (by omega) rfl (fun r_140 => ?_)
          refine tz_iload (pc := 141) dX2_replacedPart_141 rfl ?_
          refine tz_iload (pc := 143) dX2_replacedPart_143 rfl ?_
          refine tz_iload (pc := 145) dX2_replacedPart_145 rfl ?_
          refine tz_cV (pc := 147) (c_made hl n _ _ _ _ _ (by omega) (by omega) (by omega) (by omega) m1 g1.2.1 g1.2.2.1 (by omega) (GR.lt g1 ht (fun h => by have := GR.arg g1 C ht (i := 0) (by omega); omega) (fun h => by have := GR.arg g1 C ht (i := 1) (by omega); omega) (fun h => by have := GR.arg g1 C ht (i := 2) (by omega); omega))) vl_X2_52 dX2_replacedPart_147 o_6 rfl rfl (Nat.le_of_ble_eq_true rfl) ⟨(Nat.le_of_ble_eq_true rfl), (Nat.le_of_ble_eq_true rfl)⟩ rfl rfl (Nat.le_of_ble_eq_true rfl) (Nat.le_of_ble_eq_true rfl) (fun r9 J_147 hq9 => ?_)
          obtain ⟨z_147, rfl, hz_147, p_9⟩ := hq9
          obtain ⟨m9, g9, h9⟩ := GR.made p_9 (by omega)
          have q9 := GR.tr g1 g9
          exact tz_iret (pc := 150) (z := z_147) dX2_replacedPart_150 rfl (Nat.le_of_ble_eq_true rfl) (Nat.le_of_ble_eq_true rfl) ⟨Nat.le_refl _, Nat.le_add_right _ _⟩ ⟨_, rfl, (by omega), ⟨m9, q9, h9, fun S hG E => by rw [puO_s, if_neg (by omega)]; exact pu_end hG E C hm ht hz1 hz2 hz3 g1 h1 x1 p_9 (by first | exact Or.inl ⟨by omega, rfl⟩ | exact Or.inr ⟨by omega, rfl⟩) (by first | exact Or.inl ⟨by omega, rfl⟩ | exact Or.inr ⟨by omega, rfl⟩) (by first | exact Or.inl ⟨by omega, rfl⟩ | exact Or.inr ⟨by omega, rfl⟩)⟩⟩
      · refine tz_iload (pc := 90) dX2_replacedPart_90 rfl ?_
        refine tz_goto (pc := 92) (tgt := 104) dX2_replacedPart_92 (by decide) ?_
        refine tz_istore (pc := 104) (L2 := [_, _, _, _, _, _, _, _, _, _, _]) dX2_replacedPart_104 (by decide) rfl ?_
        refine tz_iload (pc := 106) dX2_replacedPart_106 rfl ?_
        refine tz_iconst (pc := 108) dX2_replacedPart_108 ?_
        refine tz_icmp_ne (pc := 109) (tgt := 117) dX2_replacedPart_109 (by decide) (by omega) (by decide) (fun h_109 => ?_) (fun h_109 => ?_)
        · refine tz_aload_n (pc := 117) dX2_replacedPart_117 rfl rfl ?_
          refine tz_fR (pc := 118) dX2_replacedPart_118 fl_X2_28 r_141_0 ?_
          refine tz_iload_n (pc := 121) dX2_replacedPart_121 rfl rfl ?_
          refine tz_iconst (pc := 122) dX2_replacedPart_122 ?_
          refine tz_cV (pc := 123) (c_arg hl n _ _ _ (by omega) (by decide) (by omega)) vl_X2_48 dX2_replacedPart_123 o_6 rfl rfl (Nat.le_of_ble_eq_true rfl) ⟨(Nat.le_of_ble_eq_true rfl), (Nat.le_of_ble_eq_true rfl)⟩ rfl rfl (Nat.le_of_ble_eq_true rfl) (Nat.le_of_ble_eq_true rfl) (fun r9 J_123 hq9 => ?_)
          obtain ⟨z_123, rfl, hz_123, rfl, rfl⟩ := hq9
          refine tz_istore (pc := 126) (L2 := [_, _, _, _, _, _, _, _, _, _, _]) dX2_replacedPart_126 (by decide) rfl ?_
          refine tz_aload_n (pc := 128) dX2_replacedPart_128 rfl rfl ?_
          refine tz_fR (pc := 129) dX2_replacedPart_129 fl_X2_28 r_141_0 ?_
          refine tz_aload_n (pc := 132) dX2_replacedPart_132 rfl rfl ?_
          refine tz_fR (pc := 133) dX2_replacedPart_133 fl_X2_28 r_141_0 ?_
          refine tz_fR (pc := 136) dX2_replacedPart_136 fl_X2_42 r_6_1 ?_
          refine tz_iload_n (pc := 139) dX2_replacedPart_139 rfl rfl ?_
          refine tz_aL (pc := 140) (z := t) (v := (J_58 7 t)) dX2_replacedPart_140 a_7 rfl (by omega) rfl (fun r_140 => ?_)
          refine tz_iload (pc := 141) dX2_replacedPart_141 rfl ?_
          refine tz_iload (pc := 143) dX2_replacedPart_143 rfl ?_
          refine tz_iload (pc := 145) dX2_replacedPart_145 rfl ?_
          refine tz_cV (pc := 147) (c_made hl n _ _ _ _ _ (by omega) (by omega) (by omega) (by omega) m1 g1.2.1 g1.2.2.1 (by omega) (GR.lt g1 ht (fun h => by have := GR.arg g1 C ht (i := 0) (by omega); omega) (fun h => by have := GR.arg g1 C ht (i := 1) (by omega); omega) (fun h => by have := GR.arg g1 C ht (i := 2) (by omega); omega))) vl_X2_52 dX2_replacedPart_147 o_6 rfl rfl (Nat.le_of_ble_eq_true rfl) ⟨(Nat.le_of_ble_eq_true rfl), (Nat.le_of_ble_eq_true rfl)⟩ rfl rfl (Nat.le_of_ble_eq_true rfl) (Nat.le_of_ble_eq_true rfl) (fun r9 J_147 hq9 => ?_)
          obtain ⟨z_147, rfl, hz_147, p_9⟩ := hq9
          obtain ⟨m9, g9, h9⟩ := GR.made p_9 (by omega)
          have q9 := GR.tr g1 g9
          exact tz_iret (pc := 150) (z := z_147) dX2_replacedPart_150 rfl (Nat.le_of_ble_eq_true rfl) (Nat.le_of_ble_eq_true rfl) ⟨Nat.le_refl _, Nat.le_add_right _ _⟩ ⟨_, rfl, (by omega), ⟨m9, q9, h9, fun S hG E => by rw [puO_s, if_neg (by omega)]; exact pu_end hG E C hm ht hz1 hz2 hz3 g1 h1 x1 p_9 (by first | exact Or.inl ⟨by omega, rfl⟩ | exact Or.inr ⟨by omega, rfl⟩) (by first | exact Or.inl ⟨by omega, rfl⟩ | exact Or.inr ⟨by omega, rfl⟩) (by first | exact Or.inl ⟨by omega, rfl⟩ | exact Or.inr ⟨by omega, rfl⟩)⟩⟩
        · refine tz_iload (pc := 112) dX2_replacedPart_112 rfl ?_
          refine tz_goto (pc := 114) (tgt := 126) dX2_replacedPart_114 (by decide) ?_
          refine tz_istore (pc := 126) (L2 := [_, _, _, _, _, _, _, _, _, _, _]) dX2_replacedPart_126 (by decide) rfl ?_
          refine tz_aload_n (pc := 128) dX2_replacedPart_128 rfl rfl ?_
          refine tz_fR (pc := 129) dX2_replacedPart_129 fl_X2_28 r_141_0 ?_
          refine tz_aload_n (pc := 132) dX2_replacedPart_132 rfl rfl ?_
          refine tz_fR (pc := 133) dX2_replacedPart_133 fl_X2_28 r_141_0 ?_
          refine tz_fR (pc := 136) dX2_replacedPart_136 fl_X2_42 r_6_1 ?_
          refine tz_iload_n (pc := 139) dX2_replacedPart_139 rfl rfl ?_
          refine tz_aL (pc := 140) (z := t) (v := (J_58 7 t)) dX2_replacedPart_140 a_7 rfl (by omega) rfl (fun r_140 => ?_)
          refine tz_iload (pc := 141) dX2_replacedPart_141 rfl ?_
          refine tz_iload (pc := 143) dX2_replacedPart_143 rfl ?_
          refine tz_iload (pc := 145) dX2_replacedPart_145 rfl ?_
          refine tz_cV (pc := 147) (c_made hl n _ _ _ _ _ (by omega) (by omega) (by omega) (by omega) m1 g1.2.1 g1.2.2.1 (by omega) (GR.lt g1 ht (fun h => by have := GR.arg g1 C ht (i := 0) (by omega); omega) (fun h => by have := GR.arg g1 C ht (i := 1) (by omega); omega) (fun h => by have := GR.arg g1 C ht (i := 2) (by omega); omega))) vl_X2_52 dX2_replacedPart_147 o_6 rfl rfl (Nat.le_of_ble_eq_true rfl) ⟨(Nat.le_of_ble_eq_true rfl), (Nat.le_of_ble_eq_true rfl)⟩ rfl rfl (Nat.le_of_ble_eq_true rfl) (Nat.le_of_ble_eq_true rfl) (fun r9 J_147 hq9 => ?_)
          obtain ⟨z_147, rfl, hz_147, p_9⟩ := hq9
          obtain ⟨m9, g9, h9⟩ := GR.made p_9 (by omega)
          have q9 := GR.tr g1 g9
          exact tz_iret (pc := 150) (z := z_147) dX2_replacedPart_150 rfl (Nat.le_of_ble_eq_true rfl) (Nat.le_of_ble_eq_true rfl) ⟨Nat.le_refl _, Nat.le_add_right _ _⟩ ⟨_, rfl, (by omega), ⟨m9, q9, h9, fun S hG E => by rw [puO_s, if_neg (by omega)]; exact pu_end hG E C hm ht hz1 hz2 hz3 g1 h1 x1 p_9 (by first | exact Or.inl ⟨by omega, rfl⟩ | exact Or.inr ⟨by omega, rfl⟩) (by first | exact Or.inl ⟨by omega, rfl⟩ | exact Or.inr ⟨by omega, rfl⟩) (by first | exact Or.inl ⟨by omega, rfl⟩ | exact Or.inr ⟨by omega, rfl⟩)⟩⟩
    · refine tz_iload (pc := 68) dX2_replacedPart_68 rfl ?_
      refine tz_goto (pc := 70) (tgt := 82) dX2_replacedPart_70 (by decide) ?_
      refine tz_istore (pc := 82) (L2 := [_, _, _, _, _, _, _, _, _, _, _]) dX2_replacedPart_82 (by decide) rfl ?_
      refine tz_iload (pc := 84) dX2_replacedPart_84 rfl ?_
      refine tz_iconst (pc := 86) dX2_replacedPart_86 ?_
      refine tz_icmp_ne (pc := 87) (tgt := 95) dX2_replacedPart_87 (by decide) (by omega) (by decide) (fun h_87 => ?_) (fun h_87 => ?_)
      · refine tz_aload_n (pc := 95) dX2_replacedPart_95 rfl rfl ?_
        refine tz_fR (pc := 96) dX2_replacedPart_96 fl_X2_28 r_141_0 ?_
        refine tz_iload_n (pc := 99) dX2_replacedPart_99 rfl rfl ?_
        refine tz_iconst (pc := 100) dX2_replacedPart_100 ?_
        refine tz_cV (pc := 101) (c_arg hl n _ _ _ (by omega) (by decide) (by omega)) vl_X2_48 dX2_replacedPart_101 o_6 rfl rfl (Nat.le_of_ble_eq_true rfl) ⟨(Nat.le_of_ble_eq_true rfl), (Nat.le_of_ble_eq_true rfl)⟩ rfl rfl (Nat.le_of_ble_eq_true rfl) (Nat.le_of_ble_eq_true rfl) (fun r9 J_101 hq9 => ?_)
        obtain ⟨z_101, rfl, hz_101, rfl, rfl⟩ := hq9
        refine tz_istore (pc := 104) (L2 := [_, _, _, _, _, _, _, _, _, _, _]) dX2_replacedPart_104 (by decide) rfl ?_
        refine tz_iload (pc := 106) dX2_replacedPart_106 rfl ?_
        refine tz_iconst (pc := 108) dX2_replacedPart_108 ?_
        refine tz_icmp_ne (pc := 109) (tgt := 117) dX2_replacedPart_109 (by decide) (by omega) (by decide) (fun h_109 => ?_) (fun h_109 => ?_)
        · refine tz_aload_n (pc := 117) dX2_replacedPart_117 rfl rfl ?_
          refine tz_fR (pc := 118) dX2_replacedPart_118 fl_X2_28 r_141_0 ?_
          refine tz_iload_n (pc := 121) dX2_replacedPart_121 rfl rfl ?_
          refine tz_iconst (pc := 122) dX2_replacedPart_122 ?_
          refine tz_cV (pc := 123) (c_arg hl n _ _ _ (by omega) (by decide) (by omega)) vl_X2_48 dX2_replacedPart_123 o_6 rfl rfl (Nat.le_of_ble_eq_true rfl) ⟨(Nat.le_of_ble_eq_true rfl), (Nat.le_of_ble_eq_true rfl)⟩ rfl rfl (Nat.le_of_ble_eq_true rfl) (Nat.le_of_ble_eq_true rfl) (fun r9 J_123 hq9 => ?_)
          obtain ⟨z_123, rfl, hz_123, rfl, rfl⟩ := hq9
          refine tz_istore (pc := 126) (L2 := [_, _, _, _, _, _, _, _, _, _, _]) dX2_replacedPart_126 (by decide) rfl ?_
          refine tz_aload_n (pc := 128) dX2_replacedPart_128 rfl rfl ?_
          refine tz_fR (pc := 129) dX2_replacedPart_129 fl_X2_28 r_141_0 ?_
          refine tz_aload_n (pc := 132) dX2_replacedPart_132 rfl rfl ?_
          refine tz_fR (pc := 133) dX2_replacedPart_133 fl_X2_28 r_141_0 ?_
          refine tz_fR (pc := 136) dX2_replacedPart_136 fl_X2_42 r_6_1 ?_
          refine tz_iload_n (pc := 139) dX2_replacedPart_139 rfl rfl ?_
          refine tz_aL (pc := 140) (z := t) (v := (J_58 7 t)) dX2_replacedPart_140 a_7 rfl (by omega) rfl (fun r_140 => ?_)
          refine tz_iload (pc := 141) dX2_replacedPart_141 rfl ?_
          refine tz_iload (pc := 143) dX2_replacedPart_143 rfl ?_
          refine tz_iload (pc := 145) dX2_replacedPart_145 rfl ?_
          refine tz_cV (pc := 147) (c_made hl n _ _ _ _ _ (by omega) (by omega) (by omega) (by omega) m1 g1.2.1 g1.2.2.1 (by omega) (GR.lt g1 ht (fun h => by have := GR.arg g1 C ht (i := 0) (by omega); omega) (fun h => by have := GR.arg g1 C ht (i := 1) (by omega); omega) (fun h => by have := GR.arg g1 C ht (i := 2) (by omega); omega))) vl_X2_52 dX2_replacedPart_147 o_6 rfl rfl (Nat.le_of_ble_eq_true rfl) ⟨(Nat.le_of_ble_eq_true rfl), (Nat.le_of_ble_eq_true rfl)⟩ rfl rfl (Nat.le_of_ble_eq_true rfl) (Nat.le_of_ble_eq_true rfl) (fun r9 J_147 hq9 => ?_)
          obtain ⟨z_147, rfl, hz_147, p_9⟩ := hq9
          obtain ⟨m9, g9, h9⟩ := GR.made p_9 (by omega)
          have q9 := GR.tr g1 g9
          exact tz_iret (pc := 150) (z := z_147) dX2_replacedPart_150 rfl (Nat.le_of_ble_eq_true rfl) (Nat.le_of_ble_eq_true rfl) ⟨Nat.le_refl _, Nat.le_add_right _ _⟩ ⟨_, rfl, (by omega), ⟨m9, q9, h9, fun S hG E => by rw [puO_s, if_neg (by omega)]; exact pu_end hG E C hm ht hz1 hz2 hz3 g1 h1 x1 p_9 (by first | exact Or.inl ⟨by omega, rfl⟩ | exact Or.inr ⟨by omega, rfl⟩) (by first | exact Or.inl ⟨by omega, rfl⟩ | exact Or.inr ⟨by omega, rfl⟩) (by first | exact Or.inl ⟨by omega, rfl⟩ | exact Or.inr ⟨by omega, rfl⟩)⟩⟩
        · refine tz_iload (pc := 112) dX2_replacedPart_112 rfl ?_
          refine tz_goto (pc := 114) (tgt := 126) dX2_replacedPart_114 (by decide) ?_
          refine tz_istore (pc := 126) (L2 := [_, _, _, _, _, _, _, _, _, _, _]) dX2_replacedPart_126 (by decide) rfl ?_
          refine tz_aload_n (pc := 128) dX2_replacedPart_128 rfl rfl ?_
          refine tz_fR (pc := 129) dX2_replacedPart_129 fl_X2_28 r_141_0 ?_
          refine tz_aload_n (pc := 132) dX2_replacedPart_132 rfl rfl ?_
          refine tz_fR (pc := 133) dX2_replacedPart_133 fl_X2_28 r_141_0 ?_
          refine tz_fR (pc := 136) dX2_replacedPart_136 fl_X2_42 r_6_1 ?_
          refine tz_iload_n (pc := 139) dX2_replacedPart_139 rfl rfl ?_
          refine tz_aL (pc := 140) (z := t) (v := (J_58 7 t)) dX2_replacedPart_140 a_7 rfl (by omega) rfl (fun r_140 => ?_)
          refine tz_iload (pc := 141) dX2_replacedPart_141 rfl ?_
          refine tz_iload (pc := 143) dX2_replacedPart_143 rfl ?_
          refine tz_iload (pc := 145) dX2_replacedPart_145 rfl ?_
          refine tz_cV (pc := 147) (c_made hl n _ _ _ _ _ (by omega) (by omega) (by omega) (by omega) m1 g1.2.1 g1.2.2.1 (by omega) (GR.lt g1 ht (fun h => by have := GR.arg g1 C ht (i := 0) (by omega); omega) (fun h => by have := GR.arg g1 C ht (i := 1) (by omega); omega) (fun h => by have := GR.arg g1 C ht (i := 2) (by omega); omega))) vl_X2_52 dX2_replacedPart_147 o_6 rfl rfl (Nat.le_of_ble_eq_true rfl) ⟨(Nat.le_of_ble_eq_true rfl), (Nat.le_of_ble_eq_true rfl)⟩ rfl rfl (Nat.le_of_ble_eq_true rfl) (Nat.le_of_ble_eq_true rfl) (fun r9 J_147 hq9 => ?_)
          obtain ⟨z_147, rfl, hz_147, p_9⟩ := hq9
          obtain ⟨m9, g9, h9⟩ := GR.made p_9 (by omega)
          have q9 := GR.tr g1 g9
          exact tz_iret (pc := 150) (z := z_147) dX2_replacedPart_150 rfl (Nat.le_of_ble_eq_true rfl) (Nat.le_of_ble_eq_true rfl) ⟨Nat.le_refl _, Nat.le_add_right _ _⟩ ⟨_, rfl, (by omega), ⟨m9, q9, h9, fun S hG E => by rw [puO_s, if_neg (by omega)]; exact pu_end hG E C hm ht hz1 hz2 hz3 g1 h1 x1 p_9 (by first | exact Or.inl ⟨by omega, rfl⟩ | exact Or.inr ⟨by omega, rfl⟩) (by first | exact Or.inl ⟨by omega, rfl⟩ | exact Or.inr ⟨by omega, rfl⟩) (by first | exact Or.inl ⟨by omega, rfl⟩ | exact Or.inr ⟨by omega, rfl⟩)⟩⟩
      · refine tz_iload (pc := 90) dX2_replacedPart_90 rfl ?_
        refine tz_goto (pc := 92) (tgt := 104) dX2_replacedPart_92 (by decide) ?_
        refine tz_istore (pc := 104) (L2 := [_, _, _, _, _, _, _, _, _, _, _]) dX2_replacedPart_104 (by decide) rfl ?_
        refine tz_iload (pc := 106) dX2_replacedPart_106 rfl ?_
        refine tz_iconst (pc := 108) dX2_replacedPart_108 ?_
        refine tz_icmp_ne (pc := 109) (tgt := 117) dX2_replacedPart_109 (by decide) (by omega) (by decide) (fun h_109 => ?_) (fun h_109 => ?_)
        · refine tz_aload_n (pc := 117) dX2_replacedPart_117 rfl rfl ?_
          refine tz_fR (pc := 118) dX2_replacedPart_118 fl_X2_28 r_141_0 ?_
          refine tz_iload_n (pc := 121) dX2_replacedPart_121 rfl rfl ?_
          refine tz_iconst (pc := 122) dX2_replacedPart_122 ?_
          refine tz_cV (pc := 123) (c_arg hl n _ _ _ (by omega) (by decide) (by omega)) vl_X2_48 dX2_replacedPart_123 o_6 rfl rfl (Nat.le_of_ble_eq_true rfl) ⟨(Nat.le_of_ble_eq_true rfl), (Nat.le_of_ble_eq_true rfl)⟩ rfl rfl (Nat.le_of_ble_eq_true rfl) (Nat.le_of_ble_eq_true rfl) (fun r9 J_123 hq9 => ?_)
          obtain ⟨z_123, rfl, hz_123, rfl, rfl⟩ := hq9
          refine tz_istore (pc := 126) (L2 := [_, _, _, _, _, _, _, _, _, _, _]) dX2_replacedPart_126 (by decide) rfl ?_
          refine tz_aload_n (pc := 128) dX2_replacedPart_128 rfl rfl ?_
          refine tz_fR (pc := 129) dX2_replacedPart_129 fl_X2_28 r_141_0 ?_
          refine tz_aload_n (pc := 132) dX2_replacedPart_132 rfl rfl ?_
          refine tz_fR (pc := 133) dX2_replacedPart_133 fl_X2_28 r_141_0 ?_
          refine tz_fR (pc := 136) dX2_replacedPart_136 fl_X2_42 r_6_1 ?_
          refine tz_iload_n (pc := 139) dX2_replacedPart_139 rfl rfl ?_
          refine tz_aL (pc := 140) (z := t) (v := (J_58 7 t)) dX2_replacedPart_140 a_7 rfl (by omega) rfl (fun r_140 => ?_)
          refine tz_iload (pc := 141) dX2_replacedPart_141 rfl ?_
          refine tz_iload (pc := 143) dX2_replacedPart_143 rfl ?_
          refine tz_iload (pc := 145) dX2_replacedPart_145 rfl ?_
          refine tz_cV (pc := 147) (c_made hl n _ _ _ _ _ (by omega) (by omega) (by omega) (by omega) m1 g1.2.1 g1.2.2.1 (by omega) (GR.lt g1 ht (fun h => by have := GR.arg g1 C ht (i := 0) (by omega); omega) (fun h => by have := GR.arg g1 C ht (i := 1) (by omega); omega) (fun h => by have := GR.arg g1 C ht (i := 2) (by omega); omega))) vl_X2_52 dX2_replacedPart_147 o_6 rfl rfl (Nat.le_of_ble_eq_true rfl) ⟨(Nat.le_of_ble_eq_true rfl), (Nat.le_of_ble_eq_true rfl)⟩ rfl rfl (Nat.le_of_ble_eq_true rfl) (Nat.le_of_ble_eq_true rfl) (fun r9 J_147 hq9 => ?_)
          obtain ⟨z_147, rfl, hz_147, p_9⟩ := hq9
          obtain ⟨m9, g9, h9⟩ := GR.made p_9 (by omega)
          have q9 := GR.tr g1 g9
          exact tz_iret (pc := 150) (z := z_147) dX2_replacedPart_150 rfl (Nat.le_of_ble_eq_true rfl) (Nat.le_of_ble_eq_true rfl) ⟨Nat.le_refl _, Nat.le_add_right _ _⟩ ⟨_, rfl, (by omega), ⟨m9, q9, h9, fun S hG E => by rw [puO_s, if_neg (by omega)]; exact pu_end hG E C hm ht hz1 hz2 hz3 g1 h1 x1 p_9 (by first | exact Or.inl ⟨by omega, rfl⟩ | exact Or.inr ⟨by omega, rfl⟩) (by first | exact Or.inl ⟨by omega, rfl⟩ | exact Or.inr ⟨by omega, rfl⟩) (by first | exact Or.inl ⟨by omega, rfl⟩ | exact Or.inr ⟨by omega, rfl⟩)⟩⟩
        · refine tz_iload (pc := 112) dX2_replacedPart_112 rfl ?_
          refine tz_goto (pc := 114) (tgt := 126) dX2_replacedPart_114 (by decide) ?_
          refine tz_istore (pc := 126) (L2 := [_, _, _, _, _, _, _, _, _, _, _]) dX2_replacedPart_126 (by decide) rfl ?_
          refine tz_aload_n (pc := 128) dX2_replacedPart_128 rfl rfl ?_
          refine tz_fR (pc := 129) dX2_replacedPart_129 fl_X2_28 r_141_0 ?_
          refine tz_aload_n (pc := 132) dX2_replacedPart_132 rfl rfl ?_
          refine tz_fR (pc := 133) dX2_replacedPart_133 fl_X2_28 r_141_0 ?_
          refine tz_fR (pc := 136) dX2_replacedPart_136 fl_X2_42 r_6_1 ?_
          refine tz_iload_n (pc := 139) dX2_replacedPart_139 rfl rfl ?_
          refine tz_aL (pc := 140) (z := t) (v := (J_58 7 t)) dX2_replacedPart_140 a_7 rfl (by omega) rfl (fun r_140 => ?_)
          refine tz_iload (pc := 141) dX2_replacedPart_141 rfl ?_
          refine tz_iload (pc := 143) dX2_replacedPart_143 rfl ?_
          refine tz_iload (pc := 145) dX2_replacedPart_145 rfl ?_
          refine tz_cV (pc := 147) (c_made hl n _ _ _ _ _ (by omega) (by omega) (by omega) (by omega) m1 g1.2.1 g1.2.2.1 (by omega) (GR.lt g1 ht (fun h => by have := GR.arg g1 C ht (i := 0) (by omega); omega) (fun h => by have := GR.arg g1 C ht (i := 1) (by omega); omega) (fun h => by have := GR.arg g1 C ht (i := 2) (by omega); omega))) vl_X2_52 dX2_replacedPart_147 o_6 rfl rfl (Nat.le_of_ble_eq_true rfl) ⟨(Nat.le_of_ble_eq_true rfl), (Nat.le_of_ble_eq_true rfl)⟩ rfl rfl (Nat.le_of_ble_eq_true rfl) (Nat.le_of_ble_eq_true rfl) (fun r9 J_147 hq9 => ?_)
          obtain ⟨z_147, rfl, hz_147, p_9⟩ := hq9
          obtain ⟨m9, g9, h9⟩ := GR.made p_9 (by omega)
          have q9 := GR.tr g1 g9
          exact tz_iret (pc := 150) (z := z_147) dX2_replacedPart_150 rfl (Nat.le_of_ble_eq_true rfl) (Nat.le_of_ble_eq_true rfl) ⟨Nat.le_refl _, Nat.le_add_right _ _⟩ ⟨_, rfl, (by omega), ⟨m9, q9, h9, fun S hG E => by rw [puO_s, if_neg (by omega)]; exact pu_end hG E C hm ht hz1 hz2 hz3 g1 h1 x1 p_9 (by first | exact Or.inl ⟨by omega, rfl⟩ | exact Or.inr ⟨by omega, rfl⟩) (by first | exact Or.inl ⟨by omega, rfl⟩ | exact Or.inr ⟨by omega, rfl⟩) (by first | exact Or.inl ⟨by omega, rfl⟩ | exact Or.inr ⟨by omega, rfl⟩)⟩⟩
  · refine tz_iload_n (pc := 4) dX2_replacedPart_4 rfl rfl ?_
    exact tz_iret (pc := 5) (z := x) dX2_replacedPart_5 rfl (Nat.le_of_ble_eq_true rfl) (Nat.le_of_ble_eq_true rfl) ⟨Nat.le_refl _, Nat.le_add_right _ _⟩ ⟨_, rfl, (by omega), ⟨m, GR.rf C hm, by omega, fun S hG E => Or.inr ⟨by omega, by rw [puO_s, if_pos (by omega)]; exact hG, by rw [puO_s, if_pos (by omega)]; exact E, by rw [puO_s, if_pos (by omega)]⟩⟩⟩

set_option maxHeartbeats 4000000 in
set_option maxRecDepth 100000 in
theorem x_put3 {l : Launch} {G : tb_G} (hl : l.stackTraces = false) (n : Nat) (J : zJ) (t : Int) (p : Int) (x : Int) (hr_t : -2147483648 ≤ t ∧ t < 2147483648) (hr_p : -2147483648 ≤ p ∧ p < 2147483648) (hr_x : -2147483648 ≤ x ∧ x < 2147483648) (m : Int) (C : CT J m) (hm : J 6 12 = m) (ht : 0 ≤ t ∧ t < m) (hp : p < J 10 t) (ho : 0 ≤ x ∧ x < m) (hd : J 12 t ≤ 4) : tz_Ok l G M_X2_replacedPart 6 0 0 [.ref 141, zi t, zi p, zi x, zi 3] n J (zqi (fun z J' => ∃ m', GR J' J m m' ∧ (z = -3 ∨ (0 ≤ z ∧ z < m')) ∧ ∀ S, S 164 21 = 0 → A0 J S → EXO (puO x 4 S t p) z J')) zN := by
  refine tz_Ok.of hl (by decide +kernel) rfl (tb_c1 rfl) (Nat.le_of_ble_eq_true rfl) ?_
  show tz_At l G M_X2_replacedPart (tb_rm 6 0 0) none (tb_ZM G 0 0 (zQ n 0 (zqi (fun z J' => ∃ m', GR J' J m m' ∧ (z = -3 ∨ (0 ≤ z ∧ z < m')) ∧ ∀ S, S 164 21 = 0 → A0 J S → EXO (puO x 4 S t p) z J'))) (zX n 0 zN)) 0 0 n J 0 [some (.ref 141), some (zi t), some (zi p), some (zi x), some (zi 3), none, none, none, none, none, none] []
  have hb := C.told
  have har := C.ar ht.1 ht.2
  have hn := C.nums ht.1 ht.2
  refine tz_iload_n (pc := 0) dX2_replacedPart_0 rfl rfl ?_
  refine tz_if_gt (pc := 1) (tgt := 6) dX2_replacedPart_1 (by decide) (by omega) (fun h_1 => ?_) (fun h_1 => ?_)
  · refine tz_iload (pc := 6) dX2_replacedPart_6 rfl ?_
    refine tz_bipush (pc := 8) dX2_replacedPart_8 (by decide) ?_
    refine tz_icmp_leT (pc := 10) (tgt := 16) (by decide) dX2_replacedPart_10 (by decide) (by decide) (by decide) ?_
    refine tz_aload_n (pc := 16) dX2_replacedPart_16 rfl rfl ?_
    refine tz_fR (pc := 17) dX2_replacedPart_17 fl_X2_28 r_141_0 ?_
    refine tz_iload_n (pc := 20) dX2_replacedPart_20 rfl rfl ?_
    refine tz_iload_n (pc := 21) dX2_replacedPart_21 rfl rfl ?_
    refine tz_cV (pc := 22) (c_atPlace hl n _ _ _ (by omega) (by omega) m C (by omega) (by omega)) vl_X2_78 dX2_replacedPart_22 o_6 rfl rfl (Nat.le_of_ble_eq_true rfl) ⟨(Nat.le_of_ble_eq_true rfl), (Nat.le_of_ble_eq_true rfl)⟩ rfl rfl (Nat.le_of_ble_eq_true rfl) (Nat.le_of_ble_eq_true rfl) (fun r9 J_22 hq9 => ?_)
    obtain ⟨z_22, rfl, hz_22, rfl, hz1, hz2, hz3⟩ := hq9
    have hg := C.arg (t := t) (i := z_22) (by omega) (by omega) (by omega) (by omega)
    have hbd := zfr_bd C (t := t) (by omega) (by omega) z_22.toNat (by omega)
    refine tz_istore (pc := 25) (L2 := [_, _, _, _, _, _, _, _, _, _, _]) dX2_replacedPart_25 (by decide) rfl ?_
    refine tz_aload_n (pc := 27) dX2_replacedPart_27 rfl rfl ?_
    refine tz_fR (pc := 28) dX2_replacedPart_28 fl_X2_28 r_141_0 ?_
    refine tz_iload_n (pc := 31) dX2_replacedPart_31 rfl rfl ?_
    refine tz_iload (pc := 32) dX2_replacedPart_32 rfl ?_
    refine tz_cV (pc := 34) (c_arg hl n _ _ _ (by omega) (by omega) (by omega)) vl_X2_48 dX2_replacedPart_34 o_6 rfl rfl (Nat.le_of_ble_eq_true rfl) ⟨(Nat.le_of_ble_eq_true rfl), (Nat.le_of_ble_eq_true rfl)⟩ rfl rfl (Nat.le_of_ble_eq_true rfl) (Nat.le_of_ble_eq_true rfl) (fun r9 J_34 hq9 => ?_)
    obtain ⟨z_34, rfl, hz_34, rfl, rfl⟩ := hq9
    refine tz_istore (pc := 37) (L2 := [_, _, _, _, _, _, _, _, _, _, _]) dX2_replacedPart_37 (by decide) rfl ?_
    refine tz_aload_n (pc := 39) dX2_replacedPart_39 rfl rfl ?_
    refine tz_iload (pc := 40) dX2_replacedPart_40 rfl ?_
    refine tz_aload_n (pc := 42) dX2_replacedPart_42 rfl rfl ?_
    refine tz_fR (pc := 43) dX2_replacedPart_43 fl_X2_28 r_141_0 ?_
    refine tz_iload_n (pc := 46) dX2_replacedPart_46 rfl rfl ?_
    refine tz_iload_n (pc := 47) dX2_replacedPart_47 rfl rfl ?_
    refine tz_iload (pc := 48) dX2_replacedPart_48 rfl ?_
    refine tz_cV (pc := 50) (c_inArg hl n _ _ _ _ (by omega) (by omega) (by omega) m C (by omega) (by omega) (by omega)) vl_X2_81 dX2_replacedPart_50 o_6 rfl rfl (Nat.le_of_ble_eq_true rfl) ⟨(Nat.le_of_ble_eq_true rfl), (Nat.le_of_ble_eq_true rfl)⟩ rfl rfl (Nat.le_of_ble_eq_true rfl) (Nat.le_of_ble_eq_true rfl) (fun r9 J_50 hq9 => ?_)
    obtain ⟨z_50, rfl, hz_50, rfl, rfl⟩ := hq9
    refine tz_iload_n (pc := 53) dX2_replacedPart_53 rfl rfl ?_
    refine tz_iload (pc := 54) dX2_replacedPart_54 rfl ?_
    refine tz_iconst (pc := 56) dX2_replacedPart_56 ?_
    refine tz_iadd (pc := 57) (v := 4) dX2_replacedPart_57 (by decide) ?_
    refine tz_cV (pc := 58) (x_put4 hl n _ _ _ _ (by omega) (by omega) (by omega) m C hm (by omega) (by have := zfr_s (J := J) (t := t) (i := z_22) (by omega); omega) ho (by omega)) vl_X2_75 dX2_replacedPart_58 o_141 rfl rfl (Nat.le_of_ble_eq_true rfl) ⟨(Nat.le_of_ble_eq_true rfl), (Nat.le_of_ble_eq_true rfl)⟩ rfl rfl (Nat.le_of_ble_eq_true rfl) (Nat.le_of_ble_eq_true rfl) (fun r9 J_58 hq9 => ?_)
    obtain ⟨z_58, rfl, hz_58, m1, g1, h1, x1⟩ := hq9
    have d1 := g1.1
    have har2 := g1.2.1.ar (t := t) (by omega) (by omega)
    have e1 := g1.2.2.2.2 1 rfl
    refine tz_istore (pc := 61) (L2 := [_, _, _, _, _, _, _, _, _, _, _]) dX2_replacedPart_61 (by decide) rfl ?_
    refine tz_iload (pc := 63) dX2_replacedPart_63 rfl ?_
    refine tz_if_ne (pc := 65) (tgt := 73) dX2_replacedPart_65 (by decide) (by omega) (fun h_65 => ?_) (fun h_65 => ?_)
    · refine tz_aload_n (pc := 73) dX2_replacedPart_73 rfl rfl ?_
      refine tz_fR (pc := 74) dX2_replacedPart_74 fl_X2_28 r_141_0 ?_
      refine tz_iload_n (pc := 77) dX2_replacedPart_77 rfl rfl ?_
      refine tz_iconst (pc := 78) dX2_replacedPart_78 ?_
      refine tz_cV (pc := 79) (c_arg hl n _ _ _ (by omega) (by decide) (by omega)) vl_X2_48 dX2_replacedPart_79 o_6 rfl rfl (Nat.le_of_ble_eq_true rfl) ⟨(Nat.le_of_ble_eq_true rfl), (Nat.le_of_ble_eq_true rfl)⟩ rfl rfl (Nat.le_of_ble_eq_true rfl) (Nat.le_of_ble_eq_true rfl) (fun r9 J_79 hq9 => ?_)
      obtain ⟨z_79, rfl, hz_79, rfl, rfl⟩ := hq9
      refine tz_istore (pc := 82) (L2 := [_, _, _, _, _, _, _, _, _, _, _]) dX2_replacedPart_82 (by decide) rfl ?_
      refine tz_iload (pc := 84) dX2_replacedPart_84 rfl ?_
      refine tz_iconst (pc := 86) dX2_replacedPart_86 ?_
      refine tz_icmp_ne (pc := 87) (tgt := 95) dX2_replacedPart_87 (by decide) (by omega) (by decide) (fun h_87 => ?_) (fun h_87 => ?_)
      · refine tz_aload_n (pc := 95) dX2_replacedPart_95 rfl rfl ?_
        refine tz_fR (pc := 96) dX2_replacedPart_96 fl_X2_28 r_141_0 ?_
        refine tz_iload_n (pc := 99) dX2_replacedPart_99 rfl rfl ?_
        refine tz_iconst (pc := 100) dX2_replacedPart_100 ?_
        refine tz_cV (pc := 101) (c_arg hl n _ _ _ (by omega) (by decide) (by omega)) vl_X2_48 dX2_replacedPart_101 o_6 rfl rfl (Nat.le_of_ble_eq_true rfl) ⟨(Nat.le_of_ble_eq_true rfl), (Nat.le_of_ble_eq_true rfl)⟩ rfl rfl (Nat.le_of_ble_eq_true rfl) (Nat.le_of_ble_eq_true rfl) (fun r9 J_101 hq9 => ?_)
        obtain ⟨z_101, rfl, hz_101, rfl, rfl⟩ := hq9
        refine tz_istore (pc := 104) (L2 := [_, _, _, _, _, _, _, _, _, _, _]) dX2_replacedPart_104 (by decide) rfl ?_
        refine tz_iload (pc := 106) dX2_replacedPart_106 rfl ?_
        refine tz_iconst (pc := 108) dX2_replacedPart_108 ?_
        refine tz_icmp_ne (pc := 109) (tgt := 117) dX2_replacedPart_109 (by decide) (by omega) (by decide) (fun h_109 => ?_) (fun h_109 => ?_)
        · refine tz_aload_n (pc := 117) dX2_replacedPart_117 rfl rfl ?_
          refine tz_fR (pc := 118) dX2_replacedPart_118 fl_X2_28 r_141_0 ?_
          refine tz_iload_n (pc := 121) dX2_replacedPart_121 rfl rfl ?_
          refine tz_iconst (pc := 122) dX2_replacedPart_122 ?_
          refine tz_cV (pc := 123) (c_arg hl n _ _ _ (by omega) (by decide) (by omega)) vl_X2_48 dX2_replacedPart_123 o_6 rfl rfl (Nat.le_of_ble_eq_true rfl) ⟨(Nat.le_of_ble_eq_true rfl), (Nat.le_of_ble_eq_true rfl)⟩ rfl rfl (Nat.le_of_ble_eq_true rfl) (Nat.le_of_ble_eq_true rfl) (fun r9 J_123 hq9 => ?_)
          obtain ⟨z_123, rfl, hz_123, rfl, rfl⟩ := hq9
          refine tz_istore (pc := 126) (L2 := [_, _, _, _, _, _, _, _, _, _, _]) dX2_replacedPart_126 (by decide) rfl ?_
          refine tz_aload_n (pc := 128) dX2_replacedPart_128 rfl rfl ?_
          refine tz_fR (pc := 129) dX2_replacedPart_129 fl_X2_28 r_141_0 ?_
          refine tz_aload_n (pc := 132) dX2_replacedPart_132 rfl rfl ?_
          refine tz_fR (pc := 133) dX2_replacedPart_133 fl_X2_28 r_141_0 ?_
          refine tz_fR (pc := 136) dX2_replacedPart_136 fl_X2_42 r_6_1 ?_
          refine tz_iload_n (pc := 139) dX2_replacedPart_139 rfl rfl ?_
          refine tz_aL (pc := 140) (z := t) (v := (J_58 7 t)) dX2_replacedPart_140 a_7 rfl (by omega) rfl (fun r_140 => ?_)
          refine tz_iload (pc := 141) dX2_replacedPart_141 rfl ?_
          refine tz_iload (pc := 143) dX2_replacedPart_143 rfl ?_
          refine tz_iload (pc := 145) dX2_replacedPart_145 rfl ?_
          refine tz_cV (pc := 147) (c_made hl n _ _ _ _ _ (by omega) (by omega) (by omega) (by omega) m1 g1.2.1 g1.2.2.1 (by omega) (GR.lt g1 ht (fun h => by have := GR.arg g1 C ht (i := 0) (by omega); omega) (fun h => by have := GR.arg g1 C ht (i := 1) (by omega); omega) (fun h => by have := GR.arg g1 C ht (i := 2) (by omega); omega))) vl_X2_52 dX2_replacedPart_147 o_6 rfl rfl (Nat.le_of_ble_eq_true rfl) ⟨(Nat.le_of_ble_eq_true rfl), (Nat.le_of_ble_eq_true rfl)⟩ rfl rfl (Nat.le_of_ble_eq_true rfl) (Nat.le_of_ble_eq_true rfl) (fun r9 J_147 hq9 => ?_)
          obtain ⟨z_147, rfl, hz_147, p_9⟩ := hq9
          obtain ⟨m9, g9, h9⟩ := GR.made p_9 (by omega)
          have q9 := GR.tr g1 g9
          exact tz_iret (pc := 150) (z := z_147) dX2_replacedPart_150 rfl (Nat.le_of_ble_eq_true rfl) (Nat.le_of_ble_eq_true rfl) ⟨Nat.le_refl _, Nat.le_add_right _ _⟩ ⟨_, rfl, (by omega), ⟨m9, q9, h9, fun S hG E => by rw [puO_s, if_neg (by omega)]; exact pu_end hG E C hm ht hz1 hz2 hz3 g1 h1 x1 p_9 (by first | exact Or.inl ⟨by omega, rfl⟩ | exact Or.inr ⟨by omega, rfl⟩) (by first | exact Or.inl ⟨by omega, rfl⟩ | exact Or.inr ⟨by omega, rfl⟩) (by first | exact Or.inl ⟨by omega, rfl⟩ | exact Or.inr ⟨by omega, rfl⟩)⟩⟩
        · refine tz_iload (pc := 112) dX2_replacedPart_112 rfl ?_
          refine tz_goto (pc := 114) (tgt := 126) dX2_replacedPart_114 (by decide) ?_
          refine tz_istore (pc := 126) (L2 := [_, _, _, _, _, _, _, _, _, _, _]) dX2_replacedPart_126 (by decide) rfl ?_
          refine tz_aload_n (pc := 128) dX2_replacedPart_128 rfl rfl ?_
          refine tz_fR (pc := 129) dX2_replacedPart_129 fl_X2_28 r_141_0 ?_
          refine tz_aload_n (pc := 132) dX2_replacedPart_132 rfl rfl ?_
          refine tz_fR (pc := 133) dX2_replacedPart_133 fl_X2_28 r_141_0 ?_
          refine tz_fR (pc := 136) dX2_replacedPart_136 fl_X2_42 r_6_1 ?_
          refine tz_iload_n (pc := 139) dX2_replacedPart_139 rfl rfl ?_
          refine tz_aL (pc := 140) (z := t) (v := (J_58 7 t)) dX2_replacedPart_140 a_7 rfl (by omega) rfl (fun r_140 => ?_)
          refine tz_iload (pc := 141) dX2_replacedPart_141 rfl ?_
          refine tz_iload (pc := 143) dX2_replacedPart_143 rfl ?_
          refine tz_iload (pc := 145) dX2_replacedPart_145 rfl ?_
          refine tz_cV (pc := 147) (c_made hl n _ _ _ _ _ (by omega) (by omega) (by omega) (by omega) m1 g1.2.1 g1.2.2.1 (by omega) (GR.lt g1 ht (fun h => by have := GR.arg g1 C ht (i := 0) (by omega); omega) (fun h => by have := GR.arg g1 C ht (i := 1) (by omega); omega) (fun h => by have := GR.arg g1 C ht (i := 2) (by omega); omega))) vl_X2_52 dX2_replacedPart_147 o_6 rfl rfl (Nat.le_of_ble_eq_true rfl) ⟨(Nat.le_of_ble_eq_true rfl), (Nat.le_of_ble_eq_true rfl)⟩ rfl rfl (Nat.le_of_ble_eq_true rfl) (Nat.le_of_ble_eq_true rfl) (fun r9 J_147 hq9 => ?_)
          obtain ⟨z_147, rfl, hz_147, p_9⟩ := hq9
          obtain ⟨m9, g9, h9⟩ := GR.made p_9 (by omega)
          have q9 := GR.tr g1 g9
          exact tz_iret (pc := 150) (z := z_147) dX2_replacedPart_150 rfl (Nat.le_of_ble_eq_true rfl) (Nat.le_of_ble_eq_true rfl) ⟨Nat.le_refl _, Nat.le_add_right _ _⟩ ⟨_, rfl, (by omega), ⟨m9, q9, h9, fun S hG E => by rw [puO_s, if_neg (by omega)]; exact pu_end hG E C hm ht hz1 hz2 hz3 g1 h1 x1 p_9 (by first | exact Or.inl ⟨by omega, rfl⟩ | exact Or.inr ⟨by omega, rfl⟩) (by first | exact Or.inl ⟨by omega, rfl⟩ | exact Or.inr ⟨by omega, rfl⟩) (by first | exact Or.inl ⟨by omega, rfl⟩ | exact Or.inr ⟨by omega, rfl⟩)⟩⟩
      · refine tz_iload (pc := 90) dX2_replacedPart_90 rfl ?_
        refine tz_goto (pc := 92) (tgt := 104) dX2_replacedPart_92 (by decide) ?_
        refine tz_istore (pc := 104) (L2 := [_, _, _, _, _, _, _, _, _, _, _]) dX2_replacedPart_104 (by decide) rfl ?_
        refine tz_iload (pc := 106) dX2_replacedPart_106 rfl ?_
        refine tz_iconst (pc := 108) dX2_replacedPart_108 ?_
        refine tz_icmp_ne (pc := 109) (tgt := 117) dX2_replacedPart_109 (by decide) (by omega) (by decide) (fun h_109 => ?_) (fun h_109 => ?_)
        · refine tz_aload_n (pc := 117) dX2_replacedPart_117 rfl rfl ?_
          refine tz_fR (pc := 118) dX2_replacedPart_118 fl_X2_28 r_141_0 ?_
          refine tz_iload_n (pc := 121) dX2_replacedPart_121 rfl rfl ?_
          refine tz_iconst (pc := 122) dX2_replacedPart_122 ?_
          refine tz_cV (pc := 123) (c_arg hl n _ _ _ (by omega) (by decide) (by omega)) vl_X2_48 dX2_replacedPart_123 o_6 rfl rfl (Nat.le_of_ble_eq_true rfl) ⟨(Nat.le_of_ble_eq_true rfl), (Nat.le_of_ble_eq_true rfl)⟩ rfl rfl (Nat.le_of_ble_eq_true rfl) (Nat.le_of_ble_eq_true rfl) (fun r9 J_123 hq9 => ?_)
          obtain ⟨z_123, rfl, hz_123, rfl, rfl⟩ := hq9
          refine tz_istore (pc := 126) (L2 := [_, _, _, _, _, _, _, _, _, _, _]) dX2_replacedPart_126 (by decide) rfl ?_
          refine tz_aload_n (pc := 128) dX2_replacedPart_128 rfl rfl ?_
          refine tz_fR (pc := 129) dX2_replacedPart_129 fl_X2_28 r_141_0 ?_
          refine tz_aload_n (pc := 132) dX2_replacedPart_132 rfl rfl ?_
          refine tz_fR (pc := 133) dX2_replacedPart_133 fl_X2_28 r_141_0 ?_
          refine tz_fR (pc := 136) dX2_replacedPart_136 fl_X2_42 r_6_1 ?_
          refine tz_iload_n (pc := 139) dX2_replacedPart_139 rfl rfl ?_
          refine tz_aL (pc := 140) (z := t) (v := (J_58 7 t)) dX2_replacedPart_140 a_7 rfl (by omega) rfl (fun r_140 => ?_)
          refine tz_iload (pc := 141) dX2_replacedPart_141 rfl ?_
          refine tz_iload (pc := 143) dX2_replacedPart_143 rfl ?_
          refine tz_iload (pc := 145) dX2_replacedPart_145 rfl ?_
          refine tz_cV (pc := 147) (c_made hl n _ _ _ _ _ (by omega) (by omega) (by omega) (by omega) m1 g1.2.1 g1.2.2.1 (by omega) (GR.lt g1 ht (fun h => by have := GR.arg g1 C ht (i := 0) (by omega); omega) (fun h => by have := GR.arg g1 C ht (i := 1) (by omega); omega) (fun h => by have := GR.arg g1 C ht (i := 2) (by omega); omega))) vl_X2_52 dX2_replacedPart_147 o_6 rfl rfl (Nat.le_of_ble_eq_true rfl) ⟨(Nat.le_of_ble_eq_true rfl), (Nat.le_of_ble_eq_true rfl)⟩ rfl rfl (Nat.le_of_ble_eq_true rfl) (Nat.le_of_ble_eq_true rfl) (fun r9 J_147 hq9 => ?_)
          obtain ⟨z_147, rfl, hz_147, p_9⟩ := hq9
          obtain ⟨m9, g9, h9⟩ := GR.made p_9 (by omega)
          have q9 := GR.tr g1 g9
          exact tz_iret (pc := 150) (z := z_147) dX2_replacedPart_150 rfl (Nat.le_of_ble_eq_true rfl) (Nat.le_of_ble_eq_true rfl) ⟨Nat.le_refl _, Nat.le_add_right _ _⟩ ⟨_, rfl, (by omega), ⟨m9, q9, h9, fun S hG E => by rw [puO_s, if_neg (by omega)]; exact pu_end hG E C hm ht hz1 hz2 hz3 g1 h1 x1 p_9 (by first | exact Or.inl ⟨by omega, rfl⟩ | exact Or.inr ⟨by omega, rfl⟩) (by first | exact Or.inl ⟨by omega, rfl⟩ | exact Or.inr ⟨by omega, rfl⟩) (by first | exact Or.inl ⟨by omega, rfl⟩ | exact Or.inr ⟨by omega, rfl⟩)⟩⟩
        · refine tz_iload (pc := 112) dX2_replacedPart_112 rfl ?_
          refine tz_goto (pc := 114) (tgt := 126) dX2_replacedPart_114 (by decide) ?_
          refine tz_istore (pc := 126) (L2 := [_, _, _, _, _, _, _, _, _, _, _]) dX2_replacedPart_126 (by decide) rfl ?_
          refine tz_aload_n (pc := 128) dX2_replacedPart_128 rfl rfl ?_
          refine tz_fR (pc := 129) dX2_replacedPart_129 fl_X2_28 r_141_0 ?_
          refine tz_aload_n (pc := 132) dX2_replacedPart_132 rfl rfl ?_
          refine tz_fR (pc := 133) dX2_replacedPart_133 fl_X2_28 r_141_0 ?_
          refine tz_fR (pc := 136) dX2_replacedPart_136 fl_X2_42 r_6_1 ?_
          refine tz_iload_n (pc := 139) dX2_replacedPart_139 rfl rfl ?_
          refine tz_aL (pc := 140) (z := t) (v := (J_58 7 t)) dX2_replacedPart_140 a_7 rfl (by omega) rfl (fun r_140 => ?_)
          refine tz_iload (pc := 141) dX2_replacedPart_141 rfl ?_
          refine tz_iload (pc := 143) dX2_replacedPart_143 rfl ?_
          refine tz_iload (pc := 145) dX2_replacedPart_145 rfl ?_
          refine tz_cV (pc := 147) (c_made hl n _ _ _ _ _ (by omega) (by omega) (by omega) (by omega) m1 g1.2.1 g1.2.2.1 (by omega) (GR.lt g1 ht (fun h => by have := GR.arg g1 C ht (i := 0) (by omega); omega) (fun h => by have := GR.arg g1 C ht (i := 1) (by omega); omega) (fun h => by have := GR.arg g1 C ht (i := 2) (by omega); omega))) vl_X2_52 dX2_replacedPart_147 o_6 rfl rfl (Nat.le_of_ble_eq_true rfl) ⟨(Nat.le_of_ble_eq_true rfl), (Nat.le_of_ble_eq_true rfl)⟩ rfl rfl (Nat.le_of_ble_eq_true rfl) (Nat.le_of_ble_eq_true rfl) (fun r9 J_147 hq9 => ?_)
          obtain ⟨z_147, rfl, hz_147, p_9⟩ := hq9
          obtain ⟨m9, g9, h9⟩ := GR.made p_9 (by omega)
          have q9 := GR.tr g1 g9
          exact tz_iret (pc := 150) (z := z_147) dX2_replacedPart_150 rfl (Nat.le_of_ble_eq_true rfl) (Nat.le_of_ble_eq_true rfl) ⟨Nat.le_refl _, Nat.le_add_right _ _⟩ ⟨_, rfl, (by omega), ⟨m9, q9, h9, fun S hG E => by rw [puO_s, if_neg (by omega)]; exact pu_end hG E C hm ht hz1 hz2 hz3 g1 h1 x1 p_9 (by first | exact Or.inl ⟨by omega, rfl⟩ | exact Or.inr ⟨by omega, rfl⟩) (by first | exact Or.inl ⟨by omega, rfl⟩ | exact Or.inr ⟨by omega, rfl⟩) (by first | exact Or.inl ⟨by omega, rfl⟩ | exact Or.inr ⟨by omega, rfl⟩)⟩⟩
    · refine tz_iload (pc := 68) dX2_replacedPart_68 rfl ?_
      refine tz_goto (pc := 70) (tgt := 82) dX2_replacedPart_70 (by decide) ?_
      refine tz_istore (pc := 82) (L2 := [_, _, _, _, _, _, _, _, _, _, _]) dX2_replacedPart_82 (by decide) rfl ?_
      refine tz_iload (pc := 84) dX2_replacedPart_84 rfl ?_
      refine tz_iconst (pc := 86) dX2_replacedPart_86 ?_
      refine tz_icmp_ne (pc := 87) (tgt := 95) dX2_replacedPart_87 (by decide) (by omega) (by decide) (fun h_87 => ?_) (fun h_87 => ?_)
      · refine tz_aload_n (pc := 95) dX2_replacedPart_95 rfl rfl ?_
        refine tz_fR (pc := 96) dX2_replacedPart_96 fl_X2_28 r_141_0 ?_
        refine tz_iload_n (pc := 99) dX2_replacedPart_99 rfl rfl ?_
        refine tz_iconst (pc := 100) dX2_replacedPart_100 ?_
        refine tz_cV (pc := 101) (c_arg hl n _ _ _ (by omega) (by decide) (by omega)) vl_X2_48 dX2_replacedPart_101 o_6 rfl rfl (Nat.le_of_ble_eq_true rfl) ⟨(Nat.le_of_ble_eq_true rfl), (Nat.le_of_ble_eq_true rfl)⟩ rfl rfl (Nat.le_of_ble_eq_true rfl) (Nat.le_of_ble_eq_true rfl) (fun r9 J_101 hq9 => ?_)
        obtain ⟨z_101, rfl, hz_101, rfl, rfl⟩ := hq9
        refine tz_istore (pc := 104) (L2 := [_, _, _, _, _, _, _, _, _, _, _]) dX2_replacedPart_104 (by decide) rfl ?_
        refine tz_iload (pc := 106) dX2_replacedPart_106 rfl ?_
        refine tz_iconst (pc := 108) dX2_replacedPart_108 ?_
        refine tz_icmp_ne (pc := 109) (tgt := 117) dX2_replacedPart_109 (by decide) (by omega) (by decide) (fun h_109 => ?_) (fun h_109 => ?_)
        · refine tz_aload_n (pc := 117) dX2_replacedPart_117 rfl rfl ?_
          refine tz_fR (pc := 118) dX2_replacedPart_118 fl_X2_28 r_141_0 ?_
          refine tz_iload_n (pc := 121) dX2_replacedPart_121 rfl rfl ?_
          refine tz_iconst (pc := 122) dX2_replacedPart_122 ?_
          refine tz_cV (pc := 123) (c_arg hl n _ _ _ (by omega) (by decide) (by omega)) vl_X2_48 dX2_replacedPart_123 o_6 rfl rfl (Nat.le_of_ble_eq_true rfl) ⟨(Nat.le_of_ble_eq_true rfl), (Nat.le_of_ble_eq_true rfl)⟩ rfl rfl (Nat.le_of_ble_eq_true rfl) (Nat.le_of_ble_eq_true rfl) (fun r9 J_123 hq9 => ?_)
          obtain ⟨z_123, rfl, hz_123, rfl, rfl⟩ := hq9
          refine tz_istore (pc := 126) (L2 := [_, _, _, _, _, _, _, _, _, _, _]) dX2_replacedPart_126 (by decide) rfl ?_
          refine tz_aload_n (pc := 128) dX2_replacedPart_128 rfl rfl ?_
          refine tz_fR (pc := 129) dX2_replacedPart_129 fl_X2_28 r_141_0 ?_
          refine tz_aload_n (pc := 132) dX2_replacedPart_132 rfl rfl ?_
          refine tz_fR (pc := 133) dX2_replacedPart_133 fl_X2_28 r_141_0 ?_
          refine tz_fR (pc := 136) dX2_replacedPart_136 fl_X2_42 r_6_1 ?_
          refine tz_iload_n (pc := 139) dX2_replacedPart_139 rfl rfl ?_
          refine tz_aL (pc := 140) (z := t) (v := (J_58 7 t)) dX2_replacedPart_140 a_7 rfl (by omega) rfl (fun r_140 => ?_)
          refine tz_iload (pc := 141) dX2_replacedPart_141 rfl ?_
          refine tz_iload (pc := 143) dX2_replacedPart_143 rfl ?_
          refine tz_iload (pc := 145) dX2_replacedPart_145 rfl ?_
          refine tz_cV (pc := 147) (c_made hl n _ _ _ _ _ (by omega) (by omega) (by omega) (by omega) m1 g1.2.1 g1.2.2.1 (by omega) (GR.lt g1 ht (fun h => by have := GR.arg g1 C ht (i := 0) (by omega); omega) (fun h => by have := GR.arg g1 C ht (i := 1) (by omega); omega) (fun h => by have := GR.arg g1 C ht (i := 2) (by omega); omega))) vl_X2_52 dX2_replacedPart_147 o_6 rfl rfl (Nat.le_of_ble_eq_true rfl) ⟨(Nat.le_of_ble_eq_true rfl), (Nat.le_of_ble_eq_true rfl)⟩ rfl rfl (Nat.le_of_ble_eq_true rfl) (Nat.le_of_ble_eq_true rfl) (fun r9 J_147 hq9 => ?_)
          obtain ⟨z_147, rfl, hz_147, p_9⟩ := hq9
          obtain ⟨m9, g9, h9⟩ := GR.made p_9 (by omega)
          have q9 := GR.tr g1 g9
          exact tz_iret (pc := 150) (z := z_147) dX2_replacedPart_150 rfl (Nat.le_of_ble_eq_true rfl) (Nat.le_of_ble_eq_true rfl) ⟨Nat.le_refl _, Nat.le_add_right _ _⟩ ⟨_, rfl, (by omega), ⟨m9, q9, h9, fun S hG E => by rw [puO_s, if_neg (by omega)]; exact pu_end hG E C hm ht hz1 hz2 hz3 g1 h1 x1 p_9 (by first | exact Or.inl ⟨by omega, rfl⟩ | exact Or.inr ⟨by omega, rfl⟩) (by first | exact Or.inl ⟨by omega, rfl⟩ | exact Or.inr ⟨by omega, rfl⟩) (by first | exact Or.inl ⟨by omega, rfl⟩ | exact Or.inr ⟨by omega, rfl⟩)⟩⟩
        · refine tz_iload (pc := 112) dX2_replacedPart_112 rfl ?_
          refine tz_goto (pc := 114) (tgt := 126) dX2_replacedPart_114 (by decide) ?_
          refine tz_istore (pc := 126) (L2 := [_, _, _, _, _, _, _, _, _, _, _]) dX2_replacedPart_126 (by decide) rfl ?_
          refine tz_aload_n (pc := 128) dX2_replacedPart_128 rfl rfl ?_
          refine tz_fR (pc := 129) dX2_replacedPart_129 fl_X2_28 r_141_0 ?_
          refine tz_aload_n (pc := 132) dX2_replacedPart_132 rfl rfl ?_
          refine tz_fR (pc := 133) dX2_replacedPart_133 fl_X2_28 r_141_0 ?_
          refine tz_fR (pc := 136) dX2_replacedPart_136 fl_X2_42 r_6_1 ?_
          refine tz_iload_n (pc := 139) dX2_replacedPart_139 rfl rfl ?_
          refine tz_aL (pc := 140) (z := t) (v := (J_58 7 t)) dX2_replacedPart_140 a_7 rfl (by omega) rfl (fun r_140 => ?_)
          refine tz_iload (pc := 141) dX2_replacedPart_141 rfl ?_
          refine tz_iload (pc := 143) dX2_replacedPart_143 rfl ?_
          refine tz_iload (pc := 145) dX2_replacedPart_145 rfl ?_
          refine tz_cV (pc := 147) (c_made hl n _ _ _ _ _ (by omega) (by omega) (by omega) (by omega) m1 g1.2.1 g1.2.2.1 (by omega) (GR.lt g1 ht (fun h => by have := GR.arg g1 C ht (i := 0) (by omega); omega) (fun h => by have := GR.arg g1 C ht (i := 1) (by omega); omega) (fun h => by have := GR.arg g1 C ht (i := 2) (by omega); omega))) vl_X2_52 dX2_replacedPart_147 o_6 rfl rfl (Nat.le_of_ble_eq_true rfl) ⟨(Nat.le_of_ble_eq_true rfl), (Nat.le_of_ble_eq_true rfl)⟩ rfl rfl (Nat.le_of_ble_eq_true rfl) (Nat.le_of_ble_eq_true rfl) (fun r9 J_147 hq9 => ?_)
          obtain ⟨z_147, rfl, hz_147, p_9⟩ := hq9
          obtain ⟨m9, g9, h9⟩ := GR.made p_9 (by omega)
          have q9 := GR.tr g1 g9
          exact tz_iret (pc := 150) (z := z_147) dX2_replacedPart_150 rfl (Nat.le_of_ble_eq_true rfl) (Nat.le_of_ble_eq_true rfl) ⟨Nat.le_refl _, Nat.le_add_right _ _⟩ ⟨_, rfl, (by omega), ⟨m9, q9, h9, fun S hG E => by rw [puO_s, if_neg (by omega)]; exact pu_end hG E C hm ht hz1 hz2 hz3 g1 h1 x1 p_9 (by first | exact Or.inl ⟨by omega, rfl⟩ | exact Or.inr ⟨by omega, rfl⟩) (by first | exact Or.inl ⟨by omega, rfl⟩ | exact Or.inr ⟨by omega, rfl⟩) (by first | exact Or.inl ⟨by omega, rfl⟩ | exact Or.inr ⟨by omega, rfl⟩)⟩⟩
      · refine tz_iload (pc := 90) dX2_replacedPart_90 rfl ?_
        refine tz_goto (pc := 92) (tgt := 104) dX2_replacedPart_92 (by decide) ?_
        refine tz_istore (pc := 104) (L2 := [_, _, _, _, _, _, _, _, _, _, _]) dX2_replacedPart_104 (by decide) rfl ?_
        refine tz_iload (pc := 106) dX2_replacedPart_106 rfl ?_
        refine tz_iconst (pc := 108) dX2_replacedPart_108 ?_
        refine tz_icmp_ne (pc := 109) (tgt := 117) dX2_replacedPart_109 (by decide) (by omega) (by decide) (fun h_109 => ?_) (fun h_109 => ?_)
        · refine tz_aload_n (pc := 117) dX2_replacedPart_117 rfl rfl ?_
          refine tz_fR (pc := 118) dX2_replacedPart_118 fl_X2_28 r_141_0 ?_
          refine tz_iload_n (pc := 121) dX2_replacedPart_121 rfl rfl ?_
          refine tz_iconst (pc := 122) dX2_replacedPart_122 ?_
          refine tz_cV (pc := 123) (c_arg hl n _ _ _ (by omega) (by decide) (by omega)) vl_X2_48 dX2_replacedPart_123 o_6 rfl rfl (Nat.le_of_ble_eq_true rfl) ⟨(Nat.le_of_ble_eq_true rfl), (Nat.le_of_ble_eq_true rfl)⟩ rfl rfl (Nat.le_of_ble_eq_true rfl) (Nat.le_of_ble_eq_true rfl) (fun r9 J_123 hq9 => ?_)
          obtain ⟨z_123, rfl, hz_123, rfl, rfl⟩ := hq9
          refine tz_istore (pc := 126) (L2 := [_, _, _, _, _, _, _, _, _, _, _]) dX2_replacedPart_126 (by decide) rfl ?_
          refine tz_aload_n (pc := 128) dX2_replacedPart_128 rfl rfl ?_
          refine tz_fR (pc := 129) dX2_replacedPart_129 fl_X2_28 r_141_0 ?_
          refine tz_aload_n (pc := 132) dX2_replacedPart_132 rfl rfl ?_
          refine tz_fR (pc := 133) dX2_replacedPart_133 fl_X2_28 r_141_0 ?_
          refine tz_fR (pc := 136) dX2_replacedPart_136 fl_X2_42 r_6_1 ?_
          refine tz_iload_n (pc := 139) dX2_replacedPart_139 rfl rfl ?_
          refine tz_aL (pc := 140) (z := t) (v := (J_58 7 t)) dX2_replacedPart_140 a_7 rfl (by omega) rfl (fun r_140 => ?_)
          refine tz_iload (pc := 141) dX2_replacedPart_141 rfl ?_
          refine tz_iload (pc := 143) dX2_replacedPart_143 rfl ?_
          refine tz_iload (pc := 145) dX2_replacedPart_145 rfl ?_
          refine tz_cV (pc := 147) (c_made hl n _ _ _ _ _ (by omega) (by omega) (by omega) (by omega) m1 g1.2.1 g1.2.2.1 (by omega) (GR.lt g1 ht (fun h => by have := GR.arg g1 C ht (i := 0) (by omega); omega) (fun h => by have := GR.arg g1 C ht (i := 1) (by omega); omega) (fun h => by have := GR.arg g1 C ht (i := 2) (by omega); omega))) vl_X2_52 dX2_replacedPart_147 o_6 rfl rfl (Nat.le_of_ble_eq_true rfl) ⟨(Nat.le_of_ble_eq_true rfl), (Nat.le_of_ble_eq_true rfl)⟩ rfl rfl (Nat.le_of_ble_eq_true rfl) (Nat.le_of_ble_eq_true rfl) (fun r9 J_147 hq9 => ?_)
          obtain ⟨z_147, rfl, hz_147, p_9⟩ := hq9
          obtain ⟨m9, g9, h9⟩ := GR.made p_9 (by omega)
          have q9 := GR.tr g1 g9
          exact tz_iret (pc := 150) (z := z_147) dX2_replacedPart_150 rfl (Nat.le_of_ble_eq_true rfl) (Nat.le_of_ble_eq_true rfl) ⟨Nat.le_refl _, Nat.le_add_right _ _⟩ ⟨_, rfl, (by omega), ⟨m9, q9, h9, fun S hG E => by rw [puO_s, if_neg (by omega)]; exact pu_end hG E C hm ht hz1 hz2 hz3 g1 h1 x1 p_9 (by first | exact Or.inl ⟨by omega, rfl⟩ | exact Or.inr ⟨by omega, rfl⟩) (by first | exact Or.inl ⟨by omega, rfl⟩ | exact Or.inr ⟨by omega, rfl⟩) (by first | exact Or.inl ⟨by omega, rfl⟩ | exact Or.inr ⟨by omega, rfl⟩)⟩⟩
        · refine tz_iload (pc := 112) dX2_replacedPart_112 rfl ?_
          refine tz_goto (pc := 114) (tgt := 126) dX2_replacedPart_114 (by decide) ?_
          refine tz_istore (pc := 126) (L2 := [_, _, _, _, _, _, _, _, _, _, _]) dX2_replacedPart_126 (by decide) rfl ?_
          refine tz_aload_n (pc := 128) dX2_replacedPart_128 rfl rfl ?_
          refine tz_fR (pc := 129) dX2_replacedPart_129 fl_X2_28 r_141_0 ?_
          refine tz_aload_n (pc := 132) dX2_replacedPart_132 rfl rfl ?_
          refine tz_fR (pc := 133) dX2_replacedPart_133 fl_X2_28 r_141_0 ?_
          refine tz_fR (pc := 136) dX2_replacedPart_136 fl_X2_42 r_6_1 ?_
          refine tz_iload_n (pc := 139) dX2_replacedPart_139 rfl rfl ?_
          refine tz_aL (pc := 140) (z := t) (v := (J_58 7 t)) dX2_replacedPart_140 a_7 rfl (by omega) rfl (fun r_140 => ?_)
          refine tz_iload (pc := 141) dX2_replacedPart_141 rfl ?_
          refine tz_iload (pc := 143) dX2_replacedPart_143 rfl ?_
          refine tz_iload (pc := 145) dX2_replacedPart_145 rfl ?_
          refine tz_cV (pc := 147) (c_made hl n _ _ _ _ _ (by omega) (by omega) (by omega) (by omega) m1 g1.2.1 g1.2.2.1 (by omega) (GR.lt g1 ht (fun h => by have := GR.arg g1 C ht (i := 0) (by omega); omega) (fun h => by have := GR.arg g1 C ht (i := 1) (by omega); omega) (fun h => by have := GR.arg g1 C ht (i := 2) (by omega); omega))) vl_X2_52 dX2_replacedPart_147 o_6 rfl rfl (Nat.le_of_ble_eq_true rfl) ⟨(Nat.le_of_ble_eq_true rfl), (Nat.le_of_ble_eq_true rfl)⟩ rfl rfl (Nat.le_of_ble_eq_true rfl) (Nat.le_of_ble_eq_true rfl) (fun r9 J_147 hq9 => ?_)
          obtain ⟨z_147, rfl, hz_147, p_9⟩ := hq9
          obtain ⟨m9, g9, h9⟩ := GR.made p_9 (by omega)
          have q9 := GR.tr g1 g9
          exact tz_iret (pc := 150) (z := z_147) dX2_replacedPart_150 rfl (Nat.le_of_ble_eq_true rfl) (Nat.le_of_ble_eq_true rfl) ⟨Nat.le_refl _, Nat.le_add_right _ _⟩ ⟨_, rfl, (by omega), ⟨m9, q9, h9, fun S hG E => by rw [puO_s, if_neg (by omega)]; exact pu_end hG E C hm ht hz1 hz2 hz3 g1 h1 x1 p_9 (by first | exact Or.inl ⟨by omega, rfl⟩ | exact Or.inr ⟨by omega, rfl⟩) (by first | exact Or.inl ⟨by omega, rfl⟩ | exact Or.inr ⟨by omega, rfl⟩) (by first | exact Or.inl ⟨by omega, rfl⟩ | exact Or.inr ⟨by omega, rfl⟩)⟩⟩
  · refine tz_iload_n (pc := 4) dX2_replacedPart_4 rfl rfl ?_
    exact tz_iret (pc := 5) (z := x) dX2_replacedPart_5 rfl (Nat.le_of_ble_eq_true rfl) (Nat.le_of_ble_eq_true rfl) ⟨Nat.le_refl _, Nat.le_add_right _ _⟩ ⟨_, rfl, (by omega), ⟨m, GR.rf C hm, by omega, fun S hG E => Or.inr ⟨by omega, by rw [puO_s, if_pos (by omega)]; exact hG, by rw [puO_s, if_pos (by omega)]; exact E, by rw [puO_s, if_pos (by omega)]⟩⟩⟩

set_option maxHeartbeats 4000000 in
set_option maxRecDepth 100000 in
theorem x_put2 {l : Launch} {G : tb_G} (hl : l.stackTraces = false) (n : Nat) (J : zJ) (t : Int) (p : Int) (x : Int) (hr_t : -2147483648 ≤ t ∧ t < 2147483648) (hr_p : -2147483648 ≤ p ∧ p < 2147483648) (hr_x : -2147483648 ≤ x ∧ x < 2147483648) (m : Int) (C : CT J m) (hm : J 6 12 = m) (ht : 0 ≤ t ∧ t < m) (hp : p < J 10 t) (ho : 0 ≤ x ∧ x < m) (hd : J 12 t ≤ 5) : tz_Ok l G M_X2_replacedPart 7 0 0 [.ref 141, zi t, zi p, zi x, zi 2] n J (zqi (fun z J' => ∃ m', GR J' J m m' ∧ (z = -3 ∨ (0 ≤ z ∧ z < m')) ∧ ∀ S, S 164 21 = 0 → A0 J S → EXO (puO x 5 S t p) z J')) zN := by
  refine tz_Ok.of hl (by decide +kernel) rfl (tb_c1 rfl) (Nat.le_of_ble_eq_true rfl) ?_
  show tz_At l G M_X2_replacedPart (tb_rm 7 0 0) none (tb_ZM G 0 0 (zQ n 0 (zqi (fun z J' => ∃ m', GR J' J m m' ∧ (z = -3 ∨ (0 ≤ z ∧ z < m')) ∧ ∀ S, S 164 21 = 0 → A0 J S → EXO (puO x 5 S t p) z J'))) (zX n 0 zN)) 0 0 n J 0 [some (.ref 141), some (zi t), some (zi p), some (zi x), some (zi 2), none, none, none, none, none, none] []
  have hb := C.told
  have har := C.ar ht.1 ht.2
  have hn := C.nums ht.1 ht.2
  refine tz_iload_n (pc := 0) dX2_replacedPart_0 rfl rfl ?_
  refine tz_if_gt (pc := 1) (tgt := 6) dX2_replacedPart_1 (by decide) (by omega) (fun h_1 => ?_) (fun h_1 => ?_)
  · refine tz_iload (pc := 6) dX2_replacedPart_6 rfl ?_
    refine tz_bipush (pc := 8) dX2_replacedPart_8 (by decide) ?_
    refine tz_icmp_leT (pc := 10) (tgt := 16) (by decide) dX2_replacedPart_10 (by decide) (by decide) (by decide) ?_
    refine tz_aload_n (pc := 16) dX2_replacedPart_16 rfl rfl ?_
    refine tz_fR (pc := 17) dX2_replacedPart_17 fl_X2_28 r_141_0 ?_
    refine tz_iload_n (pc := 20) dX2_replacedPart_20 rfl rfl ?_
    refine tz_iload_n (pc := 21) dX2_replacedPart_21 rfl rfl ?_
    refine tz_cV (pc := 22) (c_atPlace hl n _ _ _ (by omega) (by omega) m C (by omega) (by omega)) vl_X2_78 dX2_replacedPart_22 o_6 rfl rfl (Nat.le_of_ble_eq_true rfl) ⟨(Nat.le_of_ble_eq_true rfl), (Nat.le_of_ble_eq_true rfl)⟩ rfl rfl (Nat.le_of_ble_eq_true rfl) (Nat.le_of_ble_eq_true rfl) (fun r9 J_22 hq9 => ?_)
    obtain ⟨z_22, rfl, hz_22, rfl, hz1, hz2, hz3⟩ := hq9
    have hg := C.arg (t := t) (i := z_22) (by omega) (by omega) (by omega) (by omega)
    have hbd := zfr_bd C (t := t) (by omega) (by omega) z_22.toNat (by omega)
    refine tz_istore (pc := 25) (L2 := [_, _, _, _, _, _, _, _, _, _, _]) dX2_replacedPart_25 (by decide) rfl ?_
    refine tz_aload_n (pc := 27) dX2_replacedPart_27 rfl rfl ?_
    refine tz_fR (pc := 28) dX2_replacedPart_28 fl_X2_28 r_141_0 ?_
    refine tz_iload_n (pc := 31) dX2_replacedPart_31 rfl rfl ?_
    refine tz_iload (pc := 32) dX2_replacedPart_32 rfl ?_
    refine tz_cV (pc := 34) (c_arg hl n _ _ _ (by omega) (by omega) (by omega)) vl_X2_48 dX2_replacedPart_34 o_6 rfl rfl (Nat.le_of_ble_eq_true rfl) ⟨(Nat.le_of_ble_eq_true rfl), (Nat.le_of_ble_eq_true rfl)⟩ rfl rfl (Nat.le_of_ble_eq_true rfl) (Nat.le_of_ble_eq_true rfl) (fun r9 J_34 hq9 => ?_)
    obtain ⟨z_34, rfl, hz_34, rfl, rfl⟩ := hq9
    refine tz_istore (pc := 37) (L2 := [_, _, _, _, _, _, _, _, _, _, _]) dX2_replacedPart_37 (by decide) rfl ?_
    refine tz_aload_n (pc := 39) dX2_replacedPart_39 rfl rfl ?_
    refine tz_iload (pc := 40) dX2_replacedPart_40 rfl ?_
    refine tz_aload_n (pc := 42) dX2_replacedPart_42 rfl rfl ?_
    refine tz_fR (pc := 43) dX2_replacedPart_43 fl_X2_28 r_141_0 ?_
    refine tz_iload_n (pc := 46) dX2_replacedPart_46 rfl rfl ?_
    refine tz_iload_n (pc := 47) dX2_replacedPart_47 rfl rfl ?_
    refine tz_iload (pc := 48) dX2_replacedPart_48 rfl ?_
    refine tz_cV (pc := 50) (c_inArg hl n _ _ _ _ (by omega) (by omega) (by omega) m C (by omega) (by omega) (by omega)) vl_X2_81 dX2_replacedPart_50 o_6 rfl rfl (Nat.le_of_ble_eq_true rfl) ⟨(Nat.le_of_ble_eq_true rfl), (Nat.le_of_ble_eq_true rfl)⟩ rfl rfl (Nat.le_of_ble_eq_true rfl) (Nat.le_of_ble_eq_true rfl) (fun r9 J_50 hq9 => ?_)
    obtain ⟨z_50, rfl, hz_50, rfl, rfl⟩ := hq9
    refine tz_iload_n (pc := 53) dX2_replacedPart_53 rfl rfl ?_
    refine tz_iload (pc := 54) dX2_replacedPart_54 rfl ?_
    refine tz_iconst (pc := 56) dX2_replacedPart_56 ?_
    refine tz_iadd (pc := 57) (v := 3) dX2_replacedPart_57 (by decide) ?_
    refine tz_cV (pc := 58) (x_put3 hl n _ _ _ _ (by omega) (by omega) (by omega) m C hm (by omega) (by have := zfr_s (J := J) (t := t) (i := z_22) (by omega); omega) ho (by omega)) vl_X2_75 dX2_replacedPart_58 o_141 rfl rfl (Nat.le_of_ble_eq_true rfl) ⟨(Nat.le_of_ble_eq_true rfl), (Nat.le_of_ble_eq_true rfl)⟩ rfl rfl (Nat.le_of_ble_eq_true rfl) (Nat.le_of_ble_eq_true rfl) (fun r9 J_58 hq9 => ?_)
    obtain ⟨z_58, rfl, hz_58, m1, g1, h1, x1⟩ := hq9
    have d1 := g1.1
    have har2 := g1.2.1.ar (t := t) (by omega) (by omega)
    have e1 := g1.2.2.2.2 1 rfl
    refine tz_istore (pc := 61) (L2 := [_, _, _, _, _, _, _, _, _, _, _]) dX2_replacedPart_61 (by decide) rfl ?_
    refine tz_iload (pc := 63) dX2_replacedPart_63 rfl ?_
    refine tz_if_ne (pc := 65) (tgt := 73) dX2_replacedPart_65 (by decide) (by omega) (fun h_65 => ?_) (fun h_65 => ?_)
    · refine tz_aload_n (pc := 73) dX2_replacedPart_73 rfl rfl ?_
      refine tz_fR (pc := 74) dX2_replacedPart_74 fl_X2_28 r_141_0 ?_
      refine tz_iload_n (pc := 77) dX2_replacedPart_77 rfl rfl ?_
      refine tz_iconst (pc := 78) dX2_replacedPart_78 ?_
      refine tz_cV (pc := 79) (c_arg hl n _ _ _ (by omega) (by decide) (by omega)) vl_X2_48 dX2_replacedPart_79 o_6 rfl rfl (Nat.le_of_ble_eq_true rfl) ⟨(Nat.le_of_ble_eq_true rfl), (Nat.le_of_ble_eq_true rfl)⟩ rfl rfl (Nat.le_of_ble_eq_true rfl) (Nat.le_of_ble_eq_true rfl) (fun r9 J_79 hq9 => ?_)
      obtain ⟨z_79, rfl, hz_79, rfl, rfl⟩ := hq9
      refine tz_istore (pc := 82) (L2 := [_, _, _, _, _, _, _, _, _, _, _]) dX2_replacedPart_82 (by decide) rfl ?_
      refine tz_iload (pc := 84) dX2_replacedPart_84 rfl ?_
      refine tz_iconst (pc := 86) dX2_replacedPart_86 ?_
      refine tz_icmp_ne (pc := 87) (tgt := 95) dX2_replacedPart_87 (by decide) (by omega) (by decide) (fun h_87 => ?_) (fun h_87 => ?_)
      · refine tz_aload_n (pc := 95) dX2_replacedPart_95 rfl rfl ?_
        refine tz_fR (pc := 96) dX2_replacedPart_96 fl_X2_28 r_141_0 ?_
        refine tz_iload_n (pc := 99) dX2_replacedPart_99 rfl rfl ?_
        refine tz_iconst (pc := 100) dX2_replacedPart_100 ?_
        refine tz_cV (pc := 101) (c_arg hl n _ _ _ (by omega) (by decide) (by omega)) vl_X2_48 dX2_replacedPart_101 o_6 rfl rfl (Nat.le_of_ble_eq_true rfl) ⟨(Nat.le_of_ble_eq_true rfl), (Nat.le_of_ble_eq_true rfl)⟩ rfl rfl (Nat.le_of_ble_eq_true rfl) (Nat.le_of_ble_eq_true rfl) (fun r9 J_101 hq9 => ?_)
        obtain ⟨z_101, rfl, hz_101, rfl, rfl⟩ := hq9
        refine tz_istore (pc := 104) (L2 := [_, _, _, _, _, _, _, _, _, _, _]) dX2_replacedPart_104 (by decide) rfl ?_
        refine tz_iload (pc := 106) dX2_replacedPart_106 rfl ?_
        refine tz_iconst (pc := 108) dX2_replacedPart_108 ?_
        refine tz_icmp_ne (pc := 109) (tgt := 117) dX2_replacedPart_109 (by decide) (by omega) (by decide) (fun h_109 => ?_) (fun h_109 => ?_)
        · refine tz_aload_n (pc := 117) dX2_replacedPart_117 rfl rfl ?_
          refine tz_fR (pc := 118) dX2_replacedPart_118 fl_X2_28 r_141_0 ?_
          refine tz_iload_n (pc := 121) dX2_replacedPart_121 rfl rfl ?_
          refine tz_iconst (pc := 122) dX2_replacedPart_122 ?_
          refine tz_cV (pc := 123) (c_arg hl n _ _ _ (by omega) (by decide) (by omega)) vl_X2_48 dX2_replacedPart_123 o_6 rfl rfl (Nat.le_of_ble_eq_true rfl) ⟨(Nat.le_of_ble_eq_true rfl), (Nat.le_of_ble_eq_true rfl)⟩ rfl rfl (Nat.le_of_ble_eq_true rfl) (Nat.le_of_ble_eq_true rfl) (fun r9 J_123 hq9 => ?_)
          obtain ⟨z_123, rfl, hz_123, rfl, rfl⟩ := hq9
          refine tz_istore (pc := 126) (L2 := [_, _, _, _, _, _, _, _, _, _, _]) dX2_replacedPart_126 (by decide) rfl ?_
          refine tz_aload_n (pc := 128) dX2_replacedPart_128 rfl rfl ?_
          refine tz_fR (pc := 129) dX2_replacedPart_129 fl_X2_28 r_141_0 ?_
          refine tz_aload_n (pc := 132) dX2_replacedPart_132 rfl rfl ?_
          refine tz_fR (pc := 133) dX2_replacedPart_133 fl_X2_28 r_141_0 ?_
          refine tz_fR (pc := 136) dX2_replacedPart_136 fl_X2_42 r_6_1 ?_
          refine tz_iload_n (pc := 139) dX2_replacedPart_139 rfl rfl ?_
          refine tz_aL (pc := 140) (z := t) (v := (J_58 7 t)) dX2_replacedPart_140 a_7 rfl (by omega) rfl (fun r_140 => ?_)
          refine tz_iload (pc := 141) dX2_replacedPart_141 rfl ?_
          refine tz_iload (pc := 143) dX2_replacedPart_143 rfl ?_
          refine tz_iload (pc := 145) dX2_replacedPart_145 rfl ?_
          refine tz_cV (pc := 147) (c_made hl n _ _ _ _ _ (by omega) (by omega) (by omega) (by omega) m1 g1.2.1 g1.2.2.1 (by omega) (GR.lt g1 ht (fun h => by have := GR.arg g1 C ht (i := 0) (by omega); omega) (fun h => by have := GR.arg g1 C ht (i := 1) (by omega); omega) (fun h => by have := GR.arg g1 C ht (i := 2) (by omega); omega))) vl_X2_52 dX2_replacedPart_147 o_6 rfl rfl (Nat.le_of_ble_eq_true rfl) ⟨(Nat.le_of_ble_eq_true rfl), (Nat.le_of_ble_eq_true rfl)⟩ rfl rfl (Nat.le_of_ble_eq_true rfl) (Nat.le_of_ble_eq_true rfl) (fun r9 J_147 hq9 => ?_)
          obtain ⟨z_147, rfl, hz_147, p_9⟩ := hq9
          obtain ⟨m9, g9, h9⟩ := GR.made p_9 (by omega)
          have q9 := GR.tr g1 g9
          exact tz_iret (pc := 150) (z := z_147) dX2_replacedPart_150 rfl (Nat.le_of_ble_eq_true rfl) (Nat.le_of_ble_eq_true rfl) ⟨Nat.le_refl _, Nat.le_add_right _ _⟩ ⟨_, rfl, (by omega), ⟨m9, q9, h9, fun S hG E => by rw [puO_s, if_neg (by omega)]; exact pu_end hG E C hm ht hz1 hz2 hz3 g1 h1 x1 p_9 (by first | exact Or.inl ⟨by omega, rfl⟩ | exact Or.inr ⟨by omega, rfl⟩) (by first | exact Or.inl ⟨by omega, rfl⟩ | exact Or.inr ⟨by omega, rfl⟩) (by first | exact Or.inl ⟨by omega, rfl⟩ | exact Or.inr ⟨by omega, rfl⟩)⟩⟩
        · refine tz_iload (pc := 112) dX2_replacedPart_112 rfl ?_
          refine tz_goto (pc := 114) (tgt := 126) dX2_replacedPart_114 (by decide) ?_
          refine tz_istore (pc := 126) (L2 := [_, _, _, _, _, _, _, _, _, _, _]) dX2_replacedPart_126 (by decide) rfl ?_
          refine tz_aload_n (pc := 128) dX2_replacedPart_128 rfl rfl ?_
          refine tz_fR (pc := 129) dX2_replacedPart_129 fl_X2_28 r_141_0 ?_
          refine tz_aload_n (pc := 132) dX2_replacedPart_132 rfl rfl ?_
          refine tz_fR (pc := 133) dX2_replacedPart_133 fl_X2_28 r_141_0 ?_
          refine tz_fR (pc := 136) dX2_replacedPart_136 fl_X2_42 r_6_1 ?_
          refine tz_iload_n (pc := 139) dX2_replacedPart_139 rfl rfl ?_
          refine tz_aL (pc := 140) (z := t) (v := (J_58 7 t)) dX2_replacedPart_140 a_7 rfl (by omega) rfl (fun r_140 => ?_)
          refine tz_iload (pc := 141) dX2_replacedPart_141 rfl ?_
          refine tz_iload (pc := 143) dX2_replacedPart_143 rfl ?_
          refine tz_iload (pc := 145) dX2_replacedPart_145 rfl ?_
          refine tz_cV (pc := 147) (c_made hl n _ _ _ _ _ (by omega) (by omega) (by omega) (by omega) m1 g1.2.1 g1.2.2.1 (by omega) (GR.lt g1 ht (fun h => by have := GR.arg g1 C ht (i := 0) (by omega); omega) (fun h => by have := GR.arg g1 C ht (i := 1) (by omega); omega) (fun h => by have := GR.arg g1 C ht (i := 2) (by omega); omega))) vl_X2_52 dX2_replacedPart_147 o_6 rfl rfl (Nat.le_of_ble_eq_true rfl) ⟨(Nat.le_of_ble_eq_true rfl), (Nat.le_of_ble_eq_true rfl)⟩ rfl rfl (Nat.le_of_ble_eq_true rfl) (Nat.le_of_ble_eq_true rfl) (fun r9 J_147 hq9 => ?_)
          obtain ⟨z_147, rfl, hz_147, p_9⟩ := hq9
          obtain ⟨m9, g9, h9⟩ := GR.made p_9 (by omega)
          have q9 := GR.tr g1 g9
          exact tz_iret (pc := 150) (z := z_147) dX2_replacedPart_150 rfl (Nat.le_of_ble_eq_true rfl) (Nat.le_of_ble_eq_true rfl) ⟨Nat.le_refl _, Nat.le_add_right _ _⟩ ⟨_, rfl, (by omega), ⟨m9, q9, h9, fun S hG E => by rw [puO_s, if_neg (by omega)]; exact pu_end hG E C hm ht hz1 hz2 hz3 g1 h1 x1 p_9 (by first | exact Or.inl ⟨by omega, rfl⟩ | exact Or.inr ⟨by omega, rfl⟩) (by first | exact Or.inl ⟨by omega, rfl⟩ | exact Or.inr ⟨by omega, rfl⟩) (by first | exact Or.inl ⟨by omega, rfl⟩ | exact Or.inr ⟨by omega, rfl⟩)⟩⟩
      · refine tz_iload (pc := 90) dX2_replacedPart_90 rfl ?_
        refine tz_goto (pc := 92) (tgt := 104) dX2_replacedPart_92 (by decide) ?_
        refine tz_istore (pc := 104) (L2 := [_, _, _, _, _, _, _, _, _, _, _]) dX2_replacedPart_104 (by decide) rfl ?_
        refine tz_iload (pc := 106) dX2_replacedPart_106 rfl ?_
        refine tz_iconst (pc := 108) dX2_replacedPart_108 ?_
        refine tz_icmp_ne (pc := 109) (tgt := 117) dX2_replacedPart_109 (by decide) (by omega) (by decide) (fun h_109 => ?_) (fun h_109 => ?_)
        · refine tz_aload_n (pc := 117) dX2_replacedPart_117 rfl rfl ?_
          refine tz_fR (pc := 118) dX2_replacedPart_118 fl_X2_28 r_141_0 ?_
          refine tz_iload_n (pc := 121) dX2_replacedPart_121 rfl rfl ?_
          refine tz_iconst (pc := 122) dX2_replacedPart_122 ?_
          refine tz_cV (pc := 123) (c_arg hl n _ _ _ (by omega) (by decide) (by omega)) vl_X2_48 dX2_replacedPart_123 o_6 rfl rfl (Nat.le_of_ble_eq_true rfl) ⟨(Nat.le_of_ble_eq_true rfl), (Nat.le_of_ble_eq_true rfl)⟩ rfl rfl (Nat.le_of_ble_eq_true rfl) (Nat.le_of_ble_eq_true rfl) (fun r9 J_123 hq9 => ?_)
          obtain ⟨z_123, rfl, hz_123, rfl, rfl⟩ := hq9
          refine tz_istore (pc := 126) (L2 := [_, _, _, _, _, _, _, _, _, _, _]) dX2_replacedPart_126 (by decide) rfl ?_
          refine tz_aload_n (pc := 128) dX2_replacedPart_128 rfl rfl ?_
          refine tz_fR (pc := 129) dX2_replacedPart_129 fl_X2_28 r_141_0 ?_
          refine tz_aload_n (pc := 132) dX2_replacedPart_132 rfl rfl ?_
          refine tz_fR (pc := 133) dX2_replacedPart_133 fl_X2_28 r_141_0 ?_
          refine tz_fR (pc := 136) dX2_replacedPart_136 fl_X2_42 r_6_1 ?_
          refine tz_iload_n (pc := 139) dX2_replacedPart_139 rfl rfl ?_
          refine tz_aL (pc := 140) (z := t) (v := (J_58 7 t)) dX2_replacedPart_140 a_7 rfl (by omega) rfl (fun r_140 => ?_)
          refine tz_iload (pc := 141) dX2_replacedPart_141 rfl ?_
          refine tz_iload (pc := 143) dX2_replacedPart_143 rfl ?_
          refine tz_iload (pc := 145) dX2_replacedPart_145 rfl ?_
          refine tz_cV (pc := 147) (c_made hl n _ _ _ _ _ (by omega) (by omega) (by omega) (by omega) m1 g1.2.1 g1.2.2.1 (by omega) (GR.lt g1 ht (fun h => by have := GR.arg g1 C ht (i := 0) (by omega); omega) (fun h => by have := GR.arg g1 C ht (i := 1) (by omega); omega) (fun h => by have := GR.arg g1 C ht (i := 2) (by omega); omega))) vl_X2_52 dX2_replacedPart_147 o_6 rfl rfl (Nat.le_of_ble_eq_true rfl) ⟨(Nat.le_of_ble_eq_true rfl), (Nat.le_of_ble_eq_true rfl)⟩ rfl rfl (Nat.le_of_ble_eq_true rfl) (Nat.le_of_ble_eq_true rfl) (fun r9 J_147 hq9 => ?_)
          obtain ⟨z_147, rfl, hz_147, p_9⟩ := hq9
          obtain ⟨m9, g9, h9⟩ := GR.made p_9 (by omega)
          have q9 := GR.tr g1 g9
          exact tz_iret (pc := 150) (z := z_147) dX2_replacedPart_150 rfl (Nat.le_of_ble_eq_true rfl) (Nat.le_of_ble_eq_true rfl) ⟨Nat.le_refl _, Nat.le_add_right _ _⟩ ⟨_, rfl, (by omega), ⟨m9, q9, h9, fun S hG E => by rw [puO_s, if_neg (by omega)]; exact pu_end hG E C hm ht hz1 hz2 hz3 g1 h1 x1 p_9 (by first | exact Or.inl ⟨by omega, rfl⟩ | exact Or.inr ⟨by omega, rfl⟩) (by first | exact Or.inl ⟨by omega, rfl⟩ | exact Or.inr ⟨by omega, rfl⟩) (by first | exact Or.inl ⟨by omega, rfl⟩ | exact Or.inr ⟨by omega, rfl⟩)⟩⟩
        · refine tz_iload (pc := 112) dX2_replacedPart_112 rfl ?_
          refine tz_goto (pc := 114) (tgt := 126) dX2_replacedPart_114 (by decide) ?_
          refine tz_istore (pc := 126) (L2 := [_, _, _, _, _, _, _, _, _, _, _]) dX2_replacedPart_126 (by decide) rfl ?_
          refine tz_aload_n (pc := 128) dX2_replacedPart_128 rfl rfl ?_
          refine tz_fR (pc := 129) dX2_replacedPart_129 fl_X2_28 r_141_0 ?_
          refine tz_aload_n (pc := 132) dX2_replacedPart_132 rfl rfl ?_
          refine tz_fR (pc := 133) dX2_replacedPart_133 fl_X2_28 r_141_0 ?_
          refine tz_fR (pc := 136) dX2_replacedPart_136 fl_X2_42 r_6_1 ?_
          refine tz_iload_n (pc := 139) dX2_replacedPart_139 rfl rfl ?_
          refine tz_aL (pc := 140) (z := t) (v := (J_58 7 t)) dX2_replacedPart_140 a_7 rfl (by omega) rfl (fun r_140 => ?_)
          refine tz_iload (pc := 141) dX2_replacedPart_141 rfl ?_
          refine tz_iload (pc := 143) dX2_replacedPart_143 rfl ?_
          refine tz_iload (pc := 145) dX2_replacedPart_145 rfl ?_
          refine tz_cV (pc := 147) (c_made hl n _ _ _ _ _ (by omega) (by omega) (by omega) (by omega) m1 g1.2.1 g1.2.2.1 (by omega) (GR.lt g1 ht (fun h => by have := GR.arg g1 C ht (i := 0) (by omega); omega) (fun h => by have := GR.arg g1 C ht (i := 1) (by omega); omega) (fun h => by have := GR.arg g1 C ht (i := 2) (by omega); omega))) vl_X2_52 dX2_replacedPart_147 o_6 rfl rfl (Nat.le_of_ble_eq_true rfl) ⟨(Nat.le_of_ble_eq_true rfl), (Nat.le_of_ble_eq_true rfl)⟩ rfl rfl (Nat.le_of_ble_eq_true rfl) (Nat.le_of_ble_eq_true rfl) (fun r9 J_147 hq9 => ?_)
          obtain ⟨z_147, rfl, hz_147, p_9⟩ := hq9
          obtain ⟨m9, g9, h9⟩ := GR.made p_9 (by omega)
          have q9 := GR.tr g1 g9
          exact tz_iret (pc := 150) (z := z_147) dX2_replacedPart_150 rfl (Nat.le_of_ble_eq_true rfl) (Nat.le_of_ble_eq_true rfl) ⟨Nat.le_refl _, Nat.le_add_right _ _⟩ ⟨_, rfl, (by omega), ⟨m9, q9, h9, fun S hG E => by rw [puO_s, if_neg (by omega)]; exact pu_end hG E C hm ht hz1 hz2 hz3 g1 h1 x1 p_9 (by first | exact Or.inl ⟨by omega, rfl⟩ | exact Or.inr ⟨by omega, rfl⟩) (by first | exact Or.inl ⟨by omega, rfl⟩ | exact Or.inr ⟨by omega, rfl⟩) (by first | exact Or.inl ⟨by omega, rfl⟩ | exact Or.inr ⟨by omega, rfl⟩)⟩⟩
    · refine tz_iload (pc := 68) dX2_replacedPart_68 rfl ?_
      refine tz_goto (pc := 70) (tgt := 82) dX2_replacedPart_70 (by decide) ?_
      refine tz_istore (pc := 82) (L2 := [_, _, _, _, _, _, _, _, _, _, _]) dX2_replacedPart_82 (by decide) rfl ?_
      refine tz_iload (pc := 84) dX2_replacedPart_84 rfl ?_
      refine tz_iconst (pc := 86) dX2_replacedPart_86 ?_
      refine tz_icmp_ne (pc := 87) (tgt := 95) dX2_replacedPart_87 (by decide) (by omega) (by decide) (fun h_87 => ?_) (fun h_87 => ?_)
      · refine tz_aload_n (pc := 95) dX2_replacedPart_95 rfl rfl ?_
        refine tz_fR (pc := 96) dX2_replacedPart_96 fl_X2_28 r_141_0 ?_
        refine tz_iload_n (pc := 99) dX2_replacedPart_99 rfl rfl ?_
        refine tz_iconst (pc := 100) dX2_replacedPart_100 ?_
        refine tz_cV (pc := 101) (c_arg hl n _ _ _ (by omega) (by decide) (by omega)) vl_X2_48 dX2_replacedPart_101 o_6 rfl rfl (Nat.le_of_ble_eq_true rfl) ⟨(Nat.le_of_ble_eq_true rfl), (Nat.le_of_ble_eq_true rfl)⟩ rfl rfl (Nat.le_of_ble_eq_true rfl) (Nat.le_of_ble_eq_true rfl) (fun r9 J_101 hq9 => ?_)
        obtain ⟨z_101, rfl, hz_101, rfl, rfl⟩ := hq9
        refine tz_istore (pc := 104) (L2 := [_, _, _, _, _, _, _, _, _, _, _]) dX2_replacedPart_104 (by decide) rfl ?_
        refine tz_iload (pc := 106) dX2_replacedPart_106 rfl ?_
        refine tz_iconst (pc := 108) dX2_replacedPart_108 ?_
        refine tz_icmp_ne (pc := 109) (tgt := 117) dX2_replacedPart_109 (by decide) (by omega) (by decide) (fun h_109 => ?_) (fun h_109 => ?_)
        · refine tz_aload_n (pc := 117) dX2_replacedPart_117 rfl rfl ?_
          refine tz_fR (pc := 118) dX2_replacedPart_118 fl_X2_28 r_141_0 ?_
          refine tz_iload_n (pc := 121) dX2_replacedPart_121 rfl rfl ?_
          refine tz_iconst (pc := 122) dX2_replacedPart_122 ?_
          refine tz_cV (pc := 123) (c_arg hl n _ _ _ (by omega) (by decide) (by omega)) vl_X2_48 dX2_replacedPart_123 o_6 rfl rfl (Nat.le_of_ble_eq_true rfl) ⟨(Nat.le_of_ble_eq_true rfl), (Nat.le_of_ble_eq_true rfl)⟩ rfl rfl (Nat.le_of_ble_eq_true rfl) (Nat.le_of_ble_eq_true rfl) (fun r9 J_123 hq9 => ?_)
          obtain ⟨z_123, rfl, hz_123, rfl, rfl⟩ := hq9
          refine tz_istore (pc := 126) (L2 := [_, _, _, _, _, _, _, _, _, _, _]) dX2_replacedPart_126 (by decide) rfl ?_
          refine tz_aload_n (pc := 128) dX2_replacedPart_128 rfl rfl ?_
          refine tz_fR (pc := 129) dX2_replacedPart_129 fl_X2_28 r_141_0 ?_
          refine tz_aload_n (pc := 132) dX2_replacedPart_132 rfl rfl ?_
          refine tz_fR (pc := 133) dX2_replacedPart_133 fl_X2_28 r_141_0 ?_
          refine tz_fR (pc := 136) dX2_replacedPart_136 fl_X2_42 r_6_1 ?_
          refine tz_iload_n (pc := 139) dX2_replacedPart_139 rfl rfl ?_
          refine tz_aL (pc := 140) (z := t) (v := (J_58 7 t)) dX2_replacedPart_140 a_7 rfl (by omega) rfl (fun r_140 => ?_)
          refine tz_iload (pc := 141) dX2_replacedPart_141 rfl ?_
          refine tz_iload (pc := 143) dX2_replacedPart_143 rfl ?_
          refine tz_iload (pc := 145) dX2_replacedPart_145 rfl ?_
          refine tz_cV (pc := 147) (c_made hl n _ _ _ _ _ (by omega) (by omega) (by omega) (by omega) m1 g1.2.1 g1.2.2.1 (by omega) (GR.lt g1 ht (fun h => by have := GR.arg g1 C ht (i := 0) (by omega); omega) (fun h => by have := GR.arg g1 C ht (i := 1) (by omega); omega) (fun h => by have := GR.arg g1 C ht (i := 2) (by omega); omega))) vl_X2_52 dX2_replacedPart_147 o_6 rfl rfl (Nat.le_of_ble_eq_true rfl) ⟨(Nat.le_of_ble_eq_true rfl), (Nat.le_of_ble_eq_true rfl)⟩ rfl rfl (Nat.le_of_ble_eq_true rfl) (Nat.le_of_ble_eq_true rfl) (fun r9 J_147 hq9 => ?_)
          obtain ⟨z_147, rfl, hz_147, p_9⟩ := hq9
          obtain ⟨m9, g9, h9⟩ := GR.made p_9 (by omega)
          have q9 := GR.tr g1 g9
          exact tz_iret (pc := 150) (z := z_147) dX2_replacedPart_150 rfl (Nat.le_of_ble_eq_true rfl) (Nat.le_of_ble_eq_true rfl) ⟨Nat.le_refl _, Nat.le_add_right _ _⟩ ⟨_, rfl, (by omega), ⟨m9, q9, h9, fun S hG E => by rw [puO_s, if_neg (by omega)]; exact pu_end hG E C hm ht hz1 hz2 hz3 g1 h1 x1 p_9 (by first | exact Or.inl ⟨by omega, rfl⟩ | exact Or.inr ⟨by omega, rfl⟩) (by first | exact Or.inl ⟨by omega, rfl⟩ | exact Or.inr ⟨by omega, rfl⟩) (by first | exact Or.inl ⟨by omega, rfl⟩ | exact Or.inr ⟨by omega, rfl⟩)⟩⟩
        · refine tz_iload (pc := 112) dX2_replacedPart_112 rfl ?_
          refine tz_goto (pc := 114) (tgt := 126) dX2_replacedPart_114 (by decide) ?_
          refine tz_istore (pc := 126) (L2 := [_, _, _, _, _, _, _, _, _, _, _]) dX2_replacedPart_126 (by decide) rfl ?_
          refine tz_aload_n (pc := 128) dX2_replacedPart_128 rfl rfl ?_
          refine tz_fR (pc := 129) dX2_replacedPart_129 fl_X2_28 r_141_0 ?_
          refine tz_aload_n (pc := 132) dX2_replacedPart_132 rfl rfl ?_
          refine tz_fR (pc := 133) dX2_replacedPart_133 fl_X2_28 r_141_0 ?_
          refine tz_fR (pc := 136) dX2_replacedPart_136 fl_X2_42 r_6_1 ?_
          refine tz_iload_n (pc := 139) dX2_replacedPart_139 rfl rfl ?_
          refine tz_aL (pc := 140) (z := t) (v := (J_58 7 t)) dX2_replacedPart_140 a_7 rfl (by omega) rfl (fun r_140 => ?_)
          refine tz_iload (pc := 141) dX2_replacedPart_141 rfl ?_
          refine tz_iload (pc := 143) dX2_replacedPart_143 rfl ?_
          refine tz_iload (pc := 145) dX2_replacedPart_145 rfl ?_
          refine tz_cV (pc := 147) (c_made hl n _ _ _ _ _ (by omega) (by omega) (by omega) (by omega) m1 g1.2.1 g1.2.2.1 (by omega) (GR.lt g1 ht (fun h => by have := GR.arg g1 C ht (i := 0) (by omega); omega) (fun h => by have := GR.arg g1 C ht (i := 1) (by omega); omega) (fun h => by have := GR.arg g1 C ht (i := 2) (by omega); omega))) vl_X2_52 dX2_replacedPart_147 o_6 rfl rfl (Nat.le_of_ble_eq_true rfl) ⟨(Nat.le_of_ble_eq_true rfl), (Nat.le_of_ble_eq_true rfl)⟩ rfl rfl (Nat.le_of_ble_eq_true rfl) (Nat.le_of_ble_eq_true rfl) (fun r9 J_147 hq9 => ?_)
          obtain ⟨z_147, rfl, hz_147, p_9⟩ := hq9
          obtain ⟨m9, g9, h9⟩ := GR.made p_9 (by omega)
          have q9 := GR.tr g1 g9
          exact tz_iret (pc := 150) (z := z_147) dX2_replacedPart_150 rfl (Nat.le_of_ble_eq_true rfl) (Nat.le_of_ble_eq_true rfl) ⟨Nat.le_refl _, Nat.le_add_right _ _⟩ ⟨_, rfl, (by omega), ⟨m9, q9, h9, fun S hG E => by rw [puO_s, if_neg (by omega)]; exact pu_end hG E C hm ht hz1 hz2 hz3 g1 h1 x1 p_9 (by first | exact Or.inl ⟨by omega, rfl⟩ | exact Or.inr ⟨by omega, rfl⟩) (by first | exact Or.inl ⟨by omega, rfl⟩ | exact Or.inr ⟨by omega, rfl⟩) (by first | exact Or.inl ⟨by omega, rfl⟩ | exact Or.inr ⟨by omega, rfl⟩)⟩⟩
      · refine tz_iload (pc := 90) dX2_replacedPart_90 rfl ?_
        refine tz_goto (pc := 92) (tgt := 104) dX2_replacedPart_92 (by decide) ?_
        refine tz_istore (pc := 104) (L2 := [_, _, _, _, _, _, _, _, _, _, _]) dX2_replacedPart_104 (by decide) rfl ?_
        refine tz_iload (pc := 106) dX2_replacedPart_106 rfl ?_
        refine tz_iconst (pc := 108) dX2_replacedPart_108 ?_
        refine tz_icmp_ne (pc := 109) (tgt := 117) dX2_replacedPart_109 (by decide) (by omega) (by decide) (fun h_109 => ?_) (fun h_109 => ?_)
        · refine tz_aload_n (pc := 117) dX2_replacedPart_117 rfl rfl ?_
          refine tz_fR (pc := 118) dX2_replacedPart_118 fl_X2_28 r_141_0 ?_
          refine tz_iload_n (pc := 121) dX2_replacedPart_121 rfl rfl ?_
          refine tz_iconst (pc := 122) dX2_replacedPart_122 ?_
          refine tz_cV (pc := 123) (c_arg hl n _ _ _ (by omega) (by decide) (by omega)) vl_X2_48 dX2_replacedPart_123 o_6 rfl rfl (Nat.le_of_ble_eq_true rfl) ⟨(Nat.le_of_ble_eq_true rfl), (Nat.le_of_ble_eq_true rfl)⟩ rfl rfl (Nat.le_of_ble_eq_true rfl) (Nat.le_of_ble_eq_true rfl) (fun r9 J_123 hq9 => ?_)
          obtain ⟨z_123, rfl, hz_123, rfl, rfl⟩ := hq9
          refine tz_istore (pc := 126) (L2 := [_, _, _, _, _, _, _, _, _, _, _]) dX2_replacedPart_126 (by decide) rfl ?_
          refine tz_aload_n (pc := 128) dX2_replacedPart_128 rfl rfl ?_
          refine tz_fR (pc := 129) dX2_replacedPart_129 fl_X2_28 r_141_0 ?_
          refine tz_aload_n (pc := 132) dX2_replacedPart_132 rfl rfl ?_
          refine tz_fR (pc := 133) dX2_replacedPart_133 fl_X2_28 r_141_0 ?_
          refine tz_fR (pc := 136) dX2_replacedPart_136 fl_X2_42 r_6_1 ?_
          refine tz_iload_n (pc := 139) dX2_replacedPart_139 rfl rfl ?_
          refine tz_aL (pc := 140) (z := t) (v := (J_58 7 t)) dX2_replacedPart_140 a_7 rfl (by omega) rfl (fun r_140 => ?_)
          refine tz_iload (pc := 141) dX2_replacedPart_141 rfl ?_
          refine tz_iload (pc := 143) dX2_replacedPart_143 rfl ?_
          refine tz_iload (pc := 145) dX2_replacedPart_145 rfl ?_
          refine tz_cV (pc := 147) (c_made hl n _ _ _ _ _ (by omega) (by omega) (by omega) (by omega) m1 g1.2.1 g1.2.2.1 (by omega) (GR.lt g1 ht (fun h => by have := GR.arg g1 C ht (i := 0) (by omega); omega) (fun h => by have := GR.arg g1 C ht (i := 1) (by omega); omega) (fun h => by have := GR.arg g1 C ht (i := 2) (by omega); omega))) vl_X2_52 dX2_replacedPart_147 o_6 rfl rfl (Nat.le_of_ble_eq_true rfl) ⟨(Nat.le_of_ble_eq_true rfl), (Nat.le_of_ble_eq_true rfl)⟩ rfl rfl (Nat.le_of_ble_eq_true rfl) (Nat.le_of_ble_eq_true rfl) (fun r9 J_147 hq9 => ?_)
          obtain ⟨z_147, rfl, hz_147, p_9⟩ := hq9
          obtain ⟨m9, g9, h9⟩ := GR.made p_9 (by omega)
          have q9 := GR.tr g1 g9
          exact tz_iret (pc := 150) (z := z_147) dX2_replacedPart_150 rfl (Nat.le_of_ble_eq_true rfl) (Nat.le_of_ble_eq_true rfl) ⟨Nat.le_refl _, Nat.le_add_right _ _⟩ ⟨_, rfl, (by omega), ⟨m9, q9, h9, fun S hG E => by rw [puO_s, if_neg (by omega)]; exact pu_end hG E C hm ht hz1 hz2 hz3 g1 h1 x1 p_9 (by first | exact Or.inl ⟨by omega, rfl⟩ | exact Or.inr ⟨by omega, rfl⟩) (by first | exact Or.inl ⟨by omega, rfl⟩ | exact Or.inr ⟨by omega, rfl⟩) (by first | exact Or.inl ⟨by omega, rfl⟩ | exact Or.inr ⟨by omega, rfl⟩)⟩⟩
        · refine tz_iload (pc := 112) dX2_replacedPart_112 rfl ?_
          refine tz_goto (pc := 114) (tgt := 126) dX2_replacedPart_114 (by decide) ?_
          refine tz_istore (pc := 126) (L2 := [_, _, _, _, _, _, _, _, _, _, _]) dX2_replacedPart_126 (by decide) rfl ?_
          refine tz_aload_n (pc := 128) dX2_replacedPart_128 rfl rfl ?_
          refine tz_fR (pc := 129) dX2_replacedPart_129 fl_X2_28 r_141_0 ?_
          refine tz_aload_n (pc := 132) dX2_replacedPart_132 rfl rfl ?_
          refine tz_fR (pc := 133) dX2_replacedPart_133 fl_X2_28 r_141_0 ?_
          refine tz_fR (pc := 136) dX2_replacedPart_136 fl_X2_42 r_6_1 ?_
          refine tz_iload_n (pc := 139) dX2_replacedPart_139 rfl rfl ?_
          refine tz_aL (pc := 140) (z := t) (v := (J_58 7 t)) dX2_replacedPart_140 a_7 rfl (by omega) rfl (fun r_140 => ?_)
          refine tz_iload (pc := 141) dX2_replacedPart_141 rfl ?_
          refine tz_iload (pc := 143) dX2_replacedPart_143 rfl ?_
          refine tz_iload (pc := 145) dX2_replacedPart_145 rfl ?_
          refine tz_cV (pc := 147) (c_made hl n _ _ _ _ _ (by omega) (by omega) (by omega) (by omega) m1 g1.2.1 g1.2.2.1 (by omega) (GR.lt g1 ht (fun h => by have := GR.arg g1 C ht (i := 0) (by omega); omega) (fun h => by have := GR.arg g1 C ht (i := 1) (by omega); omega) (fun h => by have := GR.arg g1 C ht (i := 2) (by omega); omega))) vl_X2_52 dX2_replacedPart_147 o_6 rfl rfl (Nat.le_of_ble_eq_true rfl) ⟨(Nat.le_of_ble_eq_true rfl), (Nat.le_of_ble_eq_true rfl)⟩ rfl rfl (Nat.le_of_ble_eq_true rfl) (Nat.le_of_ble_eq_true rfl) (fun r9 J_147 hq9 => ?_)
          obtain ⟨z_147, rfl, hz_147, p_9⟩ := hq9
          obtain ⟨m9, g9, h9⟩ := GR.made p_9 (by omega)
          have q9 := GR.tr g1 g9
          exact tz_iret (pc := 150) (z := z_147) dX2_replacedPart_150 rfl (Nat.le_of_ble_eq_true rfl) (Nat.le_of_ble_eq_true rfl) ⟨Nat.le_refl _, Nat.le_add_right _ _⟩ ⟨_, rfl, (by omega), ⟨m9, q9, h9, fun S hG E => by rw [puO_s, if_neg (by omega)]; exact pu_end hG E C hm ht hz1 hz2 hz3 g1 h1 x1 p_9 (by first | exact Or.inl ⟨by omega, rfl⟩ | exact Or.inr ⟨by omega, rfl⟩) (by first | exact Or.inl ⟨by omega, rfl⟩ | exact Or.inr ⟨by omega, rfl⟩) (by first | exact Or.inl ⟨by omega, rfl⟩ | exact Or.inr ⟨by omega, rfl⟩)⟩⟩
  · refine tz_iload_n (pc := 4) dX2_replacedPart_4 rfl rfl ?_
    exact tz_iret (pc := 5) (z := x) dX2_replacedPart_5 rfl (Nat.le_of_ble_eq_true rfl) (Nat.le_of_ble_eq_true rfl) ⟨Nat.le_refl _, Nat.le_add_right _ _⟩ ⟨_, rfl, (by omega), ⟨m, GR.rf C hm, by omega, fun S hG E => Or.inr ⟨by omega, by rw [puO_s, if_pos (by omega)]; exact hG, by rw [puO_s, if_pos (by omega)]; exact E, by rw [puO_s, if_pos (by omega)]⟩⟩⟩

set_option maxHeartbeats 4000000 in
set_option maxRecDepth 100000 in
theorem x_put1 {l : Launch} {G : tb_G} (hl : l.stackTraces = false) (n : Nat) (J : zJ) (t : Int) (p : Int) (x : Int) (hr_t : -2147483648 ≤ t ∧ t < 2147483648) (hr_p : -2147483648 ≤ p ∧ p < 2147483648) (hr_x : -2147483648 ≤ x ∧ x < 2147483648) (m : Int) (C : CT J m) (hm : J 6 12 = m) (ht : 0 ≤ t ∧ t < m) (hp : p < J 10 t) (ho : 0 ≤ x ∧ x < m) (hd : J 12 t ≤ 6) : tz_Ok l G M_X2_replacedPart 8 0 0 [.ref 141, zi t, zi p, zi x, zi 1] n J (zqi (fun z J' => ∃ m', GR J' J m m' ∧ (z = -3 ∨ (0 ≤ z ∧ z < m')) ∧ ∀ S, S 164 21 = 0 → A0 J S → EXO (puO x 6 S t p) z J')) zN := by
  refine tz_Ok.of hl (by decide +kernel) rfl (tb_c1 rfl) (Nat.le_of_ble_eq_true rfl) ?_
  show tz_At l G M_X2_replacedPart (tb_rm 8 0 0) none (tb_ZM G 0 0 (zQ n 0 (zqi (fun z J' => ∃ m', GR J' J m m' ∧ (z = -3 ∨ (0 ≤ z ∧ z < m')) ∧ ∀ S, S 164 21 = 0 → A0 J S → EXO (puO x 6 S t p) z J'))) (zX n 0 zN)) 0 0 n J 0 [some (.ref 141), some (zi t), some (zi p), some (zi x), some (zi 1), none, none, none, none, none, none] []
  have hb := C.told
  have har := C.ar ht.1 ht.2
  have hn := C.nums ht.1 ht.2
  refine tz_iload_n (pc := 0) dX2_replacedPart_0 rfl rfl ?_
  refine tz_if_gt (pc := 1) (tgt := 6) dX2_replacedPart_1 (by decide) (by omega) (fun h_1 => ?_) (fun h_1 => ?_)
  · refine tz_iload (pc := 6) dX2_replacedPart_6 rfl ?_
    refine tz_bipush (pc := 8) dX2_replacedPart_8 (by decide) ?_
    refine tz_icmp_leT (pc := 10) (tgt := 16) (by decide) dX2_replacedPart_10 (by decide) (by decide) (by decide) ?_
    refine tz_aload_n (pc := 16) dX2_replacedPart_16 rfl rfl ?_
    refine tz_fR (pc := 17) dX2_replacedPart_17 fl_X2_28 r_141_0 ?_
    refine tz_iload_n (pc := 20) dX2_replacedPart_20 rfl rfl ?_
    refine tz_iload_n (pc := 21) dX2_replacedPart_21 rfl rfl ?_
    refine tz_cV (pc := 22) (c_atPlace hl n _ _ _ (by omega) (by omega) m C (by omega) (by omega)) vl_X2_78 dX2_replacedPart_22 o_6 rfl rfl (Nat.le_of_ble_eq_true rfl) ⟨(Nat.le_of_ble_eq_true rfl), (Nat.le_of_ble_eq_true rfl)⟩ rfl rfl (Nat.le_of_ble_eq_true rfl) (Nat.le_of_ble_eq_true rfl) (fun r9 J_22 hq9 => ?_)
    obtain ⟨z_22, rfl, hz_22, rfl, hz1, hz2, hz3⟩ := hq9
    have hg := C.arg (t := t) (i := z_22) (by omega) (by omega) (by omega) (by omega)
    have hbd := zfr_bd C (t := t) (by omega) (by omega) z_22.toNat (by omega)
    refine tz_istore (pc := 25) (L2 := [_, _, _, _, _, _, _, _, _, _, _]) dX2_replacedPart_25 (by decide) rfl ?_
    refine tz_aload_n (pc := 27) dX2_replacedPart_27 rfl rfl ?_
    refine tz_fR (pc := 28) dX2_replacedPart_28 fl_X2_28 r_141_0 ?_
    refine tz_iload_n (pc := 31) dX2_replacedPart_31 rfl rfl ?_
    refine tz_iload (pc := 32) dX2_replacedPart_32 rfl ?_
    refine tz_cV (pc := 34) (c_arg hl n _ _ _ (by omega) (by omega) (by omega)) vl_X2_48 dX2_replacedPart_34 o_6 rfl rfl (Nat.le_of_ble_eq_true rfl) ⟨(Nat.le_of_ble_eq_true rfl), (Nat.le_of_ble_eq_true rfl)⟩ rfl rfl (Nat.le_of_ble_eq_true rfl) (Nat.le_of_ble_eq_true rfl) (fun r9 J_34 hq9 => ?_)
    obtain ⟨z_34, rfl, hz_34, rfl, rfl⟩ := hq9
    refine tz_istore (pc := 37) (L2 := [_, _, _, _, _, _, _, _, _, _, _]) dX2_replacedPart_37 (by decide) rfl ?_
    refine tz_aload_n (pc := 39) dX2_replacedPart_39 rfl rfl ?_
    refine tz_iload (pc := 40) dX2_replacedPart_40 rfl ?_
    refine tz_aload_n (pc := 42) dX2_replacedPart_42 rfl rfl ?_
    refine tz_fR (pc := 43) dX2_replacedPart_43 fl_X2_28 r_141_0 ?_
    refine tz_iload_n (pc := 46) dX2_replacedPart_46 rfl rfl ?_
    refine tz_iload_n (pc := 47) dX2_replacedPart_47 rfl rfl ?_
    refine tz_iload (pc := 48) dX2_replacedPart_48 rfl ?_
    refine tz_cV (pc := 50) (c_inArg hl n _ _ _ _ (by omega) (by omega) (by omega) m C (by omega) (by omega) (by omega)) vl_X2_81 dX2_replacedPart_50 o_6 rfl rfl (Nat.le_of_ble_eq_true rfl) ⟨(Nat.le_of_ble_eq_true rfl), (Nat.le_of_ble_eq_true rfl)⟩ rfl rfl (Nat.le_of_ble_eq_true rfl) (Nat.le_of_ble_eq_true rfl) (fun r9 J_50 hq9 => ?_)
    obtain ⟨z_50, rfl, hz_50, rfl, rfl⟩ := hq9
    refine tz_iload_n (pc := 53) dX2_replacedPart_53 rfl rfl ?_
    refine tz_iload (pc := 54) dX2_replacedPart_54 rfl ?_
    refine tz_iconst (pc := 56) dX2_replacedPart_56 ?_
    refine tz_iadd (pc := 57) (v := 2) dX2_replacedPart_57 (by decide) ?_
    refine tz_cV (pc := 58) (x_put2 hl n _ _ _ _ (by omega) (by omega) (by omega) m C hm (by omega) (by have := zfr_s (J := J) (t := t) (i := z_22) (by omega); omega) ho (by omega)) vl_X2_75 dX2_replacedPart_58 o_141 rfl rfl (Nat.le_of_ble_eq_true rfl) ⟨(Nat.le_of_ble_eq_true rfl), (Nat.le_of_ble_eq_true rfl)⟩ rfl rfl (Nat.le_of_ble_eq_true rfl) (Nat.le_of_ble_eq_true rfl) (fun r9 J_58 hq9 => ?_)
    obtain ⟨z_58, rfl, hz_58, m1, g1, h1, x1⟩ := hq9
    have d1 := g1.1
    have har2 := g1.2.1.ar (t := t) (by omega) (by omega)
    have e1 := g1.2.2.2.2 1 rfl
    refine tz_istore (pc := 61) (L2 := [_, _, _, _, _, _, _, _, _, _, _]) dX2_replacedPart_61 (by decide) rfl ?_
    refine tz_iload (pc := 63) dX2_replacedPart_63 rfl ?_
    refine tz_if_ne (pc := 65) (tgt := 73) dX2_replacedPart_65 (by decide) (by omega) (fun h_65 => ?_) (fun h_65 => ?_)
    · refine tz_aload_n (pc := 73) dX2_replacedPart_73 rfl rfl ?_
      refine tz_fR (pc := 74) dX2_replacedPart_74 fl_X2_28 r_141_0 ?_
      refine tz_iload_n (pc := 77) dX2_replacedPart_77 rfl rfl ?_
      refine tz_iconst (pc := 78) dX2_replacedPart_78 ?_
      refine tz_cV (pc := 79) (c_arg hl n _ _ _ (by omega) (by decide) (by omega)) vl_X2_48 dX2_replacedPart_79 o_6 rfl rfl (Nat.le_of_ble_eq_true rfl) ⟨(Nat.le_of_ble_eq_true rfl), (Nat.le_of_ble_eq_true rfl)⟩ rfl rfl (Nat.le_of_ble_eq_true rfl) (Nat.le_of_ble_eq_true rfl) (fun r9 J_79 hq9 => ?_)
      obtain ⟨z_79, rfl, hz_79, rfl, rfl⟩ := hq9
      refine tz_istore (pc := 82) (L2 := [_, _, _, _, _, _, _, _, _, _, _]) dX2_replacedPart_82 (by decide) rfl ?_
      refine tz_iload (pc := 84) dX2_replacedPart_84 rfl ?_
      refine tz_iconst (pc := 86) dX2_replacedPart_86 ?_
      refine tz_icmp_ne (pc := 87) (tgt := 95) dX2_replacedPart_87 (by decide) (by omega) (by decide) (fun h_87 => ?_) (fun h_87 => ?_)
      · refine tz_aload_n (pc := 95) dX2_replacedPart_95 rfl rfl ?_
        refine tz_fR (pc := 96) dX2_replacedPart_96 fl_X2_28 r_141_0 ?_
        refine tz_iload_n (pc := 99) dX2_replacedPart_99 rfl rfl ?_
        refine tz_iconst (pc := 100) dX2_replacedPart_100 ?_
        refine tz_cV (pc := 101) (c_arg hl n _ _ _ (by omega) (by decide) (by omega)) vl_X2_48 dX2_replacedPart_101 o_6 rfl rfl (Nat.le_of_ble_eq_true rfl) ⟨(Nat.le_of_ble_eq_true rfl), (Nat.le_of_ble_eq_true rfl)⟩ rfl rfl (Nat.le_of_ble_eq_true rfl) (Nat.le_of_ble_eq_true rfl) (fun r9 J_101 hq9 => ?_)
        obtain ⟨z_101, rfl, hz_101, rfl, rfl⟩ := hq9
        refine tz_istore (pc := 104) (L2 := [_, _, _, _, _, _, _, _, _, _, _]) dX2_replacedPart_104 (by decide) rfl ?_
        refine tz_iload (pc := 106) dX2_replacedPart_106 rfl ?_
        refine tz_iconst (pc := 108) dX2_replacedPart_108 ?_
        refine tz_icmp_ne (pc := 109) (tgt := 117) dX2_replacedPart_109 (by decide) (by omega) (by decide) (fun h_109 => ?_) (fun h_109 => ?_)
        · refine tz_aload_n (pc := 117) dX2_replacedPart_117 rfl rfl ?_
          refine tz_fR (pc := 118) dX2_replacedPart_118 fl_X2_28 r_141_0 ?_
          refine tz_iload_n (pc := 121) dX2_replacedPart_121 rfl rfl ?_
          refine tz_iconst (pc := 122) dX2_replacedPart_122 ?_
          refine tz_cV (pc := 123) (c_arg hl n _ _ _ (by omega) (by decide) (by omega)) vl_X2_48 dX2_replacedPart_123 o_6 rfl rfl (Nat.le_of_ble_eq_true rfl) ⟨(Nat.le_of_ble_eq_true rfl), (Nat.le_of_ble_eq_true rfl)⟩ rfl rfl (Nat.le_of_ble_eq_true rfl) (Nat.le_of_ble_eq_true rfl) (fun r9 J_123 hq9 => ?_)
          obtain ⟨z_123, rfl, hz_123, rfl, rfl⟩ := hq9
          refine tz_istore (pc := 126) (L2 := [_, _, _, _, _, _, _, _, _, _, _]) dX2_replacedPart_126 (by decide) rfl ?_
          refine tz_aload_n (pc := 128) dX2_replacedPart_128 rfl rfl ?_
          refine tz_fR (pc := 129) dX2_replacedPart_129 fl_X2_28 r_141_0 ?_
          refine tz_aload_n (pc := 132) dX2_replacedPart_132 rfl rfl ?_
          refine tz_fR (pc := 133) dX2_replacedPart_133 fl_X2_28 r_141_0 ?_
          refine tz_fR (pc := 136) dX2_replacedPart_136 fl_X2_42 r_6_1 ?_
          refine tz_iload_n (pc := 139) dX2_replacedPart_139 rfl rfl ?_
          refine tz_aL (pc := 140) (z := t) (v := (J_58 7 t)) dX2_replacedPart_140 a_7 rfl (by omega) rfl (fun r_140 => ?_)
          refine tz_iload (pc := 141) dX2_replacedPart_141 rfl ?_
          refine tz_iload (pc := 143) dX2_replacedPart_143 rfl ?_
          refine tz_iload (pc := 145) dX2_replacedPart_145 rfl ?_
          refine tz_cV (pc := 147) (c_made hl n _ _ _ _ _ (by omega) (by omega) (by omega) (by omega) m1 g1.2.1 g1.2.2.1 (by omega) (GR.lt g1 ht (fun h => by have := GR.arg g1 C ht (i := 0) (by omega); omega) (fun h => by have := GR.arg g1 C ht (i := 1) (by omega); omega) (fun h => by have := GR.arg g1 C ht (i := 2) (by omega); omega))) vl_X2_52 dX2_replacedPart_147 o_6 rfl rfl (Nat.le_of_ble_eq_true rfl) ⟨(Nat.le_of_ble_eq_true rfl), (Nat.le_of_ble_eq_true rfl)⟩ rfl rfl (Nat.le_of_ble_eq_true rfl) (Nat.le_of_ble_eq_true rfl) (fun r9 J_147 hq9 => ?_)
          obtain ⟨z_147, rfl, hz_147, p_9⟩ := hq9
          obtain ⟨m9, g9, h9⟩ := GR.made p_9 (by omega)
          have q9 := GR.tr g1 g9
          exact tz_iret (pc := 150) (z := z_147) dX2_replacedPart_150 rfl (Nat.le_of_ble_eq_true rfl) (Nat.le_of_ble_eq_true rfl) ⟨Nat.le_refl _, Nat.le_add_right _ _⟩ ⟨_, rfl, (by omega), ⟨m9, q9, h9, fun S hG E => by rw [puO_s, if_neg (by omega)]; exact pu_end hG E C hm ht hz1 hz2 hz3 g1 h1 x1 p_9 (by first | exact Or.inl ⟨by omega, rfl⟩ | exact Or.inr ⟨by omega, rfl⟩) (by first | exact Or.inl ⟨by omega, rfl⟩ | exact Or.inr ⟨by omega, rfl⟩) (by first | exact Or.inl ⟨by omega, rfl⟩ | exact Or.inr ⟨by omega, rfl⟩)⟩⟩
        · refine tz_iload (pc := 112) dX2_replacedPart_112 rfl ?_
          refine tz_goto (pc := 114) (tgt := 126) dX2_replacedPart_114 (by decide) ?_
          refine tz_istore (pc := 126) (L2 := [_, _, _, _, _, _, _, _, _, _, _]) dX2_replacedPart_126 (by decide) rfl ?_
          refine tz_aload_n (pc := 128) dX2_replacedPart_128 rfl rfl ?_
          refine tz_fR (pc := 129) dX2_replacedPart_129 fl_X2_28 r_141_0 ?_
          refine tz_aload_n (pc := 132) dX2_replacedPart_132 rfl rfl ?_
          refine tz_fR (pc := 133) dX2_replacedPart_133 fl_X2_28 r_141_0 ?_
          refine tz_fR (pc := 136) dX2_replacedPart_136 fl_X2_42 r_6_1 ?_
          refine tz_iload_n (pc := 139) dX2_replacedPart_139 rfl rfl ?_
          refine tz_aL (pc := 140) (z := t) (v := (J_58 7 t)) dX2_replacedPart_140 a_7 rfl (by omega) rfl (fun r_140 => ?_)
          refine tz_iload (pc := 141) dX2_replacedPart_141 rfl ?_
          refine tz_iload (pc := 143) dX2_replacedPart_143 rfl ?_
          refine tz_iload (pc := 145) dX2_replacedPart_145 rfl ?_
          refine tz_cV (pc := 147) (c_made hl n _ _ _ _ _ (by omega) (by omega) (by omega) (by omega) m1 g1.2.1 g1.2.2.1 (by omega) (GR.lt g1 ht (fun h => by have := GR.arg g1 C ht (i := 0) (by omega); omega) (fun h => by have := GR.arg g1 C ht (i := 1) (by omega); omega) (fun h => by have := GR.arg g1 C ht (i := 2) (by omega); omega))) vl_X2_52 dX2_replacedPart_147 o_6 rfl rfl (Nat.le_of_ble_eq_true rfl) ⟨(Nat.le_of_ble_eq_true rfl), (Nat.le_of_ble_eq_true rfl)⟩ rfl rfl (Nat.le_of_ble_eq_true rfl) (Nat.le_of_ble_eq_true rfl) (fun r9 J_147 hq9 => ?_)
          obtain ⟨z_147, rfl, hz_147, p_9⟩ := hq9
          obtain ⟨m9, g9, h9⟩ := GR.made p_9 (by omega)
          have q9 := GR.tr g1 g9
          exact tz_iret (pc := 150) (z := z_147) dX2_replacedPart_150 rfl (Nat.le_of_ble_eq_true rfl) (Nat.le_of_ble_eq_true rfl) ⟨Nat.le_refl _, Nat.le_add_right _ _⟩ ⟨_, rfl, (by omega), ⟨m9, q9, h9, fun S hG E => by rw [puO_s, if_neg (by omega)]; exact pu_end hG E C hm ht hz1 hz2 hz3 g1 h1 x1 p_9 (by first | exact Or.inl ⟨by omega, rfl⟩ | exact Or.inr ⟨by omega, rfl⟩) (by first | exact Or.inl ⟨by omega, rfl⟩ | exact Or.inr ⟨by omega, rfl⟩) (by first | exact Or.inl ⟨by omega, rfl⟩ | exact Or.inr ⟨by omega, rfl⟩)⟩⟩
      · refine tz_iload (pc := 90) dX2_replacedPart_90 rfl ?_
        refine tz_goto (pc := 92) (tgt := 104) dX2_replacedPart_92 (by decide) ?_
        refine tz_istore (pc := 104) (L2 := [_, _, _, _, _, _, _, _, _, _, _]) dX2_replacedPart_104 (by decide) rfl ?_
        refine tz_iload (pc := 106) dX2_replacedPart_106 rfl ?_
        refine tz_iconst (pc := 108) dX2_replacedPart_108 ?_
        refine tz_icmp_ne (pc := 109) (tgt := 117) dX2_replacedPart_109 (by decide) (by omega) (by decide) (fun h_109 => ?_) (fun h_109 => ?_)
        · refine tz_aload_n (pc := 117) dX2_replacedPart_117 rfl rfl ?_
          refine tz_fR (pc := 118) dX2_replacedPart_118 fl_X2_28 r_141_0 ?_
          refine tz_iload_n (pc := 121) dX2_replacedPart_121 rfl rfl ?_
          refine tz_iconst (pc := 122) dX2_replacedPart_122 ?_
          refine tz_cV (pc := 123) (c_arg hl n _ _ _ (by omega) (by decide) (by omega)) vl_X2_48 dX2_replacedPart_123 o_6 rfl rfl (Nat.le_of_ble_eq_true rfl) ⟨(Nat.le_of_ble_eq_true rfl), (Nat.le_of_ble_eq_true rfl)⟩ rfl rfl (Nat.le_of_ble_eq_true rfl) (Nat.le_of_ble_eq_true rfl) (fun r9 J_123 hq9 => ?_)
          obtain ⟨z_123, rfl, hz_123, rfl, rfl⟩ := hq9
          refine tz_istore (pc := 126) (L2 := [_, _, _, _, _, _, _, _, _, _, _]) dX2_replacedPart_126 (by decide) rfl ?_
          refine tz_aload_n (pc := 128) dX2_replacedPart_128 rfl rfl ?_
          refine tz_fR (pc := 129) dX2_replacedPart_129 fl_X2_28 r_141_0 ?_
          refine tz_aload_n (pc := 132) dX2_replacedPart_132 rfl rfl ?_
          refine tz_fR (pc := 133) dX2_replacedPart_133 fl_X2_28 r_141_0 ?_
          refine tz_fR (pc := 136) dX2_replacedPart_136 fl_X2_42 r_6_1 ?_
          refine tz_iload_n (pc := 139) dX2_replacedPart_139 rfl rfl ?_
          refine tz_aL (pc := 140) (z := t) (v := (J_58 7 t)) dX2_replacedPart_140 a_7 rfl (by omega) rfl (fun r_140 => ?_)
          refine tz_iload (pc := 141) dX2_replacedPart_141 rfl ?_
          refine tz_iload (pc := 143) dX2_replacedPart_143 rfl ?_
          refine tz_iload (pc := 145) dX2_replacedPart_145 rfl ?_
          refine tz_cV (pc := 147) (c_made hl n _ _ _ _ _ (by omega) (by omega) (by omega) (by omega) m1 g1.2.1 g1.2.2.1 (by omega) (GR.lt g1 ht (fun h => by have := GR.arg g1 C ht (i := 0) (by omega); omega) (fun h => by have := GR.arg g1 C ht (i := 1) (by omega); omega) (fun h => by have := GR.arg g1 C ht (i := 2) (by omega); omega))) vl_X2_52 dX2_replacedPart_147 o_6 rfl rfl (Nat.le_of_ble_eq_true rfl) ⟨(Nat.le_of_ble_eq_true rfl), (Nat.le_of_ble_eq_true rfl)⟩ rfl rfl (Nat.le_of_ble_eq_true rfl) (Nat.le_of_ble_eq_true rfl) (fun r9 J_147 hq9 => ?_)
          obtain ⟨z_147, rfl, hz_147, p_9⟩ := hq9
          obtain ⟨m9, g9, h9⟩ := GR.made p_9 (by omega)
          have q9 := GR.tr g1 g9
          exact tz_iret (pc := 150) (z := z_147) dX2_replacedPart_150 rfl (Nat.le_of_ble_eq_true rfl) (Nat.le_of_ble_eq_true rfl) ⟨Nat.le_refl _, Nat.le_add_right _ _⟩ ⟨_, rfl, (by omega), ⟨m9, q9, h9, fun S hG E => by rw [puO_s, if_neg (by omega)]; exact pu_end hG E C hm ht hz1 hz2 hz3 g1 h1 x1 p_9 (by first | exact Or.inl ⟨by omega, rfl⟩ | exact Or.inr ⟨by omega, rfl⟩) (by first | exact Or.inl ⟨by omega, rfl⟩ | exact Or.inr ⟨by omega, rfl⟩) (by first | exact Or.inl ⟨by omega, rfl⟩ | exact Or.inr ⟨by omega, rfl⟩)⟩⟩
        · refine tz_iload (pc := 112) dX2_replacedPart_112 rfl ?_
          refine tz_goto (pc := 114) (tgt := 126) dX2_replacedPart_114 (by decide) ?_
          refine tz_istore (pc := 126) (L2 := [_, _, _, _, _, _, _, _, _, _, _]) dX2_replacedPart_126 (by decide) rfl ?_
          refine tz_aload_n (pc := 128) dX2_replacedPart_128 rfl rfl ?_
          refine tz_fR (pc := 129) dX2_replacedPart_129 fl_X2_28 r_141_0 ?_
          refine tz_aload_n (pc := 132) dX2_replacedPart_132 rfl rfl ?_
          refine tz_fR (pc := 133) dX2_replacedPart_133 fl_X2_28 r_141_0 ?_
          refine tz_fR (pc := 136) dX2_replacedPart_136 fl_X2_42 r_6_1 ?_
          refine tz_iload_n (pc := 139) dX2_replacedPart_139 rfl rfl ?_
          refine tz_aL (pc := 140) (z := t) (v := (J_58 7 t)) dX2_replacedPart_140 a_7 rfl (by omega) rfl (fun r_140 => ?_)
          refine tz_iload (pc := 141) dX2_replacedPart_141 rfl ?_
          refine tz_iload (pc := 143) dX2_replacedPart_143 rfl ?_
          refine tz_iload (pc := 145) dX2_replacedPart_145 rfl ?_
          refine tz_cV (pc := 147) (c_made hl n _ _ _ _ _ (by omega) (by omega) (by omega) (by omega) m1 g1.2.1 g1.2.2.1 (by omega) (GR.lt g1 ht (fun h => by have := GR.arg g1 C ht (i := 0) (by omega); omega) (fun h => by have := GR.arg g1 C ht (i := 1) (by omega); omega) (fun h => by have := GR.arg g1 C ht (i := 2) (by omega); omega))) vl_X2_52 dX2_replacedPart_147 o_6 rfl rfl (Nat.le_of_ble_eq_true rfl) ⟨(Nat.le_of_ble_eq_true rfl), (Nat.le_of_ble_eq_true rfl)⟩ rfl rfl (Nat.le_of_ble_eq_true rfl) (Nat.le_of_ble_eq_true rfl) (fun r9 J_147 hq9 => ?_)
          obtain ⟨z_147, rfl, hz_147, p_9⟩ := hq9
          obtain ⟨m9, g9, h9⟩ := GR.made p_9 (by omega)
          have q9 := GR.tr g1 g9
          exact tz_iret (pc := 150) (z := z_147) dX2_replacedPart_150 rfl (Nat.le_of_ble_eq_true rfl) (Nat.le_of_ble_eq_true rfl) ⟨Nat.le_refl _, Nat.le_add_right _ _⟩ ⟨_, rfl, (by omega), ⟨m9, q9, h9, fun S hG E => by rw [puO_s, if_neg (by omega)]; exact pu_end hG E C hm ht hz1 hz2 hz3 g1 h1 x1 p_9 (by first | exact Or.inl ⟨by omega, rfl⟩ | exact Or.inr ⟨by omega, rfl⟩) (by first | exact Or.inl ⟨by omega, rfl⟩ | exact Or.inr ⟨by omega, rfl⟩) (by first | exact Or.inl ⟨by omega, rfl⟩ | exact Or.inr ⟨by omega, rfl⟩)⟩⟩
    · refine tz_iload (pc := 68) dX2_replacedPart_68 rfl ?_
      refine tz_goto (pc := 70) (tgt := 82) dX2_replacedPart_70 (by decide) ?_
      refine tz_istore (pc := 82) (L2 := [_, _, _, _, _, _, _, _, _, _, _]) dX2_replacedPart_82 (by decide) rfl ?_
      refine tz_iload (pc := 84) dX2_replacedPart_84 rfl ?_
      refine tz_iconst (pc := 86) dX2_replacedPart_86 ?_
      refine tz_icmp_ne (pc := 87) (tgt := 95) dX2_replacedPart_87 (by decide) (by omega) (by decide) (fun h_87 => ?_) (fun h_87 => ?_)
      · refine tz_aload_n (pc := 95) dX2_replacedPart_95 rfl rfl ?_
        refine tz_fR (pc := 96) dX2_replacedPart_96 fl_X2_28 r_141_0 ?_
        refine tz_iload_n (pc := 99) dX2_replacedPart_99 rfl rfl ?_
        refine tz_iconst (pc := 100) dX2_replacedPart_100 ?_
        refine tz_cV (pc := 101) (c_arg hl n _ _ _ (by omega) (by decide) (by omega)) vl_X2_48 dX2_replacedPart_101 o_6 rfl rfl (Nat.le_of_ble_eq_true rfl) ⟨(Nat.le_of_ble_eq_true rfl), (Nat.le_of_ble_eq_true rfl)⟩ rfl rfl (Nat.le_of_ble_eq_true rfl) (Nat.le_of_ble_eq_true rfl) (fun r9 J_101 hq9 => ?_)
        obtain ⟨z_101, rfl, hz_101, rfl, rfl⟩ := hq9
        refine tz_istore (pc := 104) (L2 := [_, _, _, _, _, _, _, _, _, _, _]) dX2_replacedPart_104 (by decide) rfl ?_
        refine tz_iload (pc := 106) dX2_replacedPart_106 rfl ?_
        refine tz_iconst (pc := 108) dX2_replacedPart_108 ?_
        refine tz_icmp_ne (pc := 109) (tgt := 117) dX2_replacedPart_109 (by decide) (by omega) (by decide) (fun h_109 => ?_) (fun h_109 => ?_)
        · refine tz_aload_n (pc := 117) dX2_replacedPart_117 rfl rfl ?_
          refine tz_fR (pc := 118) dX2_replacedPart_118 fl_X2_28 r_141_0 ?_
          refine tz_iload_n (pc := 121) dX2_replacedPart_121 rfl rfl ?_
          refine tz_iconst (pc := 122) dX2_replacedPart_122 ?_
          refine tz_cV (pc := 123) (c_arg hl n _ _ _ (by omega) (by decide) (by omega)) vl_X2_48 dX2_replacedPart_123 o_6 rfl rfl (Nat.le_of_ble_eq_true rfl) ⟨(Nat.le_of_ble_eq_true rfl), (Nat.le_of_ble_eq_true rfl)⟩ rfl rfl (Nat.le_of_ble_eq_true rfl) (Nat.le_of_ble_eq_true rfl) (fun r9 J_123 hq9 => ?_)
          obtain ⟨z_123, rfl, hz_123, rfl, rfl⟩ := hq9
          refine tz_istore (pc := 126) (L2 := [_, _, _, _, _, _, _, _, _, _, _]) dX2_replacedPart_126 (by decide) rfl ?_
          refine tz_aload_n (pc := 128) dX2_replacedPart_128 rfl rfl ?_
          refine tz_fR (pc := 129) dX2_replacedPart_129 fl_X2_28 r_141_0 ?_
          refine tz_aload_n (pc := 132) dX2_replacedPart_132 rfl rfl ?_
          refine tz_fR (pc := 133) dX2_replacedPart_133 fl_X2_28 r_141_0 ?_
          refine tz_fR (pc := 136) dX2_replacedPart_136 fl_X2_42 r_6_1 ?_
          refine tz_iload_n (pc := 139) dX2_replacedPart_139 rfl rfl ?_
          refine tz_aL (pc := 140) (z := t) (v := (J_58 7 t)) dX2_replacedPart_140 a_7 rfl (by omega) rfl (fun r_140 => ?_)
          refine tz_iload (pc := 141) dX2_replacedPart_141 rfl ?_
          refine tz_iload (pc := 143) dX2_replacedPart_143 rfl ?_
          refine tz_iload (pc := 145) dX2_replacedPart_145 rfl ?_
          refine tz_cV (pc := 147) (c_made hl n _ _ _ _ _ (by omega) (by omega) (by omega) (by omega) m1 g1.2.1 g1.2.2.1 (by omega) (GR.lt g1 ht (fun h => by have := GR.arg g1 C ht (i := 0) (by omega); omega) (fun h => by have := GR.arg g1 C ht (i := 1) (by omega); omega) (fun h => by have := GR.arg g1 C ht (i := 2) (by omega); omega))) vl_X2_52 dX2_replacedPart_147 o_6 rfl rfl (Nat.le_of_ble_eq_true rfl) ⟨(Nat.le_of_ble_eq_true rfl), (Nat.le_of_ble_eq_true rfl)⟩ rfl rfl (Nat.le_of_ble_eq_true rfl) (Nat.le_of_ble_eq_true rfl) (fun r9 J_147 hq9 => ?_)
          obtain ⟨z_147, rfl, hz_147, p_9⟩ := hq9
          obtain ⟨m9, g9, h9⟩ := GR.made p_9 (by omega)
          have q9 := GR.tr g1 g9
          exact tz_iret (pc := 150) (z := z_147) dX2_replacedPart_150 rfl (Nat.le_of_ble_eq_true rfl) (Nat.le_of_ble_eq_true rfl) ⟨Nat.le_refl _, Nat.le_add_right _ _⟩ ⟨_, rfl, (by omega), ⟨m9, q9, h9, fun S hG E => by rw [puO_s, if_neg (by omega)]; exact pu_end hG E C hm ht hz1 hz2 hz3 g1 h1 x1 p_9 (by first | exact Or.inl ⟨by omega, rfl⟩ | exact Or.inr ⟨by omega, rfl⟩) (by first | exact Or.inl ⟨by omega, rfl⟩ | exact Or.inr ⟨by omega, rfl⟩) (by first | exact Or.inl ⟨by omega, rfl⟩ | exact Or.inr ⟨by omega, rfl⟩)⟩⟩
        · refine tz_iload (pc := 112) dX2_replacedPart_112 rfl ?_
          refine tz_goto (pc := 114) (tgt := 126) dX2_replacedPart_114 (by decide) ?_
          refine tz_istore (pc := 126) (L2 := [_, _, _, _, _, _, _, _, _, _, _]) dX2_replacedPart_126 (by decide) rfl ?_
          refine tz_aload_n (pc := 128) dX2_replacedPart_128 rfl rfl ?_
          refine tz_fR (pc := 129) dX2_replacedPart_129 fl_X2_28 r_141_0 ?_
          refine tz_aload_n (pc := 132) dX2_replacedPart_132 rfl rfl ?_
          refine tz_fR (pc := 133) dX2_replacedPart_133 fl_X2_28 r_141_0 ?_
          refine tz_fR (pc := 136) dX2_replacedPart_136 fl_X2_42 r_6_1 ?_
          refine tz_iload_n (pc := 139) dX2_replacedPart_139 rfl rfl ?_
          refine tz_aL (pc := 140) (z := t) (v := (J_58 7 t)) dX2_replacedPart_140 a_7 rfl (by omega) rfl (fun r_140 => ?_)
          refine tz_iload (pc := 141) dX2_replacedPart_141 rfl ?_
          refine tz_iload (pc := 143) dX2_replacedPart_143 rfl ?_
          refine tz_iload (pc := 145) dX2_replacedPart_145 rfl ?_
          refine tz_cV (pc := 147) (c_made hl n _ _ _ _ _ (by omega) (by omega) (by omega) (by omega) m1 g1.2.1 g1.2.2.1 (by omega) (GR.lt g1 ht (fun h => by have := GR.arg g1 C ht (i := 0) (by omega); omega) (fun h => by have := GR.arg g1 C ht (i := 1) (by omega); omega) (fun h => by have := GR.arg g1 C ht (i := 2) (by omega); omega))) vl_X2_52 dX2_replacedPart_147 o_6 rfl rfl (Nat.le_of_ble_eq_true rfl) ⟨(Nat.le_of_ble_eq_true rfl), (Nat.le_of_ble_eq_true rfl)⟩ rfl rfl (Nat.le_of_ble_eq_true rfl) (Nat.le_of_ble_eq_true rfl) (fun r9 J_147 hq9 => ?_)
          obtain ⟨z_147, rfl, hz_147, p_9⟩ := hq9
          obtain ⟨m9, g9, h9⟩ := GR.made p_9 (by omega)
          have q9 := GR.tr g1 g9
          exact tz_iret (pc := 150) (z := z_147) dX2_replacedPart_150 rfl (Nat.le_of_ble_eq_true rfl) (Nat.le_of_ble_eq_true rfl) ⟨Nat.le_refl _, Nat.le_add_right _ _⟩ ⟨_, rfl, (by omega), ⟨m9, q9, h9, fun S hG E => by rw [puO_s, if_neg (by omega)]; exact pu_end hG E C hm ht hz1 hz2 hz3 g1 h1 x1 p_9 (by first | exact Or.inl ⟨by omega, rfl⟩ | exact Or.inr ⟨by omega, rfl⟩) (by first | exact Or.inl ⟨by omega, rfl⟩ | exact Or.inr ⟨by omega, rfl⟩) (by first | exact Or.inl ⟨by omega, rfl⟩ | exact Or.inr ⟨by omega, rfl⟩)⟩⟩
      · refine tz_iload (pc := 90) dX2_replacedPart_90 rfl ?_
        refine tz_goto (pc := 92) (tgt := 104) dX2_replacedPart_92 (by decide) ?_
        refine tz_istore (pc := 104) (L2 := [_, _, _, _, _, _, _, _, _, _, _]) dX2_replacedPart_104 (by decide) rfl ?_
        refine tz_iload (pc := 106) dX2_replacedPart_106 rfl ?_
        refine tz_iconst (pc := 108) dX2_replacedPart_108 ?_
        refine tz_icmp_ne (pc := 109) (tgt := 117) dX2_replacedPart_109 (by decide) (by omega) (by decide) (fun h_109 => ?_) (fun h_109 => ?_)
        · refine tz_aload_n (pc := 117) dX2_replacedPart_117 rfl rfl ?_
          refine tz_fR (pc := 118) dX2_replacedPart_118 fl_X2_28 r_141_0 ?_
          refine tz_iload_n (pc := 121) dX2_replacedPart_121 rfl rfl ?_
          refine tz_iconst (pc := 122) dX2_replacedPart_122 ?_
          refine tz_cV (pc := 123) (c_arg hl n _ _ _ (by omega) (by decide) (by omega)) vl_X2_48 dX2_replacedPart_123 o_6 rfl rfl (Nat.le_of_ble_eq_true rfl) ⟨(Nat.le_of_ble_eq_true rfl), (Nat.le_of_ble_eq_true rfl)⟩ rfl rfl (Nat.le_of_ble_eq_true rfl) (Nat.le_of_ble_eq_true rfl) (fun r9 J_123 hq9 => ?_)
          obtain ⟨z_123, rfl, hz_123, rfl, rfl⟩ := hq9
          refine tz_istore (pc := 126) (L2 := [_, _, _, _, _, _, _, _, _, _, _]) dX2_replacedPart_126 (by decide) rfl ?_
          refine tz_aload_n (pc := 128) dX2_replacedPart_128 rfl rfl ?_
          refine tz_fR (pc := 129) dX2_replacedPart_129 fl_X2_28 r_141_0 ?_
          refine tz_aload_n (pc := 132) dX2_replacedPart_132 rfl rfl ?_
          refine tz_fR (pc := 133) dX2_replacedPart_133 fl_X2_28 r_141_0 ?_
          refine tz_fR (pc := 136) dX2_replacedPart_136 fl_X2_42 r_6_1 ?_
          refine tz_iload_n (pc := 139) dX2_replacedPart_139 rfl rfl ?_
          refine tz_aL (pc := 140) (z := t) (v := (J_58 7 t)) dX2_replacedPart_140 a_7 rfl (by omega) rfl (fun r_140 => ?_)
          refine tz_iload (pc := 141) dX2_replacedPart_141 rfl ?_
          refine tz_iload (pc := 143) dX2_replacedPart_143 rfl ?_
          refine tz_iload (pc := 145) dX2_replacedPart_145 rfl ?_
          refine tz_cV (pc := 147) (c_made hl n _ _ _ _ _ (by omega) (by omega) (by omega) (by omega) m1 g1.2.1 g1.2.2.1 (by omega) (GR.lt g1 ht (fun h => by have := GR.arg g1 C ht (i := 0) (by omega); omega) (fun h => by have := GR.arg g1 C ht (i := 1) (by omega); omega) (fun h => by have := GR.arg g1 C ht (i := 2) (by omega); omega))) vl_X2_52 dX2_replacedPart_147 o_6 rfl rfl (Nat.le_of_ble_eq_true rfl) ⟨(Nat.le_of_ble_eq_true rfl), (Nat.le_of_ble_eq_true rfl)⟩ rfl rfl (Nat.le_of_ble_eq_true rfl) (Nat.le_of_ble_eq_true rfl) (fun r9 J_147 hq9 => ?_)
          obtain ⟨z_147, rfl, hz_147, p_9⟩ := hq9
          obtain ⟨m9, g9, h9⟩ := GR.made p_9 (by omega)
          have q9 := GR.tr g1 g9
          exact tz_iret (pc := 150) (z := z_147) dX2_replacedPart_150 rfl (Nat.le_of_ble_eq_true rfl) (Nat.le_of_ble_eq_true rfl) ⟨Nat.le_refl _, Nat.le_add_right _ _⟩ ⟨_, rfl, (by omega), ⟨m9, q9, h9, fun S hG E => by rw [puO_s, if_neg (by omega)]; exact pu_end hG E C hm ht hz1 hz2 hz3 g1 h1 x1 p_9 (by first | exact Or.inl ⟨by omega, rfl⟩ | exact Or.inr ⟨by omega, rfl⟩) (by first | exact Or.inl ⟨by omega, rfl⟩ | exact Or.inr ⟨by omega, rfl⟩) (by first | exact Or.inl ⟨by omega, rfl⟩ | exact Or.inr ⟨by omega, rfl⟩)⟩⟩
        · refine tz_iload (pc := 112) dX2_replacedPart_112 rfl ?_
          refine tz_goto (pc := 114) (tgt := 126) dX2_replacedPart_114 (by decide) ?_
          refine tz_istore (pc := 126) (L2 := [_, _, _, _, _, _, _, _, _, _, _]) dX2_replacedPart_126 (by decide) rfl ?_
          refine tz_aload_n (pc := 128) dX2_replacedPart_128 rfl rfl ?_
          refine tz_fR (pc := 129) dX2_replacedPart_129 fl_X2_28 r_141_0 ?_
          refine tz_aload_n (pc := 132) dX2_replacedPart_132 rfl rfl ?_
          refine tz_fR (pc := 133) dX2_replacedPart_133 fl_X2_28 r_141_0 ?_
          refine tz_fR (pc := 136) dX2_replacedPart_136 fl_X2_42 r_6_1 ?_
          refine tz_iload_n (pc := 139) dX2_replacedPart_139 rfl rfl ?_
          refine tz_aL (pc := 140) (z := t) (v := (J_58 7 t)) dX2_replacedPart_140 a_7 rfl (by omega) rfl (fun r_140 => ?_)
          refine tz_iload (pc := 141) dX2_replacedPart_141 rfl ?_
          refine tz_iload (pc := 143) dX2_replacedPart_143 rfl ?_
          refine tz_iload (pc := 145) dX2_replacedPart_145 rfl ?_
          refine tz_cV (pc := 147) (c_made hl n _ _ _ _ _ (by omega) (by omega) (by omega) (by omega) m1 g1.2.1 g1.2.2.1 (by omega) (GR.lt g1 ht (fun h => by have := GR.arg g1 C ht (i := 0) (by omega); omega) (fun h => by have := GR.arg g1 C ht (i := 1) (by omega); omega) (fun h => by have := GR.arg g1 C ht (i := 2) (by omega); omega))) vl_X2_52 dX2_replacedPart_147 o_6 rfl rfl (Nat.le_of_ble_eq_true rfl) ⟨(Nat.le_of_ble_eq_true rfl), (Nat.le_of_ble_eq_true rfl)⟩ rfl rfl (Nat.le_of_ble_eq_true rfl) (Nat.le_of_ble_eq_true rfl) (fun r9 J_147 hq9 => ?_)
          obtain ⟨z_147, rfl, hz_147, p_9⟩ := hq9
          obtain ⟨m9, g9, h9⟩ := GR.made p_9 (by omega)
          have q9 := GR.tr g1 g9
          exact tz_iret (pc := 150) (z := z_147) dX2_replacedPart_150 rfl (Nat.le_of_ble_eq_true rfl) (Nat.le_of_ble_eq_true rfl) ⟨Nat.le_refl _, Nat.le_add_right _ _⟩ ⟨_, rfl, (by omega), ⟨m9, q9, h9, fun S hG E => by rw [puO_s, if_neg (by omega)]; exact pu_end hG E C hm ht hz1 hz2 hz3 g1 h1 x1 p_9 (by first | exact Or.inl ⟨by omega, rfl⟩ | exact Or.inr ⟨by omega, rfl⟩) (by first | exact Or.inl ⟨by omega, rfl⟩ | exact Or.inr ⟨by omega, rfl⟩) (by first | exact Or.inl ⟨by omega, rfl⟩ | exact Or.inr ⟨by omega, rfl⟩)⟩⟩
  · refine tz_iload_n (pc := 4) dX2_replacedPart_4 rfl rfl ?_
    exact tz_iret (pc := 5) (z := x) dX2_replacedPart_5 rfl (Nat.le_of_ble_eq_true rfl) (Nat.le_of_ble_eq_true rfl) ⟨Nat.le_refl _, Nat.le_add_right _ _⟩ ⟨_, rfl, (by omega), ⟨m, GR.rf C hm, by omega, fun S hG E => Or.inr ⟨by omega, by rw [puO_s, if_pos (by omega)]; exact hG, by rw [puO_s, if_pos (by omega)]; exact E, by rw [puO_s, if_pos (by omega)]⟩⟩⟩

set_option maxHeartbeats 4000000 in
set_option maxRecDepth 100000 in
theorem x_replaced {l : Launch} {G : tb_G} (hl : l.stackTraces = false) (n : Nat) (J : zJ) (t : Int) (p : Int) (x : Int) (hr_t : -2147483648 ≤ t ∧ t < 2147483648) (hr_p : -2147483648 ≤ p ∧ p < 2147483648) (hr_x : -2147483648 ≤ x ∧ x < 2147483648) (m : Int) (C : CT J m) (hm : J 6 12 = m) (ht : 0 ≤ t ∧ t < m) (hp : p < J 10 t) (ho : 0 ≤ x ∧ x < m) : tz_Ok l G M_X2_replaced 9 0 0 [.ref 141, zi t, zi p, zi x] n J (zqi (fun z J' => ∃ m', GR J' J m m' ∧ (z = -3 ∨ (0 ≤ z ∧ z < m')) ∧ ∀ S, S 164 21 = 0 → A0 J S → EXO (puO x 6 S t p) z J')) zN := by
  refine tz_Ok.of hl (by decide +kernel) rfl (tb_c1 rfl) (Nat.le_of_ble_eq_true rfl) ?_
  show tz_At l G M_X2_replaced (tb_rm 9 0 0) none (tb_ZM G 0 0 (zQ n 0 (zqi (fun z J' => ∃ m', GR J' J m m' ∧ (z = -3 ∨ (0 ≤ z ∧ z < m')) ∧ ∀ S, S 164 21 = 0 → A0 J S → EXO (puO x 6 S t p) z J'))) (zX n 0 zN)) 0 0 n J 0 [some (.ref 141), some (zi t), some (zi p), some (zi x)] []
  refine tz_aload_n (pc := 0) dX2_replaced_0 rfl rfl ?_
  refine tz_iload_n (pc := 1) dX2_replaced_1 rfl rfl ?_
  refine tz_iload_n (pc := 2) dX2_replaced_2 rfl rfl ?_
  refine tz_iload_n (pc := 3) dX2_replaced_3 rfl rfl ?_
  refine tz_iconst (pc := 4) dX2_replaced_4 ?_
  refine tz_cV (pc := 5) (x_put1 hl n _ _ _ _ (by omega) (by omega) (by omega) m C hm ht hp ho (by have := C.nums ht.1 ht.2; omega)) vl_X2_75 dX2_replaced_5 o_141 rfl rfl (Nat.le_of_ble_eq_true rfl) ⟨(Nat.le_of_ble_eq_true rfl), (Nat.le_of_ble_eq_true rfl)⟩ rfl rfl (Nat.le_of_ble_eq_true rfl) (Nat.le_of_ble_eq_true rfl) (fun r9 J_5 hq9 => ?_)
  obtain ⟨z_5, rfl, hz_5, m1, g1, h1, x1⟩ := hq9
  exact tz_iret (pc := 8) (z := z_5) dX2_replaced_8 rfl (Nat.le_of_ble_eq_true rfl) (Nat.le_of_ble_eq_true rfl) ⟨Nat.le_refl _, Nat.le_add_right _ _⟩ ⟨_, rfl, (by omega), ⟨m1, g1, h1, x1⟩⟩

theorem puO_5 {x : Int} : ∀ (k : Nat) (S : zJ) (t p q : Int), ¬ q = 0 → (puO x k S t p).1 165 q = S 165 q
  | 0, _, _, _, _, _ => rfl
  | k + 1, S, t, p, q, h => by
    rw [puO_s]
    split
    · rfl
    · show (tmO _ _ _ _ _).1 165 q = _
      rw [tmO_5 h]
      exact puO_5 k S _ _ q h
set_option maxHeartbeats 4000000 in
set_option maxRecDepth 100000 in
theorem v_put {l : Launch} {G : tb_G} (hl : l.stackTraces = false) (n : Nat) (J : zJ) (t : Int) (p : Int) (x : Int) (hr_t : -2147483648 ≤ t ∧ t < 2147483648) (hr_p : -2147483648 ≤ p ∧ p < 2147483648) (hr_x : -2147483648 ≤ x ∧ x < 2147483648) (m : Int) (S : zJ) (pn : Int) (RR : Int → Int → Int) (hI : CI J m) (h9 : J 145 10 < 1000000000) (cc : CAL J S pn RR) (h21 : S 164 21 = 0) : tz_Ok l G M_X11_put 10 0 0 [.ref 0, zi t, zi p, zi x] n J (zqi (fun z J' => CQ J' J ∧ ((((0 ≤ t ∧ t < J 6 12) ∧ (0 ≤ x ∧ x < J 6 12) ∧ 0 ≤ p ∧ p < msz S 0 0 t) ∧ ED S pn RR (puO x 6 S t p) J' z) ∨ (¬ ((0 ≤ t ∧ t < J 6 12) ∧ (0 ≤ x ∧ x < J 6 12) ∧ 0 ≤ p ∧ p < msz S 0 0 t) ∧ z = -1 ∧ CAL J' S pn RR)))) zN := by
  refine tz_Ok.of hl (by decide +kernel) rfl (tb_c1 rfl) (Nat.le_of_ble_eq_true rfl) ?_
  show tz_At l G M_X11_put (tb_rm 10 0 0) none (tb_ZM G 0 0 (zQ n 0 (zqi (fun z J' => CQ J' J ∧ ((((0 ≤ t ∧ t < J 6 12) ∧ (0 ≤ x ∧ x < J 6 12) ∧ 0 ≤ p ∧ p < msz S 0 0 t) ∧ ED S pn RR (puO x 6 S t p) J' z) ∨ (¬ ((0 ≤ t ∧ t < J 6 12) ∧ (0 ≤ x ∧ x < J 6 12) ∧ 0 ≤ p ∧ p < msz S 0 0 t) ∧ z = -1 ∧ CAL J' S pn RR))))) (zX n 0 zN)) 0 0 n J 0 [some (.ref 0), some (zi t), some (zi p), some (zi x), none] []
  have hC := hI.1.1.1
  have hm := hI.1.1.2.1
  have hL := hI.1.1.2.2
  have hb := hC.told
  have wb := cc.2.1.b hL
  have eS : (0 ≤ t ∧ t < J 6 12) → msz S 0 0 t = J 10 t := fun h => cc.1.sz hC hm ⟨h.1, by omega⟩
  refine tz_aload_n (pc := 0) dX11_put_0 rfl rfl ?_
  refine tz_fR (pc := 1) dX11_put_1 fl_X11_29 r_0_1 ?_
  refine tz_fR (pc := 4) dX11_put_4 fl_X11_49 r_5_0 ?_
  refine tz_astore (pc := 7) (L2 := [_, _, _, _, _]) dX11_put_7 (by decide) rfl ?_
  refine tz_aload (pc := 9) dX11_put_9 rfl ?_
  refine tz_iload_n (pc := 11) dX11_put_11 rfl rfl ?_
  refine tz_cV (pc := 12) (c_has hl n _ _ (by omega)) vl_X11_304 dX11_put_12 o_6 rfl rfl (Nat.le_of_ble_eq_true rfl) ⟨(Nat.le_of_ble_eq_true rfl), (Nat.le_of_ble_eq_true rfl)⟩ rfl rfl (Nat.le_of_ble_eq_true rfl) (Nat.le_of_ble_eq_true rfl) (fun r9 J_12 hq9 => ?_)
  obtain ⟨z_12, rfl, hz_12, rfl, rfl⟩ := hq9
  by_cases hw_15 : 0 ≤ t ∧ t < J 6 12
  · rw [show (if 0 ≤ t ∧ t < J 6 12 then 1 else 0 : Int) = 1 from if_pos hw_15]
    refine tz_if_eqF (pc := 15) (tgt := 37) (by decide) dX11_put_15 (by decide) (by decide) ?_
    refine tz_aload (pc := 18) dX11_put_18 rfl ?_
    refine tz_iload_n (pc := 20) dX11_put_20 rfl rfl ?_
    refine tz_cV (pc := 21) (c_has hl n _ _ (by omega)) vl_X11_304 dX11_put_21 o_6 rfl rfl (Nat.le_of_ble_eq_true rfl) ⟨(Nat.le_of_ble_eq_true rfl), (Nat.le_of_ble_eq_true rfl)⟩ rfl rfl (Nat.le_of_ble_eq_true rfl) (Nat.le_of_ble_eq_true rfl) (fun r9 J_21 hq9 => ?_)
    obtain ⟨z_21, rfl, hz_21, rfl, rfl⟩ := hq9
    by_cases hw_24 : 0 ≤ x ∧ x < J 6 12
    · rw [show (if 0 ≤ x ∧ x < J 6 12 then 1 else 0 : Int) = 1 from if_pos hw_24]
      refine tz_if_eqF (pc := 24) (tgt := 37) (by decide) dX11_put_24 (by decide) (by decide) ?_
      refine tz_aload (pc := 27) dX11_put_27 rfl ?_
      refine tz_iload_n (pc := 29) dX11_put_29 rfl rfl ?_
      refine tz_iload_n (pc := 30) dX11_put_30 rfl rfl ?_
      refine tz_cV (pc := 31) (c_hasPlace hl n _ _ _ (by omega) (by omega) (by omega)) vl_X11_256 dX11_put_31 o_6 rfl rfl (Nat.le_of_ble_eq_true rfl) ⟨(Nat.le_of_ble_eq_true rfl), (Nat.le_of_ble_eq_true rfl)⟩ rfl rfl (Nat.le_of_ble_eq_true rfl) (Nat.le_of_ble_eq_true rfl) (fun r9 J_31 hq9 => ?_)
      obtain ⟨z_31, rfl, hz_31, rfl, rfl⟩ := hq9
      by_cases hw_34 : 0 ≤ p ∧ p < J 10 t
      · rw [show (if 0 ≤ p ∧ p < J 10 t then 1 else 0 : Int) = 1 from if_pos hw_34]
        refine tz_if_neT (pc := 34) (tgt := 44) (by decide) dX11_put_34 (by decide) (by decide) ?_
        refine tz_aload_n (pc := 44) dX11_put_44 rfl rfl ?_
        refine tz_fR (pc := 45) dX11_put_45 fl_X11_29 r_0_1 ?_
        refine tz_cV (pc := 48) (c_begin hl n _) vl_X11_287 dX11_put_48 o_5 rfl rfl (Nat.le_of_ble_eq_true rfl) ⟨(Nat.le_of_ble_eq_true rfl), (Nat.le_of_ble_eq_true rfl)⟩ rfl rfl (Nat.le_of_ble_eq_true rfl) (Nat.le_of_ble_eq_true rfl) (fun r9 Jb hq9 => ?_)
        obtain ⟨rfl, hj⟩ := hq9
        have hb9 : zOf (zbut [19, 61]) Jb J := by rw [← hj]; exact zOf.cp rfl (zOf.up rfl zOf.rf)
        have hb19 : ∀ k, ¬ k = 0 → Jb 19 k = J 19 k := fun k hk => by rw [← hj, zcp_nc (by decide), zup_ne hk]
        have a0 : AC Jb m m := by rw [← hj]; exact hI.begin
        have hb6 := a0.1.1.2.1
        obtain ⟨cb, kb, lb⟩ := cc.begin hI hj
        refine tz_aload_n (pc := 51) dX11_put_51 rfl rfl ?_
        refine tz_aload_n (pc := 52) dX11_put_52 rfl rfl ?_
        refine tz_fR (pc := 53) dX11_put_53 fl_X11_62 r_0_7 ?_
        refine tz_iload_n (pc := 56) dX11_put_56 rfl rfl ?_
        refine tz_iload_n (pc := 57) dX11_put_57 rfl rfl ?_
        refine tz_iload_n (pc := 58) dX11_put_58 rfl rfl ?_
        refine tz_cV (pc := 59) (x_replaced hl n _ _ _ _ (by omega) (by omega) (by omega) m a0.1.1.1 a0.1.1.2.1 (by omega) (by rw [hb9 10 rfl]; omega) (by omega)) vl_X11_350 dX11_put_59 o_141 rfl rfl (Nat.le_of_ble_eq_true rfl) ⟨(Nat.le_of_ble_eq_true rfl), (Nat.le_of_ble_eq_true rfl)⟩ rfl rfl (Nat.le_of_ble_eq_true rfl) (Nat.le_of_ble_eq_true rfl) (fun r9 J_59 hq9 => ?_)
        obtain ⟨z_59, rfl, hz_59, m1, g1, h1, x1⟩ := hq9
        have a1 := a0.gx0 (g1.x (X := [])) rfl
        have o1 := (x1 S h21 cb.1).q cb.2.1 a0.1.1.2.2 (g1.2.2.2.2 19 rfl) (fun k h => puO_5 6 S t p k h)
        refine tz_cV (pc := 62) (x_settled hl n _ _ (by omega) m m1 a1) vl_X11_293 dX11_put_62 o_0 rfl rfl (Nat.le_of_ble_eq_true rfl) ⟨(Nat.le_of_ble_eq_true rfl), (Nat.le_of_ble_eq_true rfl)⟩ rfl rfl (Nat.le_of_ble_eq_true rfl) (Nat.le_of_ble_eq_true rfl) (fun r9 J_62 hq9 => ?_)
        obtain ⟨z_62, rfl, hz_62, s9, s8⟩ := hq9
        exact tz_iret (pc := 65) (z := z_62) dX11_put_65 rfl (Nat.le_of_ble_eq_true rfl) (Nat.le_of_ble_eq_true rfl) ⟨Nat.le_refl _, Nat.le_add_right _ _⟩ ⟨_, rfl, (by omega), ⟨(s9.cq (by rw [g1.2.2.2.2 145 rfl, hb9 145 rfl]; omega) ((g1.2.2.2.2 0 rfl).trans (hb9 0 rfl)) ((g1.2.2.2.2.mono (fun c hc => by have := of_decide_eq_true hc; simp [zbut]; omega)).tr (hb9.mono (fun c hc => by have := of_decide_eq_true hc; simp [zbut]; omega)))), Or.inl ⟨by have e9 := eS (by omega); omega, act_end cc hI hj (g1.x (X := [])) rfl o1 s8⟩⟩⟩
      · rw [show (if 0 ≤ p ∧ p < J 10 t then 1 else 0 : Int) = 0 from if_neg hw_34]
        refine tz_if_neF (pc := 34) (tgt := 44) (by decide) dX11_put_34 (by decide) (by decide) ?_
        refine tz_aload_n (pc := 37) dX11_put_37 rfl rfl ?_
        refine tz_iconst (pc := 38) dX11_put_38 ?_
        refine tz_iconst (pc := 39) dX11_put_39 ?_
        refine tz_cV (pc := 40) (c_refused hl n _ _ _ (by decide) (by omega) (by decide)) vl_X11_284 dX11_put_40 o_0 rfl rfl (Nat.le_of_ble_eq_true rfl) ⟨(Nat.le_of_ble_eq_true rfl), (Nat.le_of_ble_eq_true rfl)⟩ rfl rfl (Nat.le_of_ble_eq_true rfl) (Nat.le_of_ble_eq_true rfl) (fun r9 J_40 hq9 => ?_)
        obtain ⟨z_40, rfl, hz_40, f9, rfl⟩ := hq9
        exact tz_iret (pc := 43) (z := (-1)) dX11_put_43 rfl (Nat.le_of_ble_eq_true rfl) (Nat.le_of_ble_eq_true rfl) ⟨Nat.le_refl _, Nat.le_add_right _ _⟩ ⟨_, rfl, (by decide), ⟨(SQ.cq ⟨⟨m, hI.st f9⟩, f9 145 rfl, f9 0 rfl, (f9.mono (fun c hc => by have := of_decide_eq_true hc; simp [zbut]; omega))⟩ (by omega) rfl zOf.rf), Or.inr ⟨fun h9 => by have e9 := eS h9.1; omega, rfl, cc.st hI f9⟩⟩⟩
    · rw [show (if 0 ≤ x ∧ x < J 6 12 then 1 else 0 : Int) = 0 from if_neg hw_24]
      refine tz_if_eqT (pc := 24) (tgt := 37) (by decide) dX11_put_24 (by decide) (by decide) ?_
      refine tz_aload_n (pc := 37) dX11_put_37 rfl rfl ?_
      refine tz_iconst (pc := 38) dX11_put_38 ?_
      refine tz_iconst (pc := 39) dX11_put_39 ?_
      refine tz_cV (pc := 40) (c_refused hl n _ _ _ (by decide) (by omega) (by decide)) vl_X11_284 dX11_put_40 o_0 rfl rfl (Nat.le_of_ble_eq_true rfl) ⟨(Nat.le_of_ble_eq_true rfl), (Nat.le_of_ble_eq_true rfl)⟩ rfl rfl (Nat.le_of_ble_eq_true rfl) (Nat.le_of_ble_eq_true rfl) (fun r9 J_40 hq9 => ?_)
      obtain ⟨z_40, rfl, hz_40, f9, rfl⟩ := hq9
      exact tz_iret (pc := 43) (z := (-1)) dX11_put_43 rfl (Nat.le_of_ble_eq_true rfl) (Nat.le_of_ble_eq_true rfl) ⟨Nat.le_refl _, Nat.le_add_right _ _⟩ ⟨_, rfl, (by decide), ⟨(SQ.cq ⟨⟨m, hI.st f9⟩, f9 145 rfl, f9 0 rfl, (f9.mono (fun c hc => by have := of_decide_eq_true hc; simp [zbut]; omega))⟩ (by omega) rfl zOf.rf), Or.inr ⟨fun h9 => by have e9 := eS h9.1; omega, rfl, cc.st hI f9⟩⟩⟩
  · rw [show (if 0 ≤ t ∧ t < J 6 12 then 1 else 0 : Int) = 0 from if_neg hw_15]
    refine tz_if_eqT (pc := 15) (tgt := 37) (by decide) dX11_put_15 (by decide) (by decide) ?_
    refine tz_aload_n (pc := 37) dX11_put_37 rfl rfl ?_
    refine tz_iconst (pc := 38) dX11_put_38 ?_
    refine tz_iconst (pc := 39) dX11_put_39 ?_
    refine tz_cV (pc := 40) (c_refused hl n _ _ _ (by decide) (by omega) (by decide)) vl_X11_284 dX11_put_40 o_0 rfl rfl (Nat.le_of_ble_eq_true rfl) ⟨(Nat.le_of_ble_eq_true rfl), (Nat.le_of_ble_eq_true rfl)⟩ rfl rfl (Nat.le_of_ble_eq_true rfl) (Nat.le_of_ble_eq_true rfl) (fun r9 J_40 hq9 => ?_)
    obtain ⟨z_40, rfl, hz_40, f9, rfl⟩ := hq9
    exact tz_iret (pc := 43) (z := (-1)) dX11_put_43 rfl (Nat.le_of_ble_eq_true rfl) (Nat.le_of_ble_eq_true rfl) ⟨Nat.le_refl _, Nat.le_add_right _ _⟩ ⟨_, rfl, (by decide), ⟨(SQ.cq ⟨⟨m, hI.st f9⟩, f9 145 rfl, f9 0 rfl, (f9.mono (fun c hc => by have := of_decide_eq_true hc; simp [zbut]; omega))⟩ (by omega) rfl zOf.rf), Or.inr ⟨fun h9 => by have e9 := eS h9.1; omega, rfl, cc.st hI f9⟩⟩⟩

