def RT (J' J : zJ) (m m' : Int) : Prop := GX [163] J' J m m' ∧ RD2 J' ∧ (J' 163 8 = 0 → J 163 8 = 0)
theorem RT.rf {J : zJ} {m : Int} (C : CT J m) (hm : J 6 12 = m) (hD : RD2 J) : RT J J m m := ⟨GX.rf C hm, hD, id⟩
theorem RT.tr {J3 J2 J1 : zJ} {m1 m2 m3 : Int} (g : RT J2 J1 m1 m2) (h : RT J3 J2 m2 m3) : RT J3 J1 m1 m3 := ⟨g.1.tr h.1, h.2.1, fun q => g.2.2 (h.2.2 q)⟩
theorem RT.rn {J2 J1 J : zJ} {m m1 : Int} (g : RT J1 J m m1) (h : RN J2 J1) (hD : RD2 J2) : RT J2 J m m1 := ⟨g.1.off rfl h.1, hD, fun q => g.2.2 (h.2.2 q)⟩
theorem RD2.of {J' J : zJ} (h : RD2 J) (e : J' 163 = J 163) : RD2 J' := by
  unfold RD2 RD
  rw [e]
  exact h
theorem RT.made {J2 J1 J : zJ} {m m1 m2 : Int} (g : RT J1 J m m1) (h : GR J2 J1 m1 m2) : RT J2 J m m2 := ⟨g.1.tr h.x, g.2.1.of (h.2.2.2.2 163 rfl), fun q => g.2.2 (by rw [← h.2.2.2.2 163 rfl]; exact q)⟩
set_option maxHeartbeats 4000000 in
set_option maxRecDepth 100000 in
theorem c_held {l : Launch} {G : tb_G} (hl : l.stackTraces = false) (n : Nat) (J : zJ) (x : Int) (hr_x : -2147483648 ≤ x ∧ x < 2147483648)   : tz_Ok l G M_X5_held 1 0 0 [.ref 163, zi x] n J (zqi (fun z J' => RN J' J ∧ (RD2 J → RD2 J') ∧ (J' 163 8 = 0 → z = x ∧ 0 ≤ x))) zN := by
  refine tz_Ok.of hl (by decide +kernel) rfl (tb_c1 rfl) (Nat.le_of_ble_eq_true rfl) ?_
  show tz_At l G M_X5_held (tb_rm 1 0 0) none (tb_ZM G 0 0 (zQ n 0 (zqi (fun z J' => RN J' J ∧ (RD2 J → RD2 J') ∧ (J' 163 8 = 0 → z = x ∧ 0 ≤ x)))) (zX n 0 zN)) 0 0 n J 0 [some (.ref 163), some (zi x)] []
  refine tz_iload_n (pc := 0) dX5_held_0 rfl rfl ?_
  refine tz_if_ge (pc := 1) (tgt := 12) dX5_held_1 (by decide) (by omega) (fun h_1 => ?_) (fun h_1 => ?_)
  · refine tz_iload_n (pc := 12) dX5_held_12 rfl rfl ?_
    exact tz_iret (pc := 13) (z := x) dX5_held_13 rfl (Nat.le_of_ble_eq_true rfl) (Nat.le_of_ble_eq_true rfl) ⟨Nat.le_refl _, Nat.le_add_right _ _⟩ ⟨_, rfl, (by omega), (by first | exact ⟨g9, d9, fun q => absurd q v9⟩ | exact ⟨RN.rf, id, fun q => ⟨rfl, by omega⟩⟩)⟩
  · refine tz_aload_n (pc := 4) dX5_held_4 rfl rfl ?_
    refine tz_iconst (pc := 5) dX5_held_5 ?_
    refine tz_cV (pc := 6) (c_fail hl n _ _ (by decide) (by decide)) vl_X5_97 dX5_held_6 o_163 rfl rfl (Nat.le_of_ble_eq_true rfl) ⟨(Nat.le_of_ble_eq_true rfl), (Nat.le_of_ble_eq_true rfl)⟩ rfl rfl (Nat.le_of_ble_eq_true rfl) (Nat.le_of_ble_eq_true rfl) (fun r9 J_6 hq9 => ?_)
    obtain ⟨z_6, rfl, hz_6, g9, d9, e9, v9⟩ := hq9
    refine tz_goto (pc := 9) (tgt := 13) dX5_held_9 (by decide) ?_
    exact tz_iret (pc := 13) (z := z_6) dX5_held_13 rfl (Nat.le_of_ble_eq_true rfl) (Nat.le_of_ble_eq_true rfl) ⟨Nat.le_refl _, Nat.le_add_right _ _⟩ ⟨_, rfl, (by omega), (by first | exact ⟨g9, d9, fun q => absurd q v9⟩ | exact ⟨RN.rf, id, fun q => ⟨rfl, by omega⟩⟩)⟩

set_option maxHeartbeats 4000000 in
set_option maxRecDepth 100000 in
theorem c_readVar {l : Launch} {G : tb_G} (hl : l.stackTraces = false) (n : Nat) (J : zJ)   (m : Int) (C : CT J m) (hm : J 6 12 = m) (hD : RD2 J) : tz_Ok l G M_X5_readVariable 4 0 0 [.ref 163] n J (zqi (fun z J' => ∃ m', RT J' J m m' ∧ (J' 163 8 = 0 → 0 ≤ z ∧ z < m'))) zN := by
  refine tz_Ok.of hl (by decide +kernel) rfl (tb_c1 rfl) (Nat.le_of_ble_eq_true rfl) ?_
  show tz_At l G M_X5_readVariable (tb_rm 4 0 0) none (tb_ZM G 0 0 (zQ n 0 (zqi (fun z J' => ∃ m', RT J' J m m' ∧ (J' 163 8 = 0 → 0 ≤ z ∧ z < m')))) (zX n 0 zN)) 0 0 n J 0 [some (.ref 163), none] []
  have g0 : RT J J m m := RT.rf C hm hD
  have hb := C.told
  refine tz_aload_n (pc := 0) dX5_readVariable_0 rfl rfl ?_
  have b_1 := (g0).2.1
  obtain ⟨⟨⟨b1_1, b2_1⟩, b3_1, b4_1⟩, b5_1⟩ := id b_1
  refine tz_cV (pc := 1) (c_next hl n _ (by omega) (by omega)) vl_X5_65 dX5_readVariable_1 o_163 rfl rfl (Nat.le_of_ble_eq_true rfl) ⟨(Nat.le_of_ble_eq_true rfl), (Nat.le_of_ble_eq_true rfl)⟩ rfl rfl (Nat.le_of_ble_eq_true rfl) (Nat.le_of_ble_eq_true rfl) (fun r9 J_1 hq9 => ?_)
  obtain ⟨rfl, g_1, d_1, v_1⟩ := hq9
  have q_1 := RT.rn g0 g_1 d_1
  have f_1 := g_1.2.2
  refine tz_aload_n (pc := 4) dX5_readVariable_4 rfl rfl ?_
  refine tz_iconst (pc := 5) dX5_readVariable_5 ?_
  refine tz_bipush (pc := 6) dX5_readVariable_6 (by decide) ?_
  have b_8 := (q_1).2.1
  obtain ⟨⟨⟨b1_8, b2_8⟩, b3_8, b4_8⟩, b5_8⟩ := id b_8
  refine tz_cV (pc := 8) (c_readNum hl n _ _ _ (by decide) (by decide) b_8 (Or.inl rfl) (by decide)) vl_X5_128 dX5_readVariable_8 o_163 rfl rfl (Nat.le_of_ble_eq_true rfl) ⟨(Nat.le_of_ble_eq_true rfl), (Nat.le_of_ble_eq_true rfl)⟩ rfl rfl (Nat.le_of_ble_eq_true rfl) (Nat.le_of_ble_eq_true rfl) (fun r9 J_8 hq9 => ?_)
  obtain ⟨z_8, rfl, hz_8, g_8, d_8, u_8⟩ := hq9
  have q_8 := RT.rn q_1 g_8 d_8
  have f_8 := g_8.2.2
  refine tz_istore_n (pc := 11) (L2 := [_, _]) dX5_readVariable_11 rfl (by decide) rfl ?_
  refine tz_aload_n (pc := 12) dX5_readVariable_12 rfl rfl ?_
  refine tz_fI (pc := 13) (kz := 8) (v := (J_8 163 8)) dX5_readVariable_13 fl_X5_24 i_163_8 rfl rfl (fun r_13 => ?_)
  refine tz_if_ne (pc := 16) (tgt := 37) dX5_readVariable_16 (by decide) (by omega) (fun h_16 => ?_) (fun h_16 => ?_)
  · refine tz_iconst (pc := 37) dX5_readVariable_37 ?_
    exact tz_iret (pc := 38) (z := (-1)) dX5_readVariable_38 rfl (Nat.le_of_ble_eq_true rfl) (Nat.le_of_ble_eq_true rfl) ⟨Nat.le_refl _, Nat.le_add_right _ _⟩ ⟨_, rfl, (by decide), ⟨m, q_8, fun q => by first | exact absurd q v_8 | omega⟩⟩
  · refine tz_aload_n (pc := 19) dX5_readVariable_19 rfl rfl ?_
    refine tz_aload_n (pc := 20) dX5_readVariable_20 rfl rfl ?_
    refine tz_fR (pc := 21) dX5_readVariable_21 fl_X5_38 r_163_1 ?_
    refine tz_fR (pc := 24) dX5_readVariable_24 fl_X5_42 r_5_0 ?_
    refine tz_iload_n (pc := 27) dX5_readVariable_27 rfl rfl ?_
    have t_28 := (q_8).1.2.1.told
    refine tz_cV (pc := 28) (c_varTerm hl n _ _ (by omega) m (q_8).1.2.1 (q_8).1.2.2.1 (by omega)) vl_X5_177 dX5_readVariable_28 o_6 rfl rfl (Nat.le_of_ble_eq_true rfl) ⟨(Nat.le_of_ble_eq_true rfl), (Nat.le_of_ble_eq_true rfl)⟩ rfl rfl (Nat.le_of_ble_eq_true rfl) (Nat.le_of_ble_eq_true rfl) (fun r9 J_28 hq9 => ?_)
    obtain ⟨z_28, rfl, hz_28, p_28⟩ := hq9
    obtain ⟨m_28, y_28, h_28⟩ := GR.made p_28 (by omega)
    have q_28 := RT.made q_8 y_28
    refine tz_cV (pc := 31) (c_held hl n _ _ (by omega)) vl_X5_180 dX5_readVariable_31 o_163 rfl rfl (Nat.le_of_ble_eq_true rfl) ⟨(Nat.le_of_ble_eq_true rfl), (Nat.le_of_ble_eq_true rfl)⟩ rfl rfl (Nat.le_of_ble_eq_true rfl) (Nat.le_of_ble_eq_true rfl) (fun r9 J_31 hq9 => ?_)
    obtain ⟨z_31, rfl, hz_31, g_31, d_31, u_31⟩ := hq9
    have q_31 := RT.rn q_28 g_31 (d_31 (q_28).2.1)
    refine tz_goto (pc := 34) (tgt := 38) dX5_readVariable_34 (by decide) ?_
    exact tz_iret (pc := 38) (z := z_31) dX5_readVariable_38 rfl (Nat.le_of_ble_eq_true rfl) (Nat.le_of_ble_eq_true rfl) ⟨Nat.le_refl _, Nat.le_add_right _ _⟩ ⟨_, rfl, (by omega), ⟨m_28, q_31, fun q => by first | exact absurd q v_31 | omega⟩⟩

set_option maxHeartbeats 4000000 in
set_option maxRecDepth 100000 in
theorem c_readArg {l : Launch} {G : tb_G} (hl : l.stackTraces = false) (n : Nat) (J : zJ) (k : Int) (dp : Int) (hr_k : -2147483648 ≤ k ∧ k < 2147483648) (hr_dp : -2147483648 ≤ dp ∧ dp < 2147483648) (d9 : Nat) (hd9 : 9 ≤ d9) (H : ∀ (J : zJ) (m : Int) (C : CT J m) (hm : J 6 12 = m) (hD : RD2 J), tz_Ok l G M_X5_readTerm d9 0 0 [.ref 163, zi (dp + 1)] n J (zqi (fun z J' => ∃ m', RT J' J m m' ∧ (J' 163 8 = 0 → 0 ≤ z ∧ z < m'))) zN) (m : Int) (C : CT J m) (hm : J 6 12 = m) (hD : RD2 J) : tz_Ok l G M_X5_readArgument (d9 + 1) 0 0 [.ref 163, zi k, zi dp] n J (zqi (fun z J' => ∃ m', RT J' J m m' ∧ (J' 163 8 = 0 → 0 ≤ z ∧ z < m'))) zN := by
  refine tz_Ok.of hl (by decide +kernel) rfl (tb_c1 rfl) (Nat.le_of_ble_eq_true rfl) ?_
  show tz_At l G M_X5_readArgument (tb_rm (d9 + 1) 0 0) none (tb_ZM G 0 0 (zQ n 0 (zqi (fun z J' => ∃ m', RT J' J m m' ∧ (J' 163 8 = 0 → 0 ≤ z ∧ z < m')))) (zX n 0 zN)) 0 0 n J 0 [some (.ref 163), some (zi k), some (zi dp)] []
  have g0 : RT J J m m := RT.rf C hm hD
  refine tz_aload_n (pc := 0) dX5_readArgument_0 rfl rfl ?_
  refine tz_iload_n (pc := 1) dX5_readArgument_1 rfl rfl ?_
  have b_2 := (g0).2.1
  obtain ⟨⟨⟨b1_2, b2_2⟩, b3_2, b4_2⟩, b5_2⟩ := id b_2
  refine tz_cV (pc := 2) (c_pass hl n _ _ (by omega) b_2) vl_X5_116 dX5_readArgument_2 o_163 rfl rfl (Nat.le_of_ble_eq_true rfl) ⟨(show 2 + 1 ≤ d9 + 1 by omega), (show 8 + (2 + 11) + 40 * (2) ≤ 40 * (d9 + 1) by omega)⟩ rfl rfl (Nat.le_of_ble_eq_true rfl) (Nat.le_of_ble_eq_true rfl) (fun r9 J_2 hq9 => ?_)
  obtain ⟨rfl, g_2, d_2⟩ := hq9
  have q_2 := RT.rn g0 g_2 d_2
  have f_2 := g_2.2.2
  refine tz_aload_n (pc := 5) dX5_readArgument_5 rfl rfl ?_
  refine tz_iload_n (pc := 6) dX5_readArgument_6 rfl rfl ?_
  refine tz_iconst (pc := 7) dX5_readArgument_7 ?_
  refine tz_iadd (pc := 8) (v := dp + 1) dX5_readArgument_8 rfl ?_
  refine tz_cV (pc := 9) (H _ m (q_2).1.2.1 (q_2).1.2.2.1 (q_2).2.1) vl_X5_113 dX5_readArgument_9 o_163 rfl rfl (Nat.le_of_ble_eq_true rfl) ⟨(show d9 + 1 ≤ d9 + 1 by omega), (show 8 + (2 + 11) + 40 * (d9) ≤ 40 * (d9 + 1) by omega)⟩ rfl rfl (Nat.le_of_ble_eq_true rfl) (Nat.le_of_ble_eq_true rfl) (fun r9 J_9 hq9 => ?_)
  obtain ⟨z_9, rfl, hz_9, m_9, g_9, u_9⟩ := hq9
  have q_9 := RT.tr q_2 g_9
  have f_9 := g_9.2.2
  exact tz_iret (pc := 12) (z := z_9) dX5_readArgument_12 rfl (Nat.le_of_ble_eq_true rfl) (Nat.le_of_ble_eq_true rfl) ⟨Nat.le_refl _, Nat.le_add_right _ _⟩ ⟨_, rfl, (by omega), ⟨m_9, q_9, u_9⟩⟩

set_option maxHeartbeats 4000000 in
set_option maxRecDepth 100000 in
theorem c_readComp {l : Launch} {G : tb_G} (hl : l.stackTraces = false) (n : Nat) (J : zJ) (dp : Int) (hr_dp : -2147483648 ≤ dp ∧ dp < 2147483648) (d9 : Nat) (hd9 : 9 ≤ d9) (H : ∀ (J : zJ) (m : Int) (C : CT J m) (hm : J 6 12 = m) (hD : RD2 J), tz_Ok l G M_X5_readTerm d9 0 0 [.ref 163, zi (dp + 1)] n J (zqi (fun z J' => ∃ m', RT J' J m m' ∧ (J' 163 8 = 0 → 0 ≤ z ∧ z < m'))) zN) (m : Int) (C : CT J m) (hm : J 6 12 = m) (hD : RD2 J) (hk : J 163 6 < J 163 4) : tz_Ok l G M_X5_readCompound (d9 + 2) 0 0 [.ref 163, zi dp] n J (zqi (fun z J' => ∃ m', RT J' J m m' ∧ (J' 163 8 = 0 → 0 ≤ z ∧ z < m'))) zN := by
  refine tz_Ok.of hl (by decide +kernel) rfl (tb_c1 rfl) (Nat.le_of_ble_eq_true rfl) ?_
  show tz_At l G M_X5_readCompound (tb_rm (d9 + 2) 0 0) none (tb_ZM G 0 0 (zQ n 0 (zqi (fun z J' => ∃ m', RT J' J m m' ∧ (J' 163 8 = 0 → 0 ≤ z ∧ z < m')))) (zX n 0 zN)) 0 0 n J 0 [some (.ref 163), some (zi dp), none, none, none, none, none] []
  have g0 : RT J J m m := RT.rf C hm hD
  have hb := C.told
  obtain ⟨⟨⟨hD1, hD2⟩, hD3, hD4⟩, hD5⟩ := id hD
  refine tz_aload_n (pc := 0) dX5_readCompound_0 rfl rfl ?_
  refine tz_fI (pc := 1) (kz := 7) (v := (J 163 7)) dX5_readCompound_1 fl_X5_21 i_163_7 rfl rfl (fun r_1 => ?_)
  refine tz_aload_n (pc := 4) dX5_readCompound_4 rfl rfl ?_
  refine tz_fI (pc := 5) (kz := 6) (v := (J 163 6)) dX5_readCompound_5 fl_X5_18 i_163_6 rfl rfl (fun r_5 => ?_)
  refine tz_isub (pc := 8) (v := (J 163 7) - (J 163 6)) dX5_readCompound_8 rfl ?_
  refine tz_iconst (pc := 9) dX5_readCompound_9 ?_
  refine tz_icmp_le (pc := 10) (tgt := 19) dX5_readCompound_10 (by decide) (by omega) (by decide) (fun h_10 => ?_) (fun h_10 => ?_)
  · refine tz_aload_n (pc := 19) dX5_readCompound_19 rfl rfl ?_
    refine tz_fR (pc := 20) dX5_readCompound_20 fl_X5_54 r_163_2 ?_
    refine tz_aload_n (pc := 23) dX5_readCompound_23 rfl rfl ?_
    refine tz_fR (pc := 24) dX5_readCompound_24 fl_X5_34 r_163_0 ?_
    refine tz_aload_n (pc := 27) dX5_readCompound_27 rfl rfl ?_
    refine tz_fI (pc := 28) (kz := 6) (v := (J 163 6)) dX5_readCompound_28 fl_X5_18 i_163_6 rfl rfl (fun r_28 => ?_)
    refine tz_aL (pc := 31) (z := (J 163 6)) (v := (J 162 (J 163 6))) dX5_readCompound_31 a_162 rfl (by omega) rfl (fun r_31 => ?_)
    refine tz_cV (pc := 32) (c_named hl n _ _ (by omega) hb.1) vl_X5_135 dX5_readCompound_32 o_1 rfl rfl (Nat.le_of_ble_eq_true rfl) ⟨(show 0 + 1 ≤ d9 + 2 by omega), (show 8 + (3 + 11) + 40 * (0) ≤ 40 * (d9 + 2) by omega)⟩ rfl rfl (Nat.le_of_ble_eq_true rfl) (Nat.le_of_ble_eq_true rfl) (fun r9 J_32 hq9 => ?_)
    obtain ⟨z_32, rfl, hz_32, rfl, hnm⟩ := hq9
    refine tz_istore_n (pc := 35) (L2 := [_, _, _, _, _, _, _]) dX5_readCompound_35 rfl (by decide) rfl ?_
    have ns : -1 ≤ z_32 ∧ z_32 < J 1 3 := by omega
    refine tz_iload_n (pc := 36) dX5_readCompound_36 rfl rfl ?_
    refine tz_iconst (pc := 37) dX5_readCompound_37 ?_
    refine tz_icmp_ne (pc := 38) (tgt := 47) dX5_readCompound_38 (by decide) (by omega) (by decide) (fun h_38 => ?_) (fun h_38 => ?_)
    · refine tz_aload_n (pc := 47) dX5_readCompound_47 rfl rfl ?_
      have b_48 := (g0).2.1
      obtain ⟨⟨⟨b1_48, b2_48⟩, b3_48, b4_48⟩, b5_48⟩ := id b_48
      refine tz_cV (pc := 48) (c_next hl n _ (by omega) (by omega)) vl_X5_65 dX5_readCompound_48 o_163 rfl rfl (Nat.le_of_ble_eq_true rfl) ⟨(show 1 + 1 ≤ d9 + 2 by omega), (show 8 + (1 + 11) + 40 * (1) ≤ 40 * (d9 + 2) by omega)⟩ rfl rfl (Nat.le_of_ble_eq_true rfl) (Nat.le_of_ble_eq_true rfl) (fun r9 J_48 hq9 => ?_)
      obtain ⟨rfl, g_48, d_48, v_48⟩ := hq9
      have q_48 := RT.rn g0 g_48 d_48
      have f_48 := g_48.2.2
      refine tz_aload_n (pc := 51) dX5_readCompound_51 rfl rfl ?_
      refine tz_fR (pc := 52) dX5_readCompound_52 fl_X5_54 r_163_2 ?_
      refine tz_fR (pc := 55) dX5_readCompound_55 fl_X5_183 r_1_1 ?_
      refine tz_iload_n (pc := 58) dX5_readCompound_58 rfl rfl ?_
      have hA := C.1.1.1.2 z_32 (by omega) (by omega)
      refine tz_aL (pc := 59) (z := z_32) (v := (J 3 z_32)) dX5_readCompound_59 a_3 rfl (by omega) (Eq.trans (congrFun (g_48.1 3 rfl) z_32) rfl) (fun r_59 => ?_)
      refine tz_istore_n (pc := 60) (L2 := [_, _, _, _, _, _, _]) dX5_readCompound_60 rfl (by decide) rfl ?_
      refine tz_iload_n (pc := 61) dX5_readCompound_61 rfl rfl ?_
      refine tz_iconst (pc := 62) dX5_readCompound_62 ?_
      refine tz_icmp_ge (pc := 63) (tgt := 70) dX5_readCompound_63 (by decide) (by omega) (by decide) (fun h_63 => ?_) (fun h_63 => ?_)
      · refine tz_aload_n (pc := 70) dX5_readCompound_70 rfl rfl ?_
        refine tz_bipush (pc := 71) dX5_readCompound_71 (by decide) ?_
        refine tz_iload_n (pc := 73) dX5_readCompound_73 rfl rfl ?_
        refine tz_cV (pc := 74) (c_readArg hl n _ _ _ (by decide) (by omega) d9 hd9 H m (q_48).1.2.1 (q_48).1.2.2.1 (q_48).2.1) vl_X5_186 dX5_readCompound_74 o_163 rfl rfl (Nat.le_of_ble_eq_true rfl) ⟨(show (d9 + 1) + 1 ≤ d9 + 2 by omega), (show 8 + (3 + 11) + 40 * ((d9 + 1)) ≤ 40 * (d9 + 2) by omega)⟩ rfl rfl (Nat.le_of_ble_eq_true rfl) (Nat.le_of_ble_eq_true rfl) (fun r9 J_74 hq9 => ?_)
        obtain ⟨z_74, rfl, hz_74, m_74, g_74, u_74⟩ := hq9
        have q_74 := RT.tr q_48 g_74
        have f_74 := g_74.2.2
        have l_74 := g_74.1.1
        refine tz_istore (pc := 77) (L2 := [_, _, _, _, _, _, _]) dX5_readCompound_77 (by decide) rfl ?_
        refine tz_iload_n (pc := 79) dX5_readCompound_79 rfl rfl ?_
        refine tz_iconst (pc := 80) dX5_readCompound_80 ?_
        refine tz_icmp_ge (pc := 81) (tgt := 88) dX5_readCompound_81 (by decide) (by omega) (by decide) (fun h_81 => ?_) (fun h_81 => ?_)
        · refine tz_aload_n (pc := 88) dX5_readCompound_88 rfl rfl ?_
          refine tz_bipush (pc := 89) dX5_readCompound_89 (by decide) ?_
          refine tz_iload_n (pc := 91) dX5_readCompound_91 rfl rfl ?_
          refine tz_cV (pc := 92) (c_readArg hl n _ _ _ (by decide) (by omega) d9 hd9 H m_74 (q_74).1.2.1 (q_74).1.2.2.1 (q_74).2.1) vl_X5_186 dX5_readCompound_92 o_163 rfl rfl (Nat.le_of_ble_eq_true rfl) ⟨(show (d9 + 1) + 1 ≤ d9 + 2 by omega), (show 8 + (3 + 11) + 40 * ((d9 + 1)) ≤ 40 * (d9 + 2) by omega)⟩ rfl rfl (Nat.le_of_ble_eq_true rfl) (Nat.le_of_ble_eq_true rfl) (fun r9 J_92 hq9 => ?_)
          obtain ⟨z_92, rfl, hz_92, m_92, g_92, u_92⟩ := hq9
          have q_92 := RT.tr q_74 g_92
          have f_92 := g_92.2.2
          have l_92 := g_92.1.1
          refine tz_istore (pc := 95) (L2 := [_, _, _, _, _, _, _]) dX5_readCompound_95 (by decide) rfl ?_
          refine tz_iload_n (pc := 97) dX5_readCompound_97 rfl rfl ?_
          refine tz_iconst (pc := 98) dX5_readCompound_98 ?_
          refine tz_icmp_ge (pc := 99) (tgt := 106) dX5_readCompound_99 (by decide) (by omega) (by decide) (fun h_99 => ?_) (fun h_99 => ?_)
          · refine tz_aload_n (pc := 106) dX5_readCompound_106 rfl rfl ?_
            refine tz_bipush (pc := 107) dX5_readCompound_107 (by decide) ?_
            refine tz_iload_n (pc := 109) dX5_readCompound_109 rfl rfl ?_
            refine tz_cV (pc := 110) (c_readArg hl n _ _ _ (by decide) (by omega) d9 hd9 H m_92 (q_92).1.2.1 (q_92).1.2.2.1 (q_92).2.1) vl_X5_186 dX5_readCompound_110 o_163 rfl rfl (Nat.le_of_ble_eq_true rfl) ⟨(show (d9 + 1) + 1 ≤ d9 + 2 by omega), (show 8 + (3 + 11) + 40 * ((d9 + 1)) ≤ 40 * (d9 + 2) by omega)⟩ rfl rfl (Nat.le_of_ble_eq_true rfl) (Nat.le_of_ble_eq_true rfl) (fun r9 J_110 hq9 => ?_)
            obtain ⟨z_110, rfl, hz_110, m_110, g_110, u_110⟩ := hq9
            have q_110 := RT.tr q_92 g_110
            have f_110 := g_110.2.2
            have l_110 := g_110.1.1
            refine tz_istore (pc := 113) (L2 := [_, _, _, _, _, _, _]) dX5_readCompound_113 (by decide) rfl ?_
            refine tz_iload_n (pc := 115) dX5_readCompound_115 rfl rfl ?_
            refine tz_if_le (pc := 116) (tgt := 125) dX5_readCompound_116 (by decide) (by omega) (fun h_116 => ?_) (fun h_116 => ?_)
            · refine tz_aload_n (pc := 125) dX5_readCompound_125 rfl rfl ?_
              refine tz_fI (pc := 126) (kz := 8) (v := (J_110 163 8)) dX5_readCompound_126 fl_X5_24 i_163_8 rfl rfl (fun r_126 => ?_)
              refine tz_if_ne (pc := 129) (tgt := 156) dX5_readCompound_129 (by decide) (by omega) (fun h_129 => ?_) (fun h_129 => ?_)
              · refine tz_iconst (pc := 156) dX5_readCompound_156 ?_
                exact tz_iret (pc := 157) (z := (-1)) dX5_readCompound_157 rfl (Nat.le_of_ble_eq_true rfl) (Nat.le_of_ble_eq_true rfl) ⟨Nat.le_refl _, Nat.le_add_right _ _⟩ ⟨_, rfl, (by decide), ⟨m_110, q_110, fun q => by first | exact absurd q v_110 | omega⟩⟩
              · refine tz_aload_n (pc := 132) dX5_readCompound_132 rfl rfl ?_
                refine tz_aload_n (pc := 133) dX5_readCompound_133 rfl rfl ?_
                refine tz_fR (pc := 134) dX5_readCompound_134 fl_X5_38 r_163_1 ?_
                refine tz_fR (pc := 137) dX5_readCompound_137 fl_X5_42 r_5_0 ?_
                refine tz_iload_n (pc := 140) dX5_readCompound_140 rfl rfl ?_
                refine tz_iload (pc := 141) dX5_readCompound_141 rfl ?_
                refine tz_iload (pc := 143) dX5_readCompound_143 rfl ?_
                refine tz_iload (pc := 145) dX5_readCompound_145 rfl ?_
                have x1 := (q_110).1.2.2.2.2 1 rfl
                have t_147 := (q_110).1.2.1.told
                refine tz_cV (pc := 147) (c_made hl n _ _ _ _ _ (by omega) (by omega) (by omega) (by omega) m_110 (q_110).1.2.1 (q_110).1.2.2.1 (by rw [x1]; omega) (ltA_of (by omega) (by omega) (by omega))) vl_X5_189 dX5_readCompound_147 o_6 rfl rfl (Nat.le_of_ble_eq_true rfl) ⟨(show 2 + 1 ≤ d9 + 2 by omega), (show 8 + (11 + 11) + 40 * (2) ≤ 40 * (d9 + 2) by omega)⟩ rfl rfl (Nat.le_of_ble_eq_true rfl) (Nat.le_of_ble_eq_true rfl) (fun r9 J_147 hq9 => ?_)
                obtain ⟨z_147, rfl, hz_147, p_147⟩ := hq9
                obtain ⟨m_147, y_147, h_147⟩ := GR.made p_147 (by omega)
                have q_147 := RT.made q_110 y_147
                refine tz_cV (pc := 150) (c_held hl n _ _ (by omega)) vl_X5_180 dX5_readCompound_150 o_163 rfl rfl (Nat.le_of_ble_eq_true rfl) ⟨(show 1 + 1 ≤ d9 + 2 by omega), (show 8 + (2 + 11) + 40 * (1) ≤ 40 * (d9 + 2) by omega)⟩ rfl rfl (Nat.le_of_ble_eq_true rfl) (Nat.le_of_ble_eq_true rfl) (fun r9 J_150 hq9 => ?_)
                obtain ⟨z_150, rfl, hz_150, g_150, d_150, u_150⟩ := hq9
                have q_150 := RT.rn q_147 g_150 (d_150 (q_147).2.1)
                refine tz_goto (pc := 153) (tgt := 157) dX5_readCompound_153 (by decide) ?_
                exact tz_iret (pc := 157) (z := z_150) dX5_readCompound_157 rfl (Nat.le_of_ble_eq_true rfl) (Nat.le_of_ble_eq_true rfl) ⟨Nat.le_refl _, Nat.le_add_right _ _⟩ ⟨_, rfl, (by omega), ⟨m_147, q_150, fun q => by first | exact absurd q v_150 | omega⟩⟩
            · refine tz_aload_n (pc := 119) dX5_readCompound_119 rfl rfl ?_
              refine tz_bipush (pc := 120) dX5_readCompound_120 (by decide) ?_
              have b_122 := (q_110).2.1
              obtain ⟨⟨⟨b1_122, b2_122⟩, b3_122, b4_122⟩, b5_122⟩ := id b_122
              refine tz_cV (pc := 122) (c_pass hl n _ _ (by omega) b_122) vl_X5_116 dX5_readCompound_122 o_163 rfl rfl (Nat.le_of_ble_eq_true rfl) ⟨(show 2 + 1 ≤ d9 + 2 by omega), (show 8 + (2 + 11) + 40 * (2) ≤ 40 * (d9 + 2) by omega)⟩ rfl rfl (Nat.le_of_ble_eq_true rfl) (Nat.le_of_ble_eq_true rfl) (fun r9 J_122 hq9 => ?_)
              obtain ⟨rfl, g_122, d_122⟩ := hq9
              have q_122 := RT.rn q_110 g_122 d_122
              have f_122 := g_122.2.2
              refine tz_aload_n (pc := 125) dX5_readCompound_125 rfl rfl ?_
              refine tz_fI (pc := 126) (kz := 8) (v := (J_122 163 8)) dX5_readCompound_126 fl_X5_24 i_163_8 rfl rfl (fun r_126 => ?_)
              refine tz_if_ne (pc := 129) (tgt := 156) dX5_readCompound_129 (by decide) (by omega) (fun h_129 => ?_) (fun h_129 => ?_)
              · refine tz_iconst (pc := 156) dX5_readCompound_156 ?_
                exact tz_iret (pc := 157) (z := (-1)) dX5_readCompound_157 rfl (Nat.le_of_ble_eq_true rfl) (Nat.le_of_ble_eq_true rfl) ⟨Nat.le_refl _, Nat.le_add_right _ _⟩ ⟨_, rfl, (by decide), ⟨m_110, q_122, fun q => by first | exact absurd q v_122 | omega⟩⟩
              · refine tz_aload_n (pc := 132) dX5_readCompound_132 rfl rfl ?_
                refine tz_aload_n (pc := 133) dX5_readCompound_133 rfl rfl ?_
                refine tz_fR (pc := 134) dX5_readCompound_134 fl_X5_38 r_163_1 ?_
                refine tz_fR (pc := 137) dX5_readCompound_137 fl_X5_42 r_5_0 ?_
                refine tz_iload_n (pc := 140) dX5_readCompound_140 rfl rfl ?_
                refine tz_iload (pc := 141) dX5_readCompound_141 rfl ?_
                refine tz_iload (pc := 143) dX5_readCompound_143 rfl ?_
                refine tz_iload (pc := 145) dX5_readCompound_145 rfl ?_
                have x1 := (q_122).1.2.2.2.2 1 rfl
                have t_147 := (q_122).1.2.1.told
                refine tz_cV (pc := 147) (c_made hl n _ _ _ _ _ (by omega) (by omega) (by omega) (by omega) m_110 (q_122).1.2.1 (q_122).1.2.2.1 (by rw [x1]; omega) (ltA_of (by omega) (by omega) (by omega))) vl_X5_189 dX5_readCompound_147 o_6 rfl rfl (Nat.le_of_ble_eq_true rfl) ⟨(show 2 + 1 ≤ d9 + 2 by omega), (show 8 + (11 + 11) + 40 * (2) ≤ 40 * (d9 + 2) by omega)⟩ rfl rfl (Nat.le_of_ble_eq_true rfl) (Nat.le_of_ble_eq_true rfl) (fun r9 J_147 hq9 => ?_)
                obtain ⟨z_147, rfl, hz_147, p_147⟩ := hq9
                obtain ⟨m_147, y_147, h_147⟩ := GR.made p_147 (by omega)
                have q_147 := RT.made q_122 y_147
                refine tz_cV (pc := 150) (c_held hl n _ _ (by omega)) vl_X5_180 dX5_readCompound_150 o_163 rfl rfl (Nat.le_of_ble_eq_true rfl) ⟨(show 1 + 1 ≤ d9 + 2 by omega), (show 8 + (2 + 11) + 40 * (1) ≤ 40 * (d9 + 2) by omega)⟩ rfl rfl (Nat.le_of_ble_eq_true rfl) (Nat.le_of_ble_eq_true rfl) (fun r9 J_150 hq9 => ?_)
                obtain ⟨z_150, rfl, hz_150, g_150, d_150, u_150⟩ := hq9
                have q_150 := RT.rn q_147 g_150 (d_150 (q_147).2.1)
                refine tz_goto (pc := 153) (tgt := 157) dX5_readCompound_153 (by decide) ?_
                exact tz_iret (pc := 157) (z := z_150) dX5_readCompound_157 rfl (Nat.le_of_ble_eq_true rfl) (Nat.le_of_ble_eq_true rfl) ⟨Nat.le_refl _, Nat.le_add_right _ _⟩ ⟨_, rfl, (by omega), ⟨m_147, q_150, fun q => by first | exact absurd q v_150 | omega⟩⟩
          · refine tz_iconst (pc := 102) dX5_readCompound_102 ?_
            refine tz_goto (pc := 103) (tgt := 113) dX5_readCompound_103 (by decide) ?_
            refine tz_istore (pc := 113) (L2 := [_, _, _, _, _, _, _]) dX5_readCompound_113 (by decide) rfl ?_
            refine tz_iload_n (pc := 115) dX5_readCompound_115 rfl rfl ?_
            refine tz_if_le (pc := 116) (tgt := 125) dX5_readCompound_116 (by decide) (by omega) (fun h_116 => ?_) (fun h_116 => ?_)
            · refine tz_aload_n (pc := 125) dX5_readCompound_125 rfl rfl ?_
              refine tz_fI (pc := 126) (kz := 8) (v := (J_92 163 8)) dX5_readCompound_126 fl_X5_24 i_163_8 rfl rfl (fun r_126 => ?_)
              refine tz_if_ne (pc := 129) (tgt := 156) dX5_readCompound_129 (by decide) (by omega) (fun h_129 => ?_) (fun h_129 => ?_)
              · refine tz_iconst (pc := 156) dX5_readCompound_156 ?_
                exact tz_iret (pc := 157) (z := (-1)) dX5_readCompound_157 rfl (Nat.le_of_ble_eq_true rfl) (Nat.le_of_ble_eq_true rfl) ⟨Nat.le_refl _, Nat.le_add_right _ _⟩ ⟨_, rfl, (by decide), ⟨m_92, q_92, fun q => by first | exact absurd q v_92 | omega⟩⟩
              · refine tz_aload_n (pc := 132) dX5_readCompound_132 rfl rfl ?_
                refine tz_aload_n (pc := 133) dX5_readCompound_133 rfl rfl ?_
                refine tz_fR (pc := 134) dX5_readCompound_134 fl_X5_38 r_163_1 ?_
                refine tz_fR (pc := 137) dX5_readCompound_137 fl_X5_42 r_5_0 ?_
                refine tz_iload_n (pc := 140) dX5_readCompound_140 rfl rfl ?_
                refine tz_iload (pc := 141) dX5_readCompound_141 rfl ?_
                refine tz_iload (pc := 143) dX5_readCompound_143 rfl ?_
                refine tz_iload (pc := 145) dX5_readCompound_145 rfl ?_
                have x1 := (q_92).1.2.2.2.2 1 rfl
                have t_147 := (q_92).1.2.1.told
                refine tz_cV (pc := 147) (c_made hl n _ _ _ _ _ (by omega) (by omega) (by omega) (by omega) m_92 (q_92).1.2.1 (q_92).1.2.2.1 (by rw [x1]; omega) (ltA_of (by omega) (by omega) (by omega))) vl_X5_189 dX5_readCompound_147 o_6 rfl rfl (Nat.le_of_ble_eq_true rfl) ⟨(show 2 + 1 ≤ d9 + 2 by omega), (show 8 + (11 + 11) + 40 * (2) ≤ 40 * (d9 + 2) by omega)⟩ rfl rfl (Nat.le_of_ble_eq_true rfl) (Nat.le_of_ble_eq_true rfl) (fun r9 J_147 hq9 => ?_)
                obtain ⟨z_147, rfl, hz_147, p_147⟩ := hq9
                obtain ⟨m_147, y_147, h_147⟩ := GR.made p_147 (by omega)
                have q_147 := RT.made q_92 y_147
                refine tz_cV (pc := 150) (c_held hl n _ _ (by omega)) vl_X5_180 dX5_readCompound_150 o_163 rfl rfl (Nat.le_of_ble_eq_true rfl) ⟨(show 1 + 1 ≤ d9 + 2 by omega), (show 8 + (2 + 11) + 40 * (1) ≤ 40 * (d9 + 2) by omega)⟩ rfl rfl (Nat.le_of_ble_eq_true rfl) (Nat.le_of_ble_eq_true rfl) (fun r9 J_150 hq9 => ?_)
                obtain ⟨z_150, rfl, hz_150, g_150, d_150, u_150⟩ := hq9
                have q_150 := RT.rn q_147 g_150 (d_150 (q_147).2.1)
                refine tz_goto (pc := 153) (tgt := 157) dX5_readCompound_153 (by decide) ?_
                exact tz_iret (pc := 157) (z := z_150) dX5_readCompound_157 rfl (Nat.le_of_ble_eq_true rfl) (Nat.le_of_ble_eq_true rfl) ⟨Nat.le_refl _, Nat.le_add_right _ _⟩ ⟨_, rfl, (by omega), ⟨m_147, q_150, fun q => by first | exact absurd q v_150 | omega⟩⟩
            · refine tz_aload_n (pc := 119) dX5_readCompound_119 rfl rfl ?_
              refine tz_bipush (pc := 120) dX5_readCompound_120 (by decide) ?_
              have b_122 := (q_92).2.1
              obtain ⟨⟨⟨b1_122, b2_122⟩, b3_122, b4_122⟩, b5_122⟩ := id b_122
              refine tz_cV (pc := 122) (c_pass hl n _ _ (by omega) b_122) vl_X5_116 dX5_readCompound_122 o_163 rfl rfl (Nat.le_of_ble_eq_true rfl) ⟨(show 2 + 1 ≤ d9 + 2 by omega), (show 8 + (2 + 11) + 40 * (2) ≤ 40 * (d9 + 2) by omega)⟩ rfl rfl (Nat.le_of_ble_eq_true rfl) (Nat.le_of_ble_eq_true rfl) (fun r9 J_122 hq9 => ?_)
              obtain ⟨rfl, g_122, d_122⟩ := hq9
              have q_122 := RT.rn q_92 g_122 d_122
              have f_122 := g_122.2.2
              refine tz_aload_n (pc := 125) dX5_readCompound_125 rfl rfl ?_
              refine tz_fI (pc := 126) (kz := 8) (v := (J_122 163 8)) dX5_readCompound_126 fl_X5_24 i_163_8 rfl rfl (fun r_126 => ?_)
              refine tz_if_ne (pc := 129) (tgt := 156) dX5_readCompound_129 (by decide) (by omega) (fun h_129 => ?_) (fun h_129 => ?_)
              · refine tz_iconst (pc := 156) dX5_readCompound_156 ?_
                exact tz_iret (pc := 157) (z := (-1)) dX5_readCompound_157 rfl (Nat.le_of_ble_eq_true rfl) (Nat.le_of_ble_eq_true rfl) ⟨Nat.le_refl _, Nat.le_add_right _ _⟩ ⟨_, rfl, (by decide), ⟨m_92, q_122, fun q => by first | exact absurd q v_122 | omega⟩⟩
              · refine tz_aload_n (pc := 132) dX5_readCompound_132 rfl rfl ?_
                refine tz_aload_n (pc := 133) dX5_readCompound_133 rfl rfl ?_
                refine tz_fR (pc := 134) dX5_readCompound_134 fl_X5_38 r_163_1 ?_
                refine tz_fR (pc := 137) dX5_readCompound_137 fl_X5_42 r_5_0 ?_
                refine tz_iload_n (pc := 140) dX5_readCompound_140 rfl rfl ?_
                refine tz_iload (pc := 141) dX5_readCompound_141 rfl ?_
                refine tz_iload (pc := 143) dX5_readCompound_143 rfl ?_
                refine tz_iload (pc := 145) dX5_readCompound_145 rfl ?_
                have x1 := (q_122).1.2.2.2.2 1 rfl
                have t_147 := (q_122).1.2.1.told
                refine tz_cV (pc := 147) (c_made hl n _ _ _ _ _ (by omega) (by omega) (by omega) (by omega) m_92 (q_122).1.2.1 (q_122).1.2.2.1 (by rw [x1]; omega) (ltA_of (by omega) (by omega) (by omega))) vl_X5_189 dX5_readCompound_147 o_6 rfl rfl (Nat.le_of_ble_eq_true rfl) ⟨(show 2 + 1 ≤ d9 + 2 by omega), (show 8 + (11 + 11) + 40 * (2) ≤ 40 * (d9 + 2) by omega)⟩ rfl rfl (Nat.le_of_ble_eq_true rfl) (Nat.le_of_ble_eq_true rfl) (fun r9 J_147 hq9 => ?_)
                obtain ⟨z_147, rfl, hz_147, p_147⟩ := hq9
                obtain ⟨m_147, y_147, h_147⟩ := GR.made p_147 (by omega)
                have q_147 := RT.made q_122 y_147
                refine tz_cV (pc := 150) (c_held hl n _ _ (by omega)) vl_X5_180 dX5_readCompound_150 o_163 rfl rfl (Nat.le_of_ble_eq_true rfl) ⟨(show 1 + 1 ≤ d9 + 2 by omega), (show 8 + (2 + 11) + 40 * (1) ≤ 40 * (d9 + 2) by omega)⟩ rfl rfl (Nat.le_of_ble_eq_true rfl) (Nat.le_of_ble_eq_true rfl) (fun r9 J_150 hq9 => ?_)
                obtain ⟨z_150, rfl, hz_150, g_150, d_150, u_150⟩ := hq9
                have q_150 := RT.rn q_147 g_150 (d_150 (q_147).2.1)
                refine tz_goto (pc := 153) (tgt := 157) dX5_readCompound_153 (by decide) ?_
                exact tz_iret (pc := 157) (z := z_150) dX5_readCompound_157 rfl (Nat.le_of_ble_eq_true rfl) (Nat.le_of_ble_eq_true rfl) ⟨Nat.le_refl _, Nat.le_add_right _ _⟩ ⟨_, rfl, (by omega), ⟨m_147, q_150, fun q => by first | exact absurd q v_150 | omega⟩⟩
        · refine tz_iconst (pc := 84) dX5_readCompound_84 ?_
          refine tz_goto (pc := 85) (tgt := 95) dX5_readCompound_85 (by decide) ?_
          refine tz_istore (pc := 95) (L2 := [_, _, _, _, _, _, _]) dX5_readCompound_95 (by decide) rfl ?_
          refine tz_iload_n (pc := 97) dX5_readCompound_97 rfl rfl ?_
          refine tz_iconst (pc := 98) dX5_readCompound_98 ?_
          refine tz_icmp_ge (pc := 99) (tgt := 106) dX5_readCompound_99 (by decide) (by omega) (by decide) (fun h_99 => ?_) (fun h_99 => ?_)
          · refine tz_aload_n (pc := 106) dX5_readCompound_106 rfl rfl ?_
            refine tz_bipush (pc := 107) dX5_readCompound_107 (by decide) ?_
            refine tz_iload_n (pc := 109) dX5_readCompound_109 rfl rfl ?_
            refine tz_cV (pc := 110) (c_readArg hl n _ _ _ (by decide) (by omega) d9 hd9 H m_74 (q_74).1.2.1 (q_74).1.2.2.1 (q_74).2.1) vl_X5_186 dX5_readCompound_110 o_163 rfl rfl (Nat.le_of_ble_eq_true rfl) ⟨(show (d9 + 1) + 1 ≤ d9 + 2 by omega), (show 8 + (3 + 11) + 40 * ((d9 + 1)) ≤ 40 * (d9 + 2) by omega)⟩ rfl rfl (Nat.le_of_ble_eq_true rfl) (Nat.le_of_ble_eq_true rfl) (fun r9 J_110 hq9 => ?_)
            obtain ⟨z_110, rfl, hz_110, m_110, g_110, u_110⟩ := hq9
            have q_110 := RT.tr q_74 g_110
            have f_110 := g_110.2.2
            have l_110 := g_110.1.1
            refine tz_istore (pc := 113) (L2 := [_, _, _, _, _, _, _]) dX5_readCompound_113 (by decide) rfl ?_
            refine tz_iload_n (pc := 115) dX5_readCompound_115 rfl rfl ?_
            refine tz_if_le (pc := 116) (tgt := 125) dX5_readCompound_116 (by decide) (by omega) (fun h_116 => ?_) (fun h_116 => ?_)
            · refine tz_aload_n (pc := 125) dX5_readCompound_125 rfl rfl ?_
              refine tz_fI (pc := 126) (kz := 8) (v := (J_110 163 8)) dX5_readCompound_126 fl_X5_24 i_163_8 rfl rfl (fun r_126 => ?_)
              refine tz_if_ne (pc := 129) (tgt := 156) dX5_readCompound_129 (by decide) (by omega) (fun h_129 => ?_) (fun h_129 => ?_)
              · refine tz_iconst (pc := 156) dX5_readCompound_156 ?_
                exact tz_iret (pc := 157) (z := (-1)) dX5_readCompound_157 rfl (Nat.le_of_ble_eq_true rfl) (Nat.le_of_ble_eq_true rfl) ⟨Nat.le_refl _, Nat.le_add_right _ _⟩ ⟨_, rfl, (by decide), ⟨m_110, q_110, fun q => by first | exact absurd q v_110 | omega⟩⟩
              · refine tz_aload_n (pc := 132) dX5_readCompound_132 rfl rfl ?_
                refine tz_aload_n (pc := 133) dX5_readCompound_133 rfl rfl ?_
                refine tz_fR (pc := 134) dX5_readCompound_134 fl_X5_38 r_163_1 ?_
                refine tz_fR (pc := 137) dX5_readCompound_137 fl_X5_42 r_5_0 ?_
                refine tz_iload_n (pc := 140) dX5_readCompound_140 rfl rfl ?_
                refine tz_iload (pc := 141) dX5_readCompound_141 rfl ?_
                refine tz_iload (pc := 143) dX5_readCompound_143 rfl ?_
                refine tz_iload (pc := 145) dX5_readCompound_145 rfl ?_
                have x1 := (q_110).1.2.2.2.2 1 rfl
                have t_147 := (q_110).1.2.1.told
                refine tz_cV (pc := 147) (c_made hl n _ _ _ _ _ (by omega) (by omega) (by omega) (by omega) m_110 (q_110).1.2.1 (q_110).1.2.2.1 (by rw [x1]; omega) (ltA_of (by omega) (by omega) (by omega))) vl_X5_189 dX5_readCompound_147 o_6 rfl rfl (Nat.le_of_ble_eq_true rfl) ⟨(show 2 + 1 ≤ d9 + 2 by omega), (show 8 + (11 + 11) + 40 * (2) ≤ 40 * (d9 + 2) by omega)⟩ rfl rfl (Nat.le_of_ble_eq_true rfl) (Nat.le_of_ble_eq_true rfl) (fun r9 J_147 hq9 => ?_)
                obtain ⟨z_147, rfl, hz_147, p_147⟩ := hq9
                obtain ⟨m_147, y_147, h_147⟩ := GR.made p_147 (by omega)
                have q_147 := RT.made q_110 y_147
                refine tz_cV (pc := 150) (c_held hl n _ _ (by omega)) vl_X5_180 dX5_readCompound_150 o_163 rfl rfl (Nat.le_of_ble_eq_true rfl) ⟨(show 1 + 1 ≤ d9 + 2 by omega), (show 8 + (2 + 11) + 40 * (1) ≤ 40 * (d9 + 2) by omega)⟩ rfl rfl (Nat.le_of_ble_eq_true rfl) (Nat.le_of_ble_eq_true rfl) (fun r9 J_150 hq9 => ?_)
                obtain ⟨z_150, rfl, hz_150, g_150, d_150, u_150⟩ := hq9
                have q_150 := RT.rn q_147 g_150 (d_150 (q_147).2.1)
                refine tz_goto (pc := 153) (tgt := 157) dX5_readCompound_153 (by decide) ?_
                exact tz_iret (pc := 157) (z := z_150) dX5_readCompound_157 rfl (Nat.le_of_ble_eq_true rfl) (Nat.le_of_ble_eq_true rfl) ⟨Nat.le_refl _, Nat.le_add_right _ _⟩ ⟨_, rfl, (by omega), ⟨m_147, q_150, fun q => by first | exact absurd q v_150 | omega⟩⟩
            · refine tz_aload_n (pc := 119) dX5_readCompound_119 rfl rfl ?_
              refine tz_bipush (pc := 120) dX5_readCompound_120 (by decide) ?_
              have b_122 := (q_110).2.1
              obtain ⟨⟨⟨b1_122, b2_122⟩, b3_122, b4_122⟩, b5_122⟩ := id b_122
              refine tz_cV (pc := 122) (c_pass hl n _ _ (by omega) b_122) vl_X5_116 dX5_readCompound_122 o_163 rfl rfl (Nat.le_of_ble_eq_true rfl) ⟨(show 2 + 1 ≤ d9 + 2 by omega), (show 8 + (2 + 11) + 40 * (2) ≤ 40 * (d9 + 2) by omega)⟩ rfl rfl (Nat.le_of_ble_eq_true rfl) (Nat.le_of_ble_eq_true rfl) (fun r9 J_122 hq9 => ?_)
              obtain ⟨rfl, g_122, d_122⟩ := hq9
              have q_122 := RT.rn q_110 g_122 d_122
              have f_122 := g_122.2.2
              refine tz_aload_n (pc := 125) dX5_readCompound_125 rfl rfl ?_
              refine tz_fI (pc := 126) (kz := 8) (v := (J_122 163 8)) dX5_readCompound_126 fl_X5_24 i_163_8 rfl rfl (fun r_126 => ?_)
              refine tz_if_ne (pc := 129) (tgt := 156) dX5_readCompound_129 (by decide) (by omega) (fun h_129 => ?_) (fun h_129 => ?_)
              · refine tz_iconst (pc := 156) dX5_readCompound_156 ?_
                exact tz_iret (pc := 157) (z := (-1)) dX5_readCompound_157 rfl (Nat.le_of_ble_eq_true rfl) (Nat.le_of_ble_eq_true rfl) ⟨Nat.le_refl _, Nat.le_add_right _ _⟩ ⟨_, rfl, (by decide), ⟨m_110, q_122, fun q => by first | exact absurd q v_122 | omega⟩⟩
              · refine tz_aload_n (pc := 132) dX5_readCompound_132 rfl rfl ?_
                refine tz_aload_n (pc := 133) dX5_readCompound_133 rfl rfl ?_
                refine tz_fR (pc := 134) dX5_readCompound_134 fl_X5_38 r_163_1 ?_
                refine tz_fR (pc := 137) dX5_readCompound_137 fl_X5_42 r_5_0 ?_
                refine tz_iload_n (pc := 140) dX5_readCompound_140 rfl rfl ?_
                refine tz_iload (pc := 141) dX5_readCompound_141 rfl ?_
                refine tz_iload (pc := 143) dX5_readCompound_143 rfl ?_
                refine tz_iload (pc := 145) dX5_readCompound_145 rfl ?_
                have x1 := (q_122).1.2.2.2.2 1 rfl
                have t_147 := (q_122).1.2.1.told
                refine tz_cV (pc := 147) (c_made hl n _ _ _ _ _ (by omega) (by omega) (by omega) (by omega) m_110 (q_122).1.2.1 (q_122).1.2.2.1 (by rw [x1]; omega) (ltA_of (by omega) (by omega) (by omega))) vl_X5_189 dX5_readCompound_147 o_6 rfl rfl (Nat.le_of_ble_eq_true rfl) ⟨(show 2 + 1 ≤ d9 + 2 by omega), (show 8 + (11 + 11) + 40 * (2) ≤ 40 * (d9 + 2) by omega)⟩ rfl rfl (Nat.le_of_ble_eq_true rfl) (Nat.le_of_ble_eq_true rfl) (fun r9 J_147 hq9 => ?_)
                obtain ⟨z_147, rfl, hz_147, p_147⟩ := hq9
                obtain ⟨m_147, y_147, h_147⟩ := GR.made p_147 (by omega)
                have q_147 := RT.made q_122 y_147
                refine tz_cV (pc := 150) (c_held hl n _ _ (by omega)) vl_X5_180 dX5_readCompound_150 o_163 rfl rfl (Nat.le_of_ble_eq_true rfl) ⟨(show 1 + 1 ≤ d9 + 2 by omega), (show 8 + (2 + 11) + 40 * (1) ≤ 40 * (d9 + 2) by omega)⟩ rfl rfl (Nat.le_of_ble_eq_true rfl) (Nat.le_of_ble_eq_true rfl) (fun r9 J_150 hq9 => ?_)
                obtain ⟨z_150, rfl, hz_150, g_150, d_150, u_150⟩ := hq9
                have q_150 := RT.rn q_147 g_150 (d_150 (q_147).2.1)
                refine tz_goto (pc := 153) (tgt := 157) dX5_readCompound_153 (by decide) ?_
                exact tz_iret (pc := 157) (z := z_150) dX5_readCompound_157 rfl (Nat.le_of_ble_eq_true rfl) (Nat.le_of_ble_eq_true rfl) ⟨Nat.le_refl _, Nat.le_add_right _ _⟩ ⟨_, rfl, (by omega), ⟨m_147, q_150, fun q => by first | exact absurd q v_150 | omega⟩⟩
          · refine tz_iconst (pc := 102) dX5_readCompound_102 ?_
            refine tz_goto (pc := 103) (tgt := 113) dX5_readCompound_103 (by decide) ?_
            refine tz_istore (pc := 113) (L2 := [_, _, _, _, _, _, _]) dX5_readCompound_113 (by decide) rfl ?_
            refine tz_iload_n (pc := 115) dX5_readCompound_115 rfl rfl ?_
            refine tz_if_le (pc := 116) (tgt := 125) dX5_readCompound_116 (by decide) (by omega) (fun h_116 => ?_) (fun h_116 => ?_)
            · refine tz_aload_n (pc := 125) dX5_readCompound_125 rfl rfl ?_
              refine tz_fI (pc := 126) (kz := 8) (v := (J_74 163 8)) dX5_readCompound_126 fl_X5_24 i_163_8 rfl rfl (fun r_126 => ?_)
              refine tz_if_ne (pc := 129) (tgt := 156) dX5_readCompound_129 (by decide) (by omega) (fun h_129 => ?_) (fun h_129 => ?_)
              · refine tz_iconst (pc := 156) dX5_readCompound_156 ?_
                exact tz_iret (pc := 157) (z := (-1)) dX5_readCompound_157 rfl (Nat.le_of_ble_eq_true rfl) (Nat.le_of_ble_eq_true rfl) ⟨Nat.le_refl _, Nat.le_add_right _ _⟩ ⟨_, rfl, (by decide), ⟨m_74, q_74, fun q => by first | exact absurd q v_74 | omega⟩⟩
              · refine tz_aload_n (pc := 132) dX5_readCompound_132 rfl rfl ?_
                refine tz_aload_n (pc := 133) dX5_readCompound_133 rfl rfl ?_
                refine tz_fR (pc := 134) dX5_readCompound_134 fl_X5_38 r_163_1 ?_
                refine tz_fR (pc := 137) dX5_readCompound_137 fl_X5_42 r_5_0 ?_
                refine tz_iload_n (pc := 140) dX5_readCompound_140 rfl rfl ?_
                refine tz_iload (pc := 141) dX5_readCompound_141 rfl ?_
                refine tz_iload (pc := 143) dX5_readCompound_143 rfl ?_
                refine tz_iload (pc := 145) dX5_readCompound_145 rfl ?_
                have x1 := (q_74).1.2.2.2.2 1 rfl
                have t_147 := (q_74).1.2.1.told
                refine tz_cV (pc := 147) (c_made hl n _ _ _ _ _ (by omega) (by omega) (by omega) (by omega) m_74 (q_74).1.2.1 (q_74).1.2.2.1 (by rw [x1]; omega) (ltA_of (by omega) (by omega) (by omega))) vl_X5_189 dX5_readCompound_147 o_6 rfl rfl (Nat.le_of_ble_eq_true rfl) ⟨(show 2 + 1 ≤ d9 + 2 by omega), (show 8 + (11 + 11) + 40 * (2) ≤ 40 * (d9 + 2) by omega)⟩ rfl rfl (Nat.le_of_ble_eq_true rfl) (Nat.le_of_ble_eq_true rfl) (fun r9 J_147 hq9 => ?_)
                obtain ⟨z_147, rfl, hz_147, p_147⟩ := hq9
                obtain ⟨m_147, y_147, h_147⟩ := GR.made p_147 (by omega)
                have q_147 := RT.made q_74 y_147
                refine tz_cV (pc := 150) (c_held hl n _ _ (by omega)) vl_X5_180 dX5_readCompound_150 o_163 rfl rfl (Nat.le_of_ble_eq_true rfl) ⟨(show 1 + 1 ≤ d9 + 2 by omega), (show 8 + (2 + 11) + 40 * (1) ≤ 40 * (d9 + 2) by omega)⟩ rfl rfl (Nat.le_of_ble_eq_true rfl) (Nat.le_of_ble_eq_true rfl) (fun r9 J_150 hq9 => ?_)
                obtain ⟨z_150, rfl, hz_150, g_150, d_150, u_150⟩ := hq9
                have q_150 := RT.rn q_147 g_150 (d_150 (q_147).2.1)
                refine tz_goto (pc := 153) (tgt := 157) dX5_readCompound_153 (by decide) ?_
                exact tz_iret (pc := 157) (z := z_150) dX5_readCompound_157 rfl (Nat.le_of_ble_eq_true rfl) (Nat.le_of_ble_eq_true rfl) ⟨Nat.le_refl _, Nat.le_add_right _ _⟩ ⟨_, rfl, (by omega), ⟨m_147, q_150, fun q => by first | exact absurd q v_150 | omega⟩⟩
            · refine tz_aload_n (pc := 119) dX5_readCompound_119 rfl rfl ?_
              refine tz_bipush (pc := 120) dX5_readCompound_120 (by decide) ?_
              have b_122 := (q_74).2.1
              obtain ⟨⟨⟨b1_122, b2_122⟩, b3_122, b4_122⟩, b5_122⟩ := id b_122
              refine tz_cV (pc := 122) (c_pass hl n _ _ (by omega) b_122) vl_X5_116 dX5_readCompound_122 o_163 rfl rfl (Nat.le_of_ble_eq_true rfl) ⟨(show 2 + 1 ≤ d9 + 2 by omega), (show 8 + (2 + 11) + 40 * (2) ≤ 40 * (d9 + 2) by omega)⟩ rfl rfl (Nat.le_of_ble_eq_true rfl) (Nat.le_of_ble_eq_true rfl) (fun r9 J_122 hq9 => ?_)
              obtain ⟨rfl, g_122, d_122⟩ := hq9
              have q_122 := RT.rn q_74 g_122 d_122
              have f_122 := g_122.2.2
              refine tz_aload_n (pc := 125) dX5_readCompound_125 rfl rfl ?_
              refine tz_fI (pc := 126) (kz := 8) (v := (J_122 163 8)) dX5_readCompound_126 fl_X5_24 i_163_8 rfl rfl (fun r_126 => ?_)
              refine tz_if_ne (pc := 129) (tgt := 156) dX5_readCompound_129 (by decide) (by omega) (fun h_129 => ?_) (fun h_129 => ?_)
              · refine tz_iconst (pc := 156) dX5_readCompound_156 ?_
                exact tz_iret (pc := 157) (z := (-1)) dX5_readCompound_157 rfl (Nat.le_of_ble_eq_true rfl) (Nat.le_of_ble_eq_true rfl) ⟨Nat.le_refl _, Nat.le_add_right _ _⟩ ⟨_, rfl, (by decide), ⟨m_74, q_122, fun q => by first | exact absurd q v_122 | omega⟩⟩
              · refine tz_aload_n (pc := 132) dX5_readCompound_132 rfl rfl ?_
                refine tz_aload_n (pc := 133) dX5_readCompound_133 rfl rfl ?_
                refine tz_fR (pc := 134) dX5_readCompound_134 fl_X5_38 r_163_1 ?_
                refine tz_fR (pc := 137) dX5_readCompound_137 fl_X5_42 r_5_0 ?_
                refine tz_iload_n (pc := 140) dX5_readCompound_140 rfl rfl ?_
                refine tz_iload (pc := 141) dX5_readCompound_141 rfl ?_
                refine tz_iload (pc := 143) dX5_readCompound_143 rfl ?_
                refine tz_iload (pc := 145) dX5_readCompound_145 rfl ?_
                have x1 := (q_122).1.2.2.2.2 1 rfl
                have t_147 := (q_122).1.2.1.told
                refine tz_cV (pc := 147) (c_made hl n _ _ _ _ _ (by omega) (by omega) (by omega) (by omega) m_74 (q_122).1.2.1 (q_122).1.2.2.1 (by rw [x1]; omega) (ltA_of (by omega) (by omega) (by omega))) vl_X5_189 dX5_readCompound_147 o_6 rfl rfl (Nat.le_of_ble_eq_true rfl) ⟨(show 2 + 1 ≤ d9 + 2 by omega), (show 8 + (11 + 11) + 40 * (2) ≤ 40 * (d9 + 2) by omega)⟩ rfl rfl (Nat.le_of_ble_eq_true rfl) (Nat.le_of_ble_eq_true rfl) (fun r9 J_147 hq9 => ?_)
                obtain ⟨z_147, rfl, hz_147, p_147⟩ := hq9
                obtain ⟨m_147, y_147, h_147⟩ := GR.made p_147 (by omega)
                have q_147 := RT.made q_122 y_147
                refine tz_cV (pc := 150) (c_held hl n _ _ (by omega)) vl_X5_180 dX5_readCompound_150 o_163 rfl rfl (Nat.le_of_ble_eq_true rfl) ⟨(show 1 + 1 ≤ d9 + 2 by omega), (show 8 + (2 + 11) + 40 * (1) ≤ 40 * (d9 + 2) by omega)⟩ rfl rfl (Nat.le_of_ble_eq_true rfl) (Nat.le_of_ble_eq_true rfl) (fun r9 J_150 hq9 => ?_)
                obtain ⟨z_150, rfl, hz_150, g_150, d_150, u_150⟩ := hq9
                have q_150 := RT.rn q_147 g_150 (d_150 (q_147).2.1)
                refine tz_goto (pc := 153) (tgt := 157) dX5_readCompound_153 (by decide) ?_
                exact tz_iret (pc := 157) (z := z_150) dX5_readCompound_157 rfl (Nat.le_of_ble_eq_true rfl) (Nat.le_of_ble_eq_true rfl) ⟨Nat.le_refl _, Nat.le_add_right _ _⟩ ⟨_, rfl, (by omega), ⟨m_147, q_150, fun q => by first | exact absurd q v_150 | omega⟩⟩
      · refine tz_iconst (pc := 66) dX5_readCompound_66 ?_
        refine tz_goto (pc := 67) (tgt := 77) dX5_readCompound_67 (by decide) ?_
        refine tz_istore (pc := 77) (L2 := [_, _, _, _, _, _, _]) dX5_readCompound_77 (by decide) rfl ?_
        refine tz_iload_n (pc := 79) dX5_readCompound_79 rfl rfl ?_
        refine tz_iconst (pc := 80) dX5_readCompound_80 ?_
        refine tz_icmp_ge (pc := 81) (tgt := 88) dX5_readCompound_81 (by decide) (by omega) (by decide) (fun h_81 => ?_) (fun h_81 => ?_)
        · refine tz_aload_n (pc := 88) dX5_readCompound_88 rfl rfl ?_
          refine tz_bipush (pc := 89) dX5_readCompound_89 (by decide) ?_
          refine tz_iload_n (pc := 91) dX5_readCompound_91 rfl rfl ?_
          refine tz_cV (pc := 92) (c_readArg hl n _ _ _ (by decide) (by omega) d9 hd9 H m (q_48).1.2.1 (q_48).1.2.2.1 (q_48).2.1) vl_X5_186 dX5_readCompound_92 o_163 rfl rfl (Nat.le_of_ble_eq_true rfl) ⟨(show (d9 + 1) + 1 ≤ d9 + 2 by omega), (show 8 + (3 + 11) + 40 * ((d9 + 1)) ≤ 40 * (d9 + 2) by omega)⟩ rfl rfl (Nat.le_of_ble_eq_true rfl) (Nat.le_of_ble_eq_true rfl) (fun r9 J_92 hq9 => ?_)
          obtain ⟨z_92, rfl, hz_92, m_92, g_92, u_92⟩ := hq9
          have q_92 := RT.tr q_48 g_92
          have f_92 := g_92.2.2
          have l_92 := g_92.1.1
          refine tz_istore (pc := 95) (L2 := [_, _, _, _, _, _, _]) dX5_readCompound_95 (by decide) rfl ?_
          refine tz_iload_n (pc := 97) dX5_readCompound_97 rfl rfl ?_
          refine tz_iconst (pc := 98) dX5_readCompound_98 ?_
          refine tz_icmp_ge (pc := 99) (tgt := 106) dX5_readCompound_99 (by decide) (by omega) (by decide) (fun h_99 => ?_) (fun h_99 => ?_)
          · refine tz_aload_n (pc := 106) dX5_readCompound_106 rfl rfl ?_
            refine tz_bipush (pc := 107) dX5_readCompound_107 (by decide) ?_
            refine tz_iload_n (pc := 109) dX5_readCompound_109 rfl rfl ?_
            refine tz_cV (pc := 110) (c_readArg hl n _ _ _ (by decide) (by omega) d9 hd9 H m_92 (q_92).1.2.1 (q_92).1.2.2.1 (q_92).2.1) vl_X5_186 dX5_readCompound_110 o_163 rfl rfl (Nat.le_of_ble_eq_true rfl) ⟨(show (d9 + 1) + 1 ≤ d9 + 2 by omega), (show 8 + (3 + 11) + 40 * ((d9 + 1)) ≤ 40 * (d9 + 2) by omega)⟩ rfl rfl (Nat.le_of_ble_eq_true rfl) (Nat.le_of_ble_eq_true rfl) (fun r9 J_110 hq9 => ?_)
            obtain ⟨z_110, rfl, hz_110, m_110, g_110, u_110⟩ := hq9
            have q_110 := RT.tr q_92 g_110
            have f_110 := g_110.2.2
            have l_110 := g_110.1.1
            refine tz_istore (pc := 113) (L2 := [_, _, _, _, _, _, _]) dX5_readCompound_113 (by decide) rfl ?_
            refine tz_iload_n (pc := 115) dX5_readCompound_115 rfl rfl ?_
            refine tz_if_le (pc := 116) (tgt := 125) dX5_readCompound_116 (by decide) (by omega) (fun h_116 => ?_) (fun h_116 => ?_)
            · refine tz_aload_n (pc := 125) dX5_readCompound_125 rfl rfl ?_
              refine tz_fI (pc := 126) (kz := 8) (v := (J_110 163 8)) dX5_readCompound_126 fl_X5_24 i_163_8 rfl rfl (fun r_126 => ?_)
              refine tz_if_ne (pc := 129) (tgt := 156) dX5_readCompound_129 (by decide) (by omega) (fun h_129 => ?_) (fun h_129 => ?_)
              · refine tz_iconst (pc := 156) dX5_readCompound_156 ?_
                exact tz_iret (pc := 157) (z := (-1)) dX5_readCompound_157 rfl (Nat.le_of_ble_eq_true rfl) (Nat.le_of_ble_eq_true rfl) ⟨Nat.le_refl _, Nat.le_add_right _ _⟩ ⟨_, rfl, (by decide), ⟨m_110, q_110, fun q => by first | exact absurd q v_110 | omega⟩⟩
              · refine tz_aload_n (pc := 132) dX5_readCompound_132 rfl rfl ?_
                refine tz_aload_n (pc := 133) dX5_readCompound_133 rfl rfl ?_
                refine tz_fR (pc := 134) dX5_readCompound_134 fl_X5_38 r_163_1 ?_
                refine tz_fR (pc := 137) dX5_readCompound_137 fl_X5_42 r_5_0 ?_
                refine tz_iload_n (pc := 140) dX5_readCompound_140 rfl rfl ?_
                refine tz_iload (pc := 141) dX5_readCompound_141 rfl ?_
                refine tz_iload (pc := 143) dX5_readCompound_143 rfl ?_
                refine tz_iload (pc := 145) dX5_readCompound_145 rfl ?_
                have x1 := (q_110).1.2.2.2.2 1 rfl
                have t_147 := (q_110).1.2.1.told
                refine tz_cV (pc := 147) (c_made hl n _ _ _ _ _ (by omega) (by omega) (by omega) (by omega) m_110 (q_110).1.2.1 (q_110).1.2.2.1 (by rw [x1]; omega) (ltA_of (by omega) (by omega) (by omega))) vl_X5_189 dX5_readCompound_147 o_6 rfl rfl (Nat.le_of_ble_eq_true rfl) ⟨(show 2 + 1 ≤ d9 + 2 by omega), (show 8 + (11 + 11) + 40 * (2) ≤ 40 * (d9 + 2) by omega)⟩ rfl rfl (Nat.le_of_ble_eq_true rfl) (Nat.le_of_ble_eq_true rfl) (fun r9 J_147 hq9 => ?_)
                obtain ⟨z_147, rfl, hz_147, p_147⟩ := hq9
                obtain ⟨m_147, y_147, h_147⟩ := GR.made p_147 (by omega)
                have q_147 := RT.made q_110 y_147
                refine tz_cV (pc := 150) (c_held hl n _ _ (by omega)) vl_X5_180 dX5_readCompound_150 o_163 rfl rfl (Nat.le_of_ble_eq_true rfl) ⟨(show 1 + 1 ≤ d9 + 2 by omega), (show 8 + (2 + 11) + 40 * (1) ≤ 40 * (d9 + 2) by omega)⟩ rfl rfl (Nat.le_of_ble_eq_true rfl) (Nat.le_of_ble_eq_true rfl) (fun r9 J_150 hq9 => ?_)
                obtain ⟨z_150, rfl, hz_150, g_150, d_150, u_150⟩ := hq9
                have q_150 := RT.rn q_147 g_150 (d_150 (q_147).2.1)
                refine tz_goto (pc := 153) (tgt := 157) dX5_readCompound_153 (by decide) ?_
                exact tz_iret (pc := 157) (z := z_150) dX5_readCompound_157 rfl (Nat.le_of_ble_eq_true rfl) (Nat.le_of_ble_eq_true rfl) ⟨Nat.le_refl _, Nat.le_add_right _ _⟩ ⟨_, rfl, (by omega), ⟨m_147, q_150, fun q => by first | exact absurd q v_150 | omega⟩⟩
            · refine tz_aload_n (pc := 119) dX5_readCompound_119 rfl rfl ?_
              refine tz_bipush (pc := 120) dX5_readCompound_120 (by decide) ?_
              have b_122 := (q_110).2.1
              obtain ⟨⟨⟨b1_122, b2_122⟩, b3_122, b4_122⟩, b5_122⟩ := id b_122
              refine tz_cV (pc := 122) (c_pass hl n _ _ (by omega) b_122) vl_X5_116 dX5_readCompound_122 o_163 rfl rfl (Nat.le_of_ble_eq_true rfl) ⟨(show 2 + 1 ≤ d9 + 2 by omega), (show 8 + (2 + 11) + 40 * (2) ≤ 40 * (d9 + 2) by omega)⟩ rfl rfl (Nat.le_of_ble_eq_true rfl) (Nat.le_of_ble_eq_true rfl) (fun r9 J_122 hq9 => ?_)
              obtain ⟨rfl, g_122, d_122⟩ := hq9
              have q_122 := RT.rn q_110 g_122 d_122
              have f_122 := g_122.2.2
              refine tz_aload_n (pc := 125) dX5_readCompound_125 rfl rfl ?_
              refine tz_fI (pc := 126) (kz := 8) (v := (J_122 163 8)) dX5_readCompound_126 fl_X5_24 i_163_8 rfl rfl (fun r_126 => ?_)
              refine tz_if_ne (pc := 129) (tgt := 156) dX5_readCompound_129 (by decide) (by omega) (fun h_129 => ?_) (fun h_129 => ?_)
              · refine tz_iconst (pc := 156) dX5_readCompound_156 ?_
                exact tz_iret (pc := 157) (z := (-1)) dX5_readCompound_157 rfl (Nat.le_of_ble_eq_true rfl) (Nat.le_of_ble_eq_true rfl) ⟨Nat.le_refl _, Nat.le_add_right _ _⟩ ⟨_, rfl, (by decide), ⟨m_110, q_122, fun q => by first | exact absurd q v_122 | omega⟩⟩
              · refine tz_aload_n (pc := 132) dX5_readCompound_132 rfl rfl ?_
                refine tz_aload_n (pc := 133) dX5_readCompound_133 rfl rfl ?_
                refine tz_fR (pc := 134) dX5_readCompound_134 fl_X5_38 r_163_1 ?_
                refine tz_fR (pc := 137) dX5_readCompound_137 fl_X5_42 r_5_0 ?_
                refine tz_iload_n (pc := 140) dX5_readCompound_140 rfl rfl ?_
                refine tz_iload (pc := 141) dX5_readCompound_141 rfl ?_
                refine tz_iload (pc := 143) dX5_readCompound_143 rfl ?_
                refine tz_iload (pc := 145) dX5_readCompound_145 rfl ?_
                have x1 := (q_122).1.2.2.2.2 1 rfl
                have t_147 := (q_122).1.2.1.told
                refine tz_cV (pc := 147) (c_made hl n _ _ _ _ _ (by omega) (by omega) (by omega) (by omega) m_110 (q_122).1.2.1 (q_122).1.2.2.1 (by rw [x1]; omega) (ltA_of (by omega) (by omega) (by omega))) vl_X5_189 dX5_readCompound_147 o_6 rfl rfl (Nat.le_of_ble_eq_true rfl) ⟨(show 2 + 1 ≤ d9 + 2 by omega), (show 8 + (11 + 11) + 40 * (2) ≤ 40 * (d9 + 2) by omega)⟩ rfl rfl (Nat.le_of_ble_eq_true rfl) (Nat.le_of_ble_eq_true rfl) (fun r9 J_147 hq9 => ?_)
                obtain ⟨z_147, rfl, hz_147, p_147⟩ := hq9
                obtain ⟨m_147, y_147, h_147⟩ := GR.made p_147 (by omega)
                have q_147 := RT.made q_122 y_147
                refine tz_cV (pc := 150) (c_held hl n _ _ (by omega)) vl_X5_180 dX5_readCompound_150 o_163 rfl rfl (Nat.le_of_ble_eq_true rfl) ⟨(show 1 + 1 ≤ d9 + 2 by omega), (show 8 + (2 + 11) + 40 * (1) ≤ 40 * (d9 + 2) by omega)⟩ rfl rfl (Nat.le_of_ble_eq_true rfl) (Nat.le_of_ble_eq_true rfl) (fun r9 J_150 hq9 => ?_)
                obtain ⟨z_150, rfl, hz_150, g_150, d_150, u_150⟩ := hq9
                have q_150 := RT.rn q_147 g_150 (d_150 (q_147).2.1)
                refine tz_goto (pc := 153) (tgt := 157) dX5_readCompound_153 (by decide) ?_
                exact tz_iret (pc := 157) (z := z_150) dX5_readCompound_157 rfl (Nat.le_of_ble_eq_true rfl) (Nat.le_of_ble_eq_true rfl) ⟨Nat.le_refl _, Nat.le_add_right _ _⟩ ⟨_, rfl, (by omega), ⟨m_147, q_150, fun q => by first | exact absurd q v_150 | omega⟩⟩
          · refine tz_iconst (pc := 102) dX5_readCompound_102 ?_
            refine tz_goto (pc := 103) (tgt := 113) dX5_readCompound_103 (by decide) ?_
            refine tz_istore (pc := 113) (L2 := [_, _, _, _, _, _, _]) dX5_readCompound_113 (by decide) rfl ?_
            refine tz_iload_n (pc := 115) dX5_readCompound_115 rfl rfl ?_
            refine tz_if_le (pc := 116) (tgt := 125) dX5_readCompound_116 (by decide) (by omega) (fun h_116 => ?_) (fun h_116 => ?_)
            · refine tz_aload_n (pc := 125) dX5_readCompound_125 rfl rfl ?_
              refine tz_fI (pc := 126) (kz := 8) (v := (J_92 163 8)) dX5_readCompound_126 fl_X5_24 i_163_8 rfl rfl (fun r_126 => ?_)
              refine tz_if_ne (pc := 129) (tgt := 156) dX5_readCompound_129 (by decide) (by omega) (fun h_129 => ?_) (fun h_129 => ?_)
              · refine tz_iconst (pc := 156) dX5_readCompound_156 ?_
                exact tz_iret (pc := 157) (z := (-1)) dX5_readCompound_157 rfl (Nat.le_of_ble_eq_true rfl) (Nat.le_of_ble_eq_true rfl) ⟨Nat.le_refl _, Nat.le_add_right _ _⟩ ⟨_, rfl, (by decide), ⟨m_92, q_92, fun q => by first | exact absurd q v_92 | omega⟩⟩
              · refine tz_aload_n (pc := 132) dX5_readCompound_132 rfl rfl ?_
                refine tz_aload_n (pc := 133) dX5_readCompound_133 rfl rfl ?_
                refine tz_fR (pc := 134) dX5_readCompound_134 fl_X5_38 r_163_1 ?_
                refine tz_fR (pc := 137) dX5_readCompound_137 fl_X5_42 r_5_0 ?_
                refine tz_iload_n (pc := 140) dX5_readCompound_140 rfl rfl ?_
                refine tz_iload (pc := 141) dX5_readCompound_141 rfl ?_
                refine tz_iload (pc := 143) dX5_readCompound_143 rfl ?_
                refine tz_iload (pc := 145) dX5_readCompound_145 rfl ?_
                have x1 := (q_92).1.2.2.2.2 1 rfl
                have t_147 := (q_92).1.2.1.told
                refine tz_cV (pc := 147) (c_made hl n _ _ _ _ _ (by omega) (by omega) (by omega) (by omega) m_92 (q_92).1.2.1 (q_92).1.2.2.1 (by rw [x1]; omega) (ltA_of (by omega) (by omega) (by omega))) vl_X5_189 dX5_readCompound_147 o_6 rfl rfl (Nat.le_of_ble_eq_true rfl) ⟨(show 2 + 1 ≤ d9 + 2 by omega), (show 8 + (11 + 11) + 40 * (2) ≤ 40 * (d9 + 2) by omega)⟩ rfl rfl (Nat.le_of_ble_eq_true rfl) (Nat.le_of_ble_eq_true rfl) (fun r9 J_147 hq9 => ?_)
                obtain ⟨z_147, rfl, hz_147, p_147⟩ := hq9
                obtain ⟨m_147, y_147, h_147⟩ := GR.made p_147 (by omega)
                have q_147 := RT.made q_92 y_147
                refine tz_cV (pc := 150) (c_held hl n _ _ (by omega)) vl_X5_180 dX5_readCompound_150 o_163 rfl rfl (Nat.le_of_ble_eq_true rfl) ⟨(show 1 + 1 ≤ d9 + 2 by omega), (show 8 + (2 + 11) + 40 * (1) ≤ 40 * (d9 + 2) by omega)⟩ rfl rfl (Nat.le_of_ble_eq_true rfl) (Nat.le_of_ble_eq_true rfl) (fun r9 J_150 hq9 => ?_)
                obtain ⟨z_150, rfl, hz_150, g_150, d_150, u_150⟩ := hq9
                have q_150 := RT.rn q_147 g_150 (d_150 (q_147).2.1)
                refine tz_goto (pc := 153) (tgt := 157) dX5_readCompound_153 (by decide) ?_
                exact tz_iret (pc := 157) (z := z_150) dX5_readCompound_157 rfl (Nat.le_of_ble_eq_true rfl) (Nat.le_of_ble_eq_true rfl) ⟨Nat.le_refl _, Nat.le_add_right _ _⟩ ⟨_, rfl, (by omega), ⟨m_147, q_150, fun q => by first | exact absurd q v_150 | omega⟩⟩
            · refine tz_aload_n (pc := 119) dX5_readCompound_119 rfl rfl ?_
              refine tz_bipush (pc := 120) dX5_readCompound_120 (by decide) ?_
              have b_122 := (q_92).2.1
              obtain ⟨⟨⟨b1_122, b2_122⟩, b3_122, b4_122⟩, b5_122⟩ := id b_122
              refine tz_cV (pc := 122) (c_pass hl n _ _ (by omega) b_122) vl_X5_116 dX5_readCompound_122 o_163 rfl rfl (Nat.le_of_ble_eq_true rfl) ⟨(show 2 + 1 ≤ d9 + 2 by omega), (show 8 + (2 + 11) + 40 * (2) ≤ 40 * (d9 + 2) by omega)⟩ rfl rfl (Nat.le_of_ble_eq_true rfl) (Nat.le_of_ble_eq_true rfl) (fun r9 J_122 hq9 => ?_)
              obtain ⟨rfl, g_122, d_122⟩ := hq9
              have q_122 := RT.rn q_92 g_122 d_122
              have f_122 := g_122.2.2
              refine tz_aload_n (pc := 125) dX5_readCompound_125 rfl rfl ?_
              refine tz_fI (pc := 126) (kz := 8) (v := (J_122 163 8)) dX5_readCompound_126 fl_X5_24 i_163_8 rfl rfl (fun r_126 => ?_)
              refine tz_if_ne (pc := 129) (tgt := 156) dX5_readCompound_129 (by decide) (by omega) (fun h_129 => ?_) (fun h_129 => ?_)
              · refine tz_iconst (pc := 156) dX5_readCompound_156 ?_
                exact tz_iret (pc := 157) (z := (-1)) dX5_readCompound_157 rfl (Nat.le_of_ble_eq_true rfl) (Nat.le_of_ble_eq_true rfl) ⟨Nat.le_refl _, Nat.le_add_right _ _⟩ ⟨_, rfl, (by decide), ⟨m_92, q_122, fun q => by first | exact absurd q v_122 | omega⟩⟩
              · refine tz_aload_n (pc := 132) dX5_readCompound_132 rfl rfl ?_
                refine tz_aload_n (pc := 133) dX5_readCompound_133 rfl rfl ?_
                refine tz_fR (pc := 134) dX5_readCompound_134 fl_X5_38 r_163_1 ?_
                refine tz_fR (pc := 137) dX5_readCompound_137 fl_X5_42 r_5_0 ?_
                refine tz_iload_n (pc := 140) dX5_readCompound_140 rfl rfl ?_
                refine tz_iload (pc := 141) dX5_readCompound_141 rfl ?_
                refine tz_iload (pc := 143) dX5_readCompound_143 rfl ?_
                refine tz_iload (pc := 145) dX5_readCompound_145 rfl ?_
                have x1 := (q_122).1.2.2.2.2 1 rfl
                have t_147 := (q_122).1.2.1.told
                refine tz_cV (pc := 147) (c_made hl n _ _ _ _ _ (by omega) (by omega) (by omega) (by omega) m_92 (q_122).1.2.1 (q_122).1.2.2.1 (by rw [x1]; omega) (ltA_of (by omega) (by omega) (by omega))) vl_X5_189 dX5_readCompound_147 o_6 rfl rfl (Nat.le_of_ble_eq_true rfl) ⟨(show 2 + 1 ≤ d9 + 2 by omega), (show 8 + (11 + 11) + 40 * (2) ≤ 40 * (d9 + 2) by omega)⟩ rfl rfl (Nat.le_of_ble_eq_true rfl) (Nat.le_of_ble_eq_true rfl) (fun r9 J_147 hq9 => ?_)
                obtain ⟨z_147, rfl, hz_147, p_147⟩ := hq9
                obtain ⟨m_147, y_147, h_147⟩ := GR.made p_147 (by omega)
                have q_147 := RT.made q_122 y_147
                refine tz_cV (pc := 150) (c_held hl n _ _ (by omega)) vl_X5_180 dX5_readCompound_150 o_163 rfl rfl (Nat.le_of_ble_eq_true rfl) ⟨(show 1 + 1 ≤ d9 + 2 by omega), (show 8 + (2 + 11) + 40 * (1) ≤ 40 * (d9 + 2) by omega)⟩ rfl rfl (Nat.le_of_ble_eq_true rfl) (Nat.le_of_ble_eq_true rfl) (fun r9 J_150 hq9 => ?_)
                obtain ⟨z_150, rfl, hz_150, g_150, d_150, u_150⟩ := hq9
                have q_150 := RT.rn q_147 g_150 (d_150 (q_147).2.1)
                refine tz_goto (pc := 153) (tgt := 157) dX5_readCompound_153 (by decide) ?_
                exact tz_iret (pc := 157) (z := z_150) dX5_readCompound_157 rfl (Nat.le_of_ble_eq_true rfl) (Nat.le_of_ble_eq_true rfl) ⟨Nat.le_refl _, Nat.le_add_right _ _⟩ ⟨_, rfl, (by omega), ⟨m_147, q_150, fun q => by first | exact absurd q v_150 | omega⟩⟩
        · refine tz_iconst (pc := 84) dX5_readCompound_84 ?_
          refine tz_goto (pc := 85) (tgt := 95) dX5_readCompound_85 (by decide) ?_
          refine tz_istore (pc := 95) (L2 := [_, _, _, _, _, _, _]) dX5_readCompound_95 (by decide) rfl ?_
          refine tz_iload_n (pc := 97) dX5_readCompound_97 rfl rfl ?_
          refine tz_iconst (pc := 98) dX5_readCompound_98 ?_
          refine tz_icmp_ge (pc := 99) (tgt := 106) dX5_readCompound_99 (by decide) (by omega) (by decide) (fun h_99 => ?_) (fun h_99 => ?_)
          · refine tz_aload_n (pc := 106) dX5_readCompound_106 rfl rfl ?_
            refine tz_bipush (pc := 107) dX5_readCompound_107 (by decide) ?_
            refine tz_iload_n (pc := 109) dX5_readCompound_109 rfl rfl ?_
            refine tz_cV (pc := 110) (c_readArg hl n _ _ _ (by decide) (by omega) d9 hd9 H m (q_48).1.2.1 (q_48).1.2.2.1 (q_48).2.1) vl_X5_186 dX5_readCompound_110 o_163 rfl rfl (Nat.le_of_ble_eq_true rfl) ⟨(show (d9 + 1) + 1 ≤ d9 + 2 by omega), (show 8 + (3 + 11) + 40 * ((d9 + 1)) ≤ 40 * (d9 + 2) by omega)⟩ rfl rfl (Nat.le_of_ble_eq_true rfl) (Nat.le_of_ble_eq_true rfl) (fun r9 J_110 hq9 => ?_)
            obtain ⟨z_110, rfl, hz_110, m_110, g_110, u_110⟩ := hq9
            have q_110 := RT.tr q_48 g_110
            have f_110 := g_110.2.2
            have l_110 := g_110.1.1
            refine tz_istore (pc := 113) (L2 := [_, _, _, _, _, _, _]) dX5_readCompound_113 (by decide) rfl ?_
            refine tz_iload_n (pc := 115) dX5_readCompound_115 rfl rfl ?_
            refine tz_if_le (pc := 116) (tgt := 125) dX5_readCompound_116 (by decide) (by omega) (fun h_116 => ?_) (fun h_116 => ?_)
            · refine tz_aload_n (pc := 125) dX5_readCompound_125 rfl rfl ?_
              refine tz_fI (pc := 126) (kz := 8) (v := (J_110 163 8)) dX5_readCompound_126 fl_X5_24 i_163_8 rfl rfl (fun r_126 => ?_)
              refine tz_if_ne (pc := 129) (tgt := 156) dX5_readCompound_129 (by decide) (by omega) (fun h_129 => ?_) (fun h_129 => ?_)
              · refine tz_iconst (pc := 156) dX5_readCompound_156 ?_
                exact tz_iret (pc := 157) (z := (-1)) dX5_readCompound_157 rfl (Nat.le_of_ble_eq_true rfl) (Nat.le_of_ble_eq_true rfl) ⟨Nat.le_refl _, Nat.le_add_right _ _⟩ ⟨_, rfl, (by decide), ⟨m_110, q_110, fun q => by first | exact absurd q v_110 | omega⟩⟩
              · refine tz_aload_n (pc := 132) dX5_readCompound_132 rfl rfl ?_
                refine tz_aload_n (pc := 133) dX5_readCompound_133 rfl rfl ?_
                refine tz_fR (pc := 134) dX5_readCompound_134 fl_X5_38 r_163_1 ?_
                refine tz_fR (pc := 137) dX5_readCompound_137 fl_X5_42 r_5_0 ?_
                refine tz_iload_n (pc := 140) dX5_readCompound_140 rfl rfl ?_
                refine tz_iload (pc := 141) dX5_readCompound_141 rfl ?_
                refine tz_iload (pc := 143) dX5_readCompound_143 rfl ?_
                refine tz_iload (pc := 145) dX5_readCompound_145 rfl ?_
                have x1 := (q_110).1.2.2.2.2 1 rfl
                have t_147 := (q_110).1.2.1.told
                refine tz_cV (pc := 147) (c_made hl n _ _ _ _ _ (by omega) (by omega) (by omega) (by omega) m_110 (q_110).1.2.1 (q_110).1.2.2.1 (by rw [x1]; omega) (ltA_of (by omega) (by omega) (by omega))) vl_X5_189 dX5_readCompound_147 o_6 rfl rfl (Nat.le_of_ble_eq_true rfl) ⟨(show 2 + 1 ≤ d9 + 2 by omega), (show 8 + (11 + 11) + 40 * (2) ≤ 40 * (d9 + 2) by omega)⟩ rfl rfl (Nat.le_of_ble_eq_true rfl) (Nat.le_of_ble_eq_true rfl) (fun r9 J_147 hq9 => ?_)
                obtain ⟨z_147, rfl, hz_147, p_147⟩ := hq9
                obtain ⟨m_147, y_147, h_147⟩ := GR.made p_147 (by omega)
                have q_147 := RT.made q_110 y_147
                refine tz_cV (pc := 150) (c_held hl n _ _ (by omega)) vl_X5_180 dX5_readCompound_150 o_163 rfl rfl (Nat.le_of_ble_eq_true rfl) ⟨(show 1 + 1 ≤ d9 + 2 by omega), (show 8 + (2 + 11) + 40 * (1) ≤ 40 * (d9 + 2) by omega)⟩ rfl rfl (Nat.le_of_ble_eq_true rfl) (Nat.le_of_ble_eq_true rfl) (fun r9 J_150 hq9 => ?_)
                obtain ⟨z_150, rfl, hz_150, g_150, d_150, u_150⟩ := hq9
                have q_150 := RT.rn q_147 g_150 (d_150 (q_147).2.1)
                refine tz_goto (pc := 153) (tgt := 157) dX5_readCompound_153 (by decide) ?_
                exact tz_iret (pc := 157) (z := z_150) dX5_readCompound_157 rfl (Nat.le_of_ble_eq_true rfl) (Nat.le_of_ble_eq_true rfl) ⟨Nat.le_refl _, Nat.le_add_right _ _⟩ ⟨_, rfl, (by omega), ⟨m_147, q_150, fun q => by first | exact absurd q v_150 | omega⟩⟩
            · refine tz_aload_n (pc := 119) dX5_readCompound_119 rfl rfl ?_
              refine tz_bipush (pc := 120) dX5_readCompound_120 (by decide) ?_
              have b_122 := (q_110).2.1
              obtain ⟨⟨⟨b1_122, b2_122⟩, b3_122, b4_122⟩, b5_122⟩ := id b_122
              refine tz_cV (pc := 122) (c_pass hl n _ _ (by omega) b_122) vl_X5_116 dX5_readCompound_122 o_163 rfl rfl (Nat.le_of_ble_eq_true rfl) ⟨(show 2 + 1 ≤ d9 + 2 by omega), (show 8 + (2 + 11) + 40 * (2) ≤ 40 * (d9 + 2) by omega)⟩ rfl rfl (Nat.le_of_ble_eq_true rfl) (Nat.le_of_ble_eq_true rfl) (fun r9 J_122 hq9 => ?_)
              obtain ⟨rfl, g_122, d_122⟩ := hq9
              have q_122 := RT.rn q_110 g_122 d_122
              have f_122 := g_122.2.2
              refine tz_aload_n (pc := 125) dX5_readCompound_125 rfl rfl ?_
              refine tz_fI (pc := 126) (kz := 8) (v := (J_122 163 8)) dX5_readCompound_126 fl_X5_24 i_163_8 rfl rfl (fun r_126 => ?_)
              refine tz_if_ne (pc := 129) (tgt := 156) dX5_readCompound_129 (by decide) (by omega) (fun h_129 => ?_) (fun h_129 => ?_)
              · refine tz_iconst (pc := 156) dX5_readCompound_156 ?_
                exact tz_iret (pc := 157) (z := (-1)) dX5_readCompound_157 rfl (Nat.le_of_ble_eq_true rfl) (Nat.le_of_ble_eq_true rfl) ⟨Nat.le_refl _, Nat.le_add_right _ _⟩ ⟨_, rfl, (by decide), ⟨m_110, q_122, fun q => by first | exact absurd q v_122 | omega⟩⟩
              · refine tz_aload_n (pc := 132) dX5_readCompound_132 rfl rfl ?_
                refine tz_aload_n (pc := 133) dX5_readCompound_133 rfl rfl ?_
                refine tz_fR (pc := 134) dX5_readCompound_134 fl_X5_38 r_163_1 ?_
                refine tz_fR (pc := 137) dX5_readCompound_137 fl_X5_42 r_5_0 ?_
                refine tz_iload_n (pc := 140) dX5_readCompound_140 rfl rfl ?_
                refine tz_iload (pc := 141) dX5_readCompound_141 rfl ?_
                refine tz_iload (pc := 143) dX5_readCompound_143 rfl ?_
                refine tz_iload (pc := 145) dX5_readCompound_145 rfl ?_
                have x1 := (q_122).1.2.2.2.2 1 rfl
                have t_147 := (q_122).1.2.1.told
                refine tz_cV (pc := 147) (c_made hl n _ _ _ _ _ (by omega) (by omega) (by omega) (by omega) m_110 (q_122).1.2.1 (q_122).1.2.2.1 (by rw [x1]; omega) (ltA_of (by omega) (by omega) (by omega))) vl_X5_189 dX5_readCompound_147 o_6 rfl rfl (Nat.le_of_ble_eq_true rfl) ⟨(show 2 + 1 ≤ d9 + 2 by omega), (show 8 + (11 + 11) + 40 * (2) ≤ 40 * (d9 + 2) by omega)⟩ rfl rfl (Nat.le_of_ble_eq_true rfl) (Nat.le_of_ble_eq_true rfl) (fun r9 J_147 hq9 => ?_)
                obtain ⟨z_147, rfl, hz_147, p_147⟩ := hq9
                obtain ⟨m_147, y_147, h_147⟩ := GR.made p_147 (by omega)
                have q_147 := RT.made q_122 y_147
                refine tz_cV (pc := 150) (c_held hl n _ _ (by omega)) vl_X5_180 dX5_readCompound_150 o_163 rfl rfl (Nat.le_of_ble_eq_true rfl) ⟨(show 1 + 1 ≤ d9 + 2 by omega), (show 8 + (2 + 11) + 40 * (1) ≤ 40 * (d9 + 2) by omega)⟩ rfl rfl (Nat.le_of_ble_eq_true rfl) (Nat.le_of_ble_eq_true rfl) (fun r9 J_150 hq9 => ?_)
                obtain ⟨z_150, rfl, hz_150, g_150, d_150, u_150⟩ := hq9
                have q_150 := RT.rn q_147 g_150 (d_150 (q_147).2.1)
                refine tz_goto (pc := 153) (tgt := 157) dX5_readCompound_153 (by decide) ?_
                exact tz_iret (pc := 157) (z := z_150) dX5_readCompound_157 rfl (Nat.le_of_ble_eq_true rfl) (Nat.le_of_ble_eq_true rfl) ⟨Nat.le_refl _, Nat.le_add_right _ _⟩ ⟨_, rfl, (by omega), ⟨m_147, q_150, fun q => by first | exact absurd q v_150 | omega⟩⟩
          · refine tz_iconst (pc := 102) dX5_readCompound_102 ?_
            refine tz_goto (pc := 103) (tgt := 113) dX5_readCompound_103 (by decide) ?_
            refine tz_istore (pc := 113) (L2 := [_, _, _, _, _, _, _]) dX5_readCompound_113 (by decide) rfl ?_
            refine tz_iload_n (pc := 115) dX5_readCompound_115 rfl rfl ?_
            refine tz_if_le (pc := 116) (tgt := 125) dX5_readCompound_116 (by decide) (by omega) (fun h_116 => ?_) (fun h_116 => ?_)
            · refine tz_aload_n (pc := 125) dX5_readCompound_125 rfl rfl ?_
              refine tz_fI (pc := 126) (kz := 8) (v := (J_48 163 8)) dX5_readCompound_126 fl_X5_24 i_163_8 rfl rfl (fun r_126 => ?_)
              refine tz_if_ne (pc := 129) (tgt := 156) dX5_readCompound_129 (by decide) (by omega) (fun h_129 => ?_) (fun h_129 => ?_)
              · refine tz_iconst (pc := 156) dX5_readCompound_156 ?_
                exact tz_iret (pc := 157) (z := (-1)) dX5_readCompound_157 rfl (Nat.le_of_ble_eq_true rfl) (Nat.le_of_ble_eq_true rfl) ⟨Nat.le_refl _, Nat.le_add_right _ _⟩ ⟨_, rfl, (by decide), ⟨m, q_48, fun q => by first | exact absurd q v_48 | omega⟩⟩
              · refine tz_aload_n (pc := 132) dX5_readCompound_132 rfl rfl ?_
                refine tz_aload_n (pc := 133) dX5_readCompound_133 rfl rfl ?_
                refine tz_fR (pc := 134) dX5_readCompound_134 fl_X5_38 r_163_1 ?_
                refine tz_fR (pc := 137) dX5_readCompound_137 fl_X5_42 r_5_0 ?_
                refine tz_iload_n (pc := 140) dX5_readCompound_140 rfl rfl ?_
                refine tz_iload (pc := 141) dX5_readCompound_141 rfl ?_
                refine tz_iload (pc := 143) dX5_readCompound_143 rfl ?_
                refine tz_iload (pc := 145) dX5_readCompound_145 rfl ?_
                have x1 := (q_48).1.2.2.2.2 1 rfl
                have t_147 := (q_48).1.2.1.told
                refine tz_cV (pc := 147) (c_made hl n _ _ _ _ _ (by omega) (by omega) (by omega) (by omega) m (q_48).1.2.1 (q_48).1.2.2.1 (by rw [x1]; omega) (ltA_of (by omega) (by omega) (by omega))) vl_X5_189 dX5_readCompound_147 o_6 rfl rfl (Nat.le_of_ble_eq_true rfl) ⟨(show 2 + 1 ≤ d9 + 2 by omega), (show 8 + (11 + 11) + 40 * (2) ≤ 40 * (d9 + 2) by omega)⟩ rfl rfl (Nat.le_of_ble_eq_true rfl) (Nat.le_of_ble_eq_true rfl) (fun r9 J_147 hq9 => ?_)
                obtain ⟨z_147, rfl, hz_147, p_147⟩ := hq9
                obtain ⟨m_147, y_147, h_147⟩ := GR.made p_147 (by omega)
                have q_147 := RT.made q_48 y_147
                refine tz_cV (pc := 150) (c_held hl n _ _ (by omega)) vl_X5_180 dX5_readCompound_150 o_163 rfl rfl (Nat.le_of_ble_eq_true rfl) ⟨(show 1 + 1 ≤ d9 + 2 by omega), (show 8 + (2 + 11) + 40 * (1) ≤ 40 * (d9 + 2) by omega)⟩ rfl rfl (Nat.le_of_ble_eq_true rfl) (Nat.le_of_ble_eq_true rfl) (fun r9 J_150 hq9 => ?_)
                obtain ⟨z_150, rfl, hz_150, g_150, d_150, u_150⟩ := hq9
                have q_150 := RT.rn q_147 g_150 (d_150 (q_147).2.1)
                refine tz_goto (pc := 153) (tgt := 157) dX5_readCompound_153 (by decide) ?_
                exact tz_iret (pc := 157) (z := z_150) dX5_readCompound_157 rfl (Nat.le_of_ble_eq_true rfl) (Nat.le_of_ble_eq_true rfl) ⟨Nat.le_refl _, Nat.le_add_right _ _⟩ ⟨_, rfl, (by omega), ⟨m_147, q_150, fun q => by first | exact absurd q v_150 | omega⟩⟩
            · refine tz_aload_n (pc := 119) dX5_readCompound_119 rfl rfl ?_
              refine tz_bipush (pc := 120) dX5_readCompound_120 (by decide) ?_
              have b_122 := (q_48).2.1
              obtain ⟨⟨⟨b1_122, b2_122⟩, b3_122, b4_122⟩, b5_122⟩ := id b_122
              refine tz_cV (pc := 122) (c_pass hl n _ _ (by omega) b_122) vl_X5_116 dX5_readCompound_122 o_163 rfl rfl (Nat.le_of_ble_eq_true rfl) ⟨(show 2 + 1 ≤ d9 + 2 by omega), (show 8 + (2 + 11) + 40 * (2) ≤ 40 * (d9 + 2) by omega)⟩ rfl rfl (Nat.le_of_ble_eq_true rfl) (Nat.le_of_ble_eq_true rfl) (fun r9 J_122 hq9 => ?_)
              obtain ⟨rfl, g_122, d_122⟩ := hq9
              have q_122 := RT.rn q_48 g_122 d_122
              have f_122 := g_122.2.2
              refine tz_aload_n (pc := 125) dX5_readCompound_125 rfl rfl ?_
              refine tz_fI (pc := 126) (kz := 8) (v := (J_122 163 8)) dX5_readCompound_126 fl_X5_24 i_163_8 rfl rfl (fun r_126 => ?_)
              refine tz_if_ne (pc := 129) (tgt := 156) dX5_readCompound_129 (by decide) (by omega) (fun h_129 => ?_) (fun h_129 => ?_)
              · refine tz_iconst (pc := 156) dX5_readCompound_156 ?_
                exact tz_iret (pc := 157) (z := (-1)) dX5_readCompound_157 rfl (Nat.le_of_ble_eq_true rfl) (Nat.le_of_ble_eq_true rfl) ⟨Nat.le_refl _, Nat.le_add_right _ _⟩ ⟨_, rfl, (by decide), ⟨m, q_122, fun q => by first | exact absurd q v_122 | omega⟩⟩
              · refine tz_aload_n (pc := 132) dX5_readCompound_132 rfl rfl ?_
                refine tz_aload_n (pc := 133) dX5_readCompound_133 rfl rfl ?_
                refine tz_fR (pc := 134) dX5_readCompound_134 fl_X5_38 r_163_1 ?_
                refine tz_fR (pc := 137) dX5_readCompound_137 fl_X5_42 r_5_0 ?_
                refine tz_iload_n (pc := 140) dX5_readCompound_140 rfl rfl ?_
                refine tz_iload (pc := 141) dX5_readCompound_141 rfl ?_
                refine tz_iload (pc := 143) dX5_readCompound_143 rfl ?_
                refine tz_iload (pc := 145) dX5_readCompound_145 rfl ?_
                have x1 := (q_122).1.2.2.2.2 1 rfl
                have t_147 := (q_122).1.2.1.told
                refine tz_cV (pc := 147) (c_made hl n _ _ _ _ _ (by omega) (by omega) (by omega) (by omega) m (q_122).1.2.1 (q_122).1.2.2.1 (by rw [x1]; omega) (ltA_of (by omega) (by omega) (by omega))) vl_X5_189 dX5_readCompound_147 o_6 rfl rfl (Nat.le_of_ble_eq_true rfl) ⟨(show 2 + 1 ≤ d9 + 2 by omega), (show 8 + (11 + 11) + 40 * (2) ≤ 40 * (d9 + 2) by omega)⟩ rfl rfl (Nat.le_of_ble_eq_true rfl) (Nat.le_of_ble_eq_true rfl) (fun r9 J_147 hq9 => ?_)
                obtain ⟨z_147, rfl, hz_147, p_147⟩ := hq9
                obtain ⟨m_147, y_147, h_147⟩ := GR.made p_147 (by omega)
                have q_147 := RT.made q_122 y_147
                refine tz_cV (pc := 150) (c_held hl n _ _ (by omega)) vl_X5_180 dX5_readCompound_150 o_163 rfl rfl (Nat.le_of_ble_eq_true rfl) ⟨(show 1 + 1 ≤ d9 + 2 by omega), (show 8 + (2 + 11) + 40 * (1) ≤ 40 * (d9 + 2) by omega)⟩ rfl rfl (Nat.le_of_ble_eq_true rfl) (Nat.le_of_ble_eq_true rfl) (fun r9 J_150 hq9 => ?_)
                obtain ⟨z_150, rfl, hz_150, g_150, d_150, u_150⟩ := hq9
                have q_150 := RT.rn q_147 g_150 (d_150 (q_147).2.1)
                refine tz_goto (pc := 153) (tgt := 157) dX5_readCompound_153 (by decide) ?_
                exact tz_iret (pc := 157) (z := z_150) dX5_readCompound_157 rfl (Nat.le_of_ble_eq_true rfl) (Nat.le_of_ble_eq_true rfl) ⟨Nat.le_refl _, Nat.le_add_right _ _⟩ ⟨_, rfl, (by omega), ⟨m_147, q_150, fun q => by first | exact absurd q v_150 | omega⟩⟩
    · refine tz_aload_n (pc := 41) dX5_readCompound_41 rfl rfl ?_
      refine tz_iconst (pc := 42) dX5_readCompound_42 ?_
      refine tz_cV (pc := 43) (c_fail hl n _ _ (by decide) (by decide)) vl_X5_97 dX5_readCompound_43 o_163 rfl rfl (Nat.le_of_ble_eq_true rfl) ⟨(show 0 + 1 ≤ d9 + 2 by omega), (show 8 + (2 + 11) + 40 * (0) ≤ 40 * (d9 + 2) by omega)⟩ rfl rfl (Nat.le_of_ble_eq_true rfl) (Nat.le_of_ble_eq_true rfl) (fun r9 J_43 hq9 => ?_)
      obtain ⟨z_43, rfl, hz_43, g_43, d_43, e_43, v_43⟩ := hq9
      have q_43 := RT.rn g0 g_43 (d_43 (g0).2.1)
      exact tz_iret (pc := 46) (z := z_43) dX5_readCompound_46 rfl (Nat.le_of_ble_eq_true rfl) (Nat.le_of_ble_eq_true rfl) ⟨Nat.le_refl _, Nat.le_add_right _ _⟩ ⟨_, rfl, (by omega), ⟨m, q_43, fun q => by first | exact absurd q v_43 | omega⟩⟩
  · refine tz_aload_n (pc := 13) dX5_readCompound_13 rfl rfl ?_
    refine tz_iconst (pc := 14) dX5_readCompound_14 ?_
    refine tz_cV (pc := 15) (c_fail hl n _ _ (by decide) (by decide)) vl_X5_97 dX5_readCompound_15 o_163 rfl rfl (Nat.le_of_ble_eq_true rfl) ⟨(show 0 + 1 ≤ d9 + 2 by omega), (show 8 + (2 + 11) + 40 * (0) ≤ 40 * (d9 + 2) by omega)⟩ rfl rfl (Nat.le_of_ble_eq_true rfl) (Nat.le_of_ble_eq_true rfl) (fun r9 J_15 hq9 => ?_)
    obtain ⟨z_15, rfl, hz_15, g_15, d_15, e_15, v_15⟩ := hq9
    have q_15 := RT.rn g0 g_15 (d_15 (g0).2.1)
    exact tz_iret (pc := 18) (z := z_15) dX5_readCompound_18 rfl (Nat.le_of_ble_eq_true rfl) (Nat.le_of_ble_eq_true rfl) ⟨Nat.le_refl _, Nat.le_add_right _ _⟩ ⟨_, rfl, (by omega), ⟨m, q_15, fun q => by first | exact absurd q v_15 | omega⟩⟩

set_option maxHeartbeats 4000000 in
set_option maxRecDepth 100000 in
theorem c_readTermR {l : Launch} {G : tb_G} (hl : l.stackTraces = false) (n : Nat) : ∀ (r9 : Nat) (J : zJ) (dp : Int) (hr_dp : -2147483648 ≤ dp ∧ dp < 2147483648) (m : Int) (C : CT J m) (hm : J 6 12 = m) (hD : RD2 J), ((7 - dp).toNat) < r9 → tz_Ok l G M_X5_readTerm (10 + 3 * r9) 0 0 [.ref 163, zi dp] n J (zqi (fun z J' => ∃ m', RT J' J m m' ∧ (J' 163 8 = 0 → 0 ≤ z ∧ z < m'))) zN := by
  intro r9
  induction r9 with
  | zero => intro J dp hr_dp m C hm hD hm9; exact absurd hm9 (Nat.not_lt_zero _)
  | succ r9 ih =>
    intro J dp hr_dp m C hm hD hm9
    refine tz_Ok.of hl (by decide +kernel) rfl (tb_c1 rfl) (Nat.le_of_ble_eq_true rfl) ?_
    show tz_At l G M_X5_readTerm (tb_rm (10 + 3 * (r9 + 1)) 0 0) none (tb_ZM G 0 0 (zQ n 0 (zqi (fun z J' => ∃ m', RT J' J m m' ∧ (J' 163 8 = 0 → 0 ≤ z ∧ z < m')))) (zX n 0 zN)) 0 0 n J 0 [some (.ref 163), some (zi dp)] []
    have g0 : RT J J m m := RT.rf C hm hD
    obtain ⟨⟨⟨hD1, hD2⟩, hD3, hD4⟩, hD5⟩ := id hD
    refine tz_aload_n (pc := 0) dX5_readTerm_0 rfl rfl ?_
    refine tz_fI (pc := 1) (kz := 8) (v := (J 163 8)) dX5_readTerm_1 fl_X5_24 i_163_8 rfl rfl (fun r_1 => ?_)
    refine tz_if_eq (pc := 4) (tgt := 9) dX5_readTerm_4 (by decide) (by omega) (fun h_4 => ?_) (fun h_4 => ?_)
    · refine tz_aload_n (pc := 9) dX5_readTerm_9 rfl rfl ?_
      refine tz_fI (pc := 10) (kz := 5) (v := (J 163 5)) dX5_readTerm_10 fl_X5_15 i_163_5 rfl rfl (fun r_10 => ?_)
      refine tz_bipush (pc := 13) dX5_readTerm_13 (by decide) ?_
      refine tz_icmp_eq (pc := 15) (tgt := 32) dX5_readTerm_15 (by decide) (by omega) (by decide) (fun h_15 => ?_) (fun h_15 => ?_)
      · refine tz_iload_n (pc := 32) dX5_readTerm_32 rfl rfl ?_
        refine tz_bipush (pc := 33) dX5_readTerm_33 (by decide) ?_
        refine tz_icmp_le (pc := 35) (tgt := 44) dX5_readTerm_35 (by decide) (by omega) (by decide) (fun h_35 => ?_) (fun h_35 => ?_)
        · refine tz_aload_n (pc := 44) dX5_readTerm_44 rfl rfl ?_
          refine tz_fI (pc := 45) (kz := 5) (v := (J 163 5)) dX5_readTerm_45 fl_X5_15 i_163_5 rfl rfl (fun r_45 => ?_)
          refine tz_bipush (pc := 48) dX5_readTerm_48 (by decide) ?_
          refine tz_icmp_ne (pc := 50) (tgt := 60) dX5_readTerm_50 (by decide) (by omega) (by decide) (fun h_50 => ?_) (fun h_50 => ?_)
          · refine tz_aload_n (pc := 60) dX5_readTerm_60 rfl rfl ?_
            refine tz_iload_n (pc := 61) dX5_readTerm_61 rfl rfl ?_
            refine tz_cV (pc := 62) (c_readComp hl n _ _ (by omega) (10 + 3 * r9) (by omega) (fun J m a b c => ih J _ (by omega) m a b c (by omega)) m C hm hD (by omega)) vl_X5_174 dX5_readTerm_62 o_163 rfl rfl (Nat.le_of_ble_eq_true rfl) ⟨(show (10 + 3 * r9 + 2) + 1 ≤ 10 + 3 * (r9 + 1) by omega), (show 8 + (7 + 11) + 40 * ((10 + 3 * r9 + 2)) ≤ 40 * (10 + 3 * (r9 + 1)) by omega)⟩ rfl rfl (Nat.le_of_ble_eq_true rfl) (Nat.le_of_ble_eq_true rfl) (fun r9 J_62 hq9 => ?_)
            obtain ⟨z_62, rfl, hz_62, m_62, q_62, u_62⟩ := hq9
            exact tz_iret (pc := 65) (z := z_62) dX5_readTerm_65 rfl (Nat.le_of_ble_eq_true rfl) (Nat.le_of_ble_eq_true rfl) ⟨Nat.le_refl _, Nat.le_add_right _ _⟩ ⟨_, rfl, (by omega), ⟨m_62, q_62, u_62⟩⟩
          · refine tz_aload_n (pc := 53) dX5_readTerm_53 rfl rfl ?_
            refine tz_cV (pc := 54) (c_readVar hl n _ m C hm hD) vl_X5_171 dX5_readTerm_54 o_163 rfl rfl (Nat.le_of_ble_eq_true rfl) ⟨(show 4 + 1 ≤ 10 + 3 * (r9 + 1) by omega), (show 8 + (2 + 11) + 40 * (4) ≤ 40 * (10 + 3 * (r9 + 1)) by omega)⟩ rfl rfl (Nat.le_of_ble_eq_true rfl) (Nat.le_of_ble_eq_true rfl) (fun r9 J_54 hq9 => ?_)
            obtain ⟨z_54, rfl, hz_54, m_54, q_54, u_54⟩ := hq9
            refine tz_goto (pc := 57) (tgt := 65) dX5_readTerm_57 (by decide) ?_
            exact tz_iret (pc := 65) (z := z_54) dX5_readTerm_65 rfl (Nat.le_of_ble_eq_true rfl) (Nat.le_of_ble_eq_true rfl) ⟨Nat.le_refl _, Nat.le_add_right _ _⟩ ⟨_, rfl, (by omega), ⟨m_54, q_54, u_54⟩⟩
        · refine tz_aload_n (pc := 38) dX5_readTerm_38 rfl rfl ?_
          refine tz_iconst (pc := 39) dX5_readTerm_39 ?_
          refine tz_cV (pc := 40) (c_fail hl n _ _ (by decide) (by decide)) vl_X5_97 dX5_readTerm_40 o_163 rfl rfl (Nat.le_of_ble_eq_true rfl) ⟨(show 0 + 1 ≤ 10 + 3 * (r9 + 1) by omega), (show 8 + (2 + 11) + 40 * (0) ≤ 40 * (10 + 3 * (r9 + 1)) by omega)⟩ rfl rfl (Nat.le_of_ble_eq_true rfl) (Nat.le_of_ble_eq_true rfl) (fun r9 J_40 hq9 => ?_)
          obtain ⟨z_40, rfl, hz_40, g_40, d_40, e_40, v_40⟩ := hq9
          have q_40 := RT.rn g0 g_40 (d_40 (g0).2.1)
          exact tz_iret (pc := 43) (z := z_40) dX5_readTerm_43 rfl (Nat.le_of_ble_eq_true rfl) (Nat.le_of_ble_eq_true rfl) ⟨Nat.le_refl _, Nat.le_add_right _ _⟩ ⟨_, rfl, (by omega), ⟨m, q_40, fun q => by first | exact absurd q v_40 | omega⟩⟩
      · refine tz_aload_n (pc := 18) dX5_readTerm_18 rfl rfl ?_
        refine tz_fI (pc := 19) (kz := 5) (v := (J 163 5)) dX5_readTerm_19 fl_X5_15 i_163_5 rfl rfl (fun r_19 => ?_)
        refine tz_iconst (pc := 22) dX5_readTerm_22 ?_
        refine tz_icmp_eq (pc := 23) (tgt := 32) dX5_readTerm_23 (by decide) (by omega) (by decide) (fun h_23 => ?_) (fun h_23 => ?_)
        · refine tz_iload_n (pc := 32) dX5_readTerm_32 rfl rfl ?_
          refine tz_bipush (pc := 33) dX5_readTerm_33 (by decide) ?_
          refine tz_icmp_le (pc := 35) (tgt := 44) dX5_readTerm_35 (by decide) (by omega) (by decide) (fun h_35 => ?_) (fun h_35 => ?_)
          · refine tz_aload_n (pc := 44) dX5_readTerm_44 rfl rfl ?_
            refine tz_fI (pc := 45) (kz := 5) (v := (J 163 5)) dX5_readTerm_45 fl_X5_15 i_163_5 rfl rfl (fun r_45 => ?_)
            refine tz_bipush (pc := 48) dX5_readTerm_48 (by decide) ?_
            refine tz_icmp_ne (pc := 50) (tgt := 60) dX5_readTerm_50 (by decide) (by omega) (by decide) (fun h_50 => ?_) (fun h_50 => ?_)
            · refine tz_aload_n (pc := 60) dX5_readTerm_60 rfl rfl ?_
              refine tz_iload_n (pc := 61) dX5_readTerm_61 rfl rfl ?_
              refine tz_cV (pc := 62) (c_readComp hl n _ _ (by omega) (10 + 3 * r9) (by omega) (fun J m a b c => ih J _ (by omega) m a b c (by omega)) m C hm hD (by omega)) vl_X5_174 dX5_readTerm_62 o_163 rfl rfl (Nat.le_of_ble_eq_true rfl) ⟨(show (10 + 3 * r9 + 2) + 1 ≤ 10 + 3 * (r9 + 1) by omega), (show 8 + (7 + 11) + 40 * ((10 + 3 * r9 + 2)) ≤ 40 * (10 + 3 * (r9 + 1)) by omega)⟩ rfl rfl (Nat.le_of_ble_eq_true rfl) (Nat.le_of_ble_eq_true rfl) (fun r9 J_62 hq9 => ?_)
              obtain ⟨z_62, rfl, hz_62, m_62, q_62, u_62⟩ := hq9
              exact tz_iret (pc := 65) (z := z_62) dX5_readTerm_65 rfl (Nat.le_of_ble_eq_true rfl) (Nat.le_of_ble_eq_true rfl) ⟨Nat.le_refl _, Nat.le_add_right _ _⟩ ⟨_, rfl, (by omega), ⟨m_62, q_62, u_62⟩⟩
            · refine tz_aload_n (pc := 53) dX5_readTerm_53 rfl rfl ?_
              refine tz_cV (pc := 54) (c_readVar hl n _ m C hm hD) vl_X5_171 dX5_readTerm_54 o_163 rfl rfl (Nat.le_of_ble_eq_true rfl) ⟨(show 4 + 1 ≤ 10 + 3 * (r9 + 1) by omega), (show 8 + (2 + 11) + 40 * (4) ≤ 40 * (10 + 3 * (r9 + 1)) by omega)⟩ rfl rfl (Nat.le_of_ble_eq_true rfl) (Nat.le_of_ble_eq_true rfl) (fun r9 J_54 hq9 => ?_)
              obtain ⟨z_54, rfl, hz_54, m_54, q_54, u_54⟩ := hq9
              refine tz_goto (pc := 57) (tgt := 65) dX5_readTerm_57 (by decide) ?_
              exact tz_iret (pc := 65) (z := z_54) dX5_readTerm_65 rfl (Nat.le_of_ble_eq_true rfl) (Nat.le_of_ble_eq_true rfl) ⟨Nat.le_refl _, Nat.le_add_right _ _⟩ ⟨_, rfl, (by omega), ⟨m_54, q_54, u_54⟩⟩
          · refine tz_aload_n (pc := 38) dX5_readTerm_38 rfl rfl ?_
            refine tz_iconst (pc := 39) dX5_readTerm_39 ?_
            refine tz_cV (pc := 40) (c_fail hl n _ _ (by decide) (by decide)) vl_X5_97 dX5_readTerm_40 o_163 rfl rfl (Nat.le_of_ble_eq_true rfl) ⟨(show 0 + 1 ≤ 10 + 3 * (r9 + 1) by omega), (show 8 + (2 + 11) + 40 * (0) ≤ 40 * (10 + 3 * (r9 + 1)) by omega)⟩ rfl rfl (Nat.le_of_ble_eq_true rfl) (Nat.le_of_ble_eq_true rfl) (fun r9 J_40 hq9 => ?_)
            obtain ⟨z_40, rfl, hz_40, g_40, d_40, e_40, v_40⟩ := hq9
            have q_40 := RT.rn g0 g_40 (d_40 (g0).2.1)
            exact tz_iret (pc := 43) (z := z_40) dX5_readTerm_43 rfl (Nat.le_of_ble_eq_true rfl) (Nat.le_of_ble_eq_true rfl) ⟨Nat.le_refl _, Nat.le_add_right _ _⟩ ⟨_, rfl, (by omega), ⟨m, q_40, fun q => by first | exact absurd q v_40 | omega⟩⟩
        · refine tz_aload_n (pc := 26) dX5_readTerm_26 rfl rfl ?_
          refine tz_iconst (pc := 27) dX5_readTerm_27 ?_
          refine tz_cV (pc := 28) (c_fail hl n _ _ (by decide) (by decide)) vl_X5_97 dX5_readTerm_28 o_163 rfl rfl (Nat.le_of_ble_eq_true rfl) ⟨(show 0 + 1 ≤ 10 + 3 * (r9 + 1) by omega), (show 8 + (2 + 11) + 40 * (0) ≤ 40 * (10 + 3 * (r9 + 1)) by omega)⟩ rfl rfl (Nat.le_of_ble_eq_true rfl) (Nat.le_of_ble_eq_true rfl) (fun r9 J_28 hq9 => ?_)
          obtain ⟨z_28, rfl, hz_28, g_28, d_28, e_28, v_28⟩ := hq9
          have q_28 := RT.rn g0 g_28 (d_28 (g0).2.1)
          exact tz_iret (pc := 31) (z := z_28) dX5_readTerm_31 rfl (Nat.le_of_ble_eq_true rfl) (Nat.le_of_ble_eq_true rfl) ⟨Nat.le_refl _, Nat.le_add_right _ _⟩ ⟨_, rfl, (by omega), ⟨m, q_28, fun q => by first | exact absurd q v_28 | omega⟩⟩
    · refine tz_iconst (pc := 7) dX5_readTerm_7 ?_
      exact tz_iret (pc := 8) (z := (-1)) dX5_readTerm_8 rfl (Nat.le_of_ble_eq_true rfl) (Nat.le_of_ble_eq_true rfl) ⟨Nat.le_refl _, Nat.le_add_right _ _⟩ ⟨_, rfl, (by decide), ⟨m, g0, fun q => by omega⟩⟩
