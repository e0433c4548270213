/-! ===== the class follows the reading: compound terms ===== -/
/-- a term that begins with a word -/
noncomputable def pK (T : zJ → Int → zJ × Int) (g : zJ) (d : Int) : zJ × Int := if g 0 2 = g 0 1 + 1 then (if psy g (g 1 (g 0 1)) < g 164 44 then pC T (pN g) (psy g (g 1 (g 0 1))) d else (pF g 3, 0)) else (pF g 2, 0)
theorem pC_x {T : zJ → Int → zJ × Int} {g : zJ} {s d : Int} : pC T g s d = pMx (pA4 T g (g 170 (10 + s)) d) s (pA1 T g (g 170 (10 + s)) d).2 (pA2 T g (g 170 (10 + s)) d).2 (pA3 T g (g 170 (10 + s)) d).2 := rfl
theorem pK_2 {T : zJ → Int → zJ × Int} {d : Int} {J g : zJ} (h : XC J g) (q : g 0 4 = 0) (h0 : J 163 8 = 0) (hn : 1 < J 163 7 - J 163 6) : pK T g d = (pFx g 2, 0) := by
  unfold pK pFx
  rcases h.k h0 with p | ⟨_, e3, e2, e1, e, _⟩
  · omega
  · rw [if_pos q, if_neg (by omega)]
theorem pK_4 {T : zJ → Int → zJ × Int} {d : Int} {J g : zJ} {z : Int} (h : XC J g) (hS : SI g) (q : g 0 4 = 0) (h0 : J 163 8 = 0) (hk : ¬ J 163 5 = 0) (hn : ¬ 1 < J 163 7 - J 163 6) (h1 : 0 ≤ J 1 3) (dj : (0 ≤ z ∧ z < J 1 3 ∧ J 2 z = J 162 (J 163 6) ∧ ∀ i, 0 ≤ i → i < z → ¬ J 2 i = J 162 (J 163 6)) ∨ (z = -1 ∧ ∀ i, 0 ≤ i → i < J 1 3 → ¬ J 2 i = J 162 (J 163 6))) : (z = -1 → pK T g d = (pFx g 3, 0)) ∧ (¬ z = -1 → pK T g d = pMx (pA4 T (pNx g) (J 3 z) d) z (pA1 T (pNx g) (J 3 z) d).2 (pA2 T (pNx g) (J 3 z) d).2 (pA3 T (pNx g) (J 3 z) d).2) := by
  have v := h.w hS h0 hk
  have nx9 : pNx g = pN g := by unfold pNx; rw [if_pos q]
  rw [nx9]
  unfold pK pFx
  rcases h.k h0 with p | ⟨_, e3, e2, e1, e, E⟩
  · omega
  · have s := E.2.2.2.sy h1 dj
    rw [if_pos q, if_pos (by omega), e1, e]
    refine ⟨fun k => ?_, fun k => ?_⟩
    · rw [if_neg (by omega)]
    · rcases s with ⟨a, b, c⟩ | ⟨a, b⟩
      · have e3 : J 3 z = pN g 170 (10 + z) := (E.2.2.2.1.2 z a b).2.1.trans (congrFun (pN_c (g := g) (c := 170) (by decide)).symm _)
        rw [if_pos (by omega), c, pC_x, e3]
      · omega
theorem pT_k {k : Nat} {g : zJ} {d : Int} (h : g 0 4 = 0) (h3 : g 0 3 = 2) (hd : d ≤ 6) : pT (k + 1) g d = pK (pT k) g d := by
  rw [pT_s, if_pos h, if_neg (by omega), if_pos h3]
  unfold pK
  by_cases e : g 0 2 = g 0 1 + 1
  · rw [if_pos ⟨hd, e⟩, if_pos e]
  · rw [if_neg (fun q => e q.2), if_neg e]
set_option maxHeartbeats 4000000 in
set_option maxRecDepth 100000 in
theorem w_readArg {l : Launch} {G : tb_G} (hl : l.stackTraces = false) (n : Nat) (J : zJ) (k : Int) (dp : Int) (hr_k : -2147483648 ≤ k ∧ k < 2147483648) (hr_dp : -2147483648 ≤ dp ∧ dp < 2147483648) (T : zJ → Int → zJ × Int) (hT : ∀ g d, SI g → SI (T g d).1) (hF : ∀ g d, ¬ g 0 4 = 0 → T g d = (g, 0)) (d9 : Nat) (hd9 : 9 ≤ d9) (H : ∀ (J : zJ) (m : Int) (g : zJ) (C : CT J m) (hm : J 6 12 = m) (hD : RD2 J) (hX : XC J g) (hS : SI g), tz_Ok l G M_X5_readTerm d9 0 0 [.ref 163, zi (dp + 1)] n J (zqi (fun z J' => ∃ m', RT J' J m m' ∧ (J' 163 8 = 0 → 0 ≤ z ∧ z < m') ∧ XC J' (T g (dp + 1)).1 ∧ VQ z (T g (dp + 1)))) zN) (m : Int) (g : zJ) (C : CT J m) (hm : J 6 12 = m) (hD : RD2 J) (hX : XC J g) (hS : SI g) : tz_Ok l G M_X5_readArgument (d9 + 1) 0 0 [.ref 163, zi k, zi dp] n J (zqi (fun z J' => ∃ m', RT J' J m m' ∧ (J' 163 8 = 0 → 0 ≤ z ∧ z < m') ∧ XC J' (T (pP g k) (dp + 1)).1 ∧ VQ z (T (pP g k) (dp + 1)))) zN := by
  refine tz_Ok.of hl (by decide +kernel) rfl (tb_c1 rfl) (Nat.le_of_ble_eq_true rfl) ?_
  show tz_At l G M_X5_readArgument (tb_rm (d9 + 1) 0 0) none (tb_ZM G 0 0 (zQ n 0 (zqi (fun z J' => ∃ m', RT J' J m m' ∧ (J' 163 8 = 0 → 0 ≤ z ∧ z < m') ∧ XC J' (T (pP g k) (dp + 1)).1 ∧ VQ z (T (pP g k) (dp + 1))))) (zX n 0 zN)) 0 0 n J 0 [some (.ref 163), some (zi k), some (zi dp)] []
  have g0 : RT J J m m := RT.rf C hm hD
  refine tz_aload_n (pc := 0) dX5_readArgument_0 rfl rfl ?_
  refine tz_iload_n (pc := 1) dX5_readArgument_1 rfl rfl ?_
  have b_2 := (g0).2.1
  obtain ⟨⟨⟨b1_2, b2_2⟩, b3_2, b4_2⟩, b5_2⟩ := id b_2
  refine tz_cV (pc := 2) (w_pass hl n _ _ (by omega) g b_2 hX hS) vl_X5_116 dX5_readArgument_2 o_163 rfl rfl (Nat.le_of_ble_eq_true rfl) ⟨(show 2 + 1 ≤ d9 + 1 by omega), (show 8 + (2 + 11) + 40 * (2) ≤ 40 * (d9 + 1) by omega)⟩ rfl rfl (Nat.le_of_ble_eq_true rfl) (Nat.le_of_ble_eq_true rfl) (fun r9 J_2 hq9 => ?_)
  obtain ⟨rfl, g_2, d_2, x_2⟩ := hq9
  have q_2 := RT.rn g0 g_2 d_2
  have f_2 := g_2.2.2
  refine tz_aload_n (pc := 5) dX5_readArgument_5 rfl rfl ?_
  refine tz_iload_n (pc := 6) dX5_readArgument_6 rfl rfl ?_
  refine tz_iconst (pc := 7) dX5_readArgument_7 ?_
  refine tz_iadd (pc := 8) (v := dp + 1) dX5_readArgument_8 rfl ?_
  refine tz_cV (pc := 9) (H _ m (pP g k) (q_2).1.2.1 (q_2).1.2.2.1 (q_2).2.1 x_2 (SI.p hS)) vl_X5_113 dX5_readArgument_9 o_163 rfl rfl (Nat.le_of_ble_eq_true rfl) ⟨(show d9 + 1 ≤ d9 + 1 by omega), (show 8 + (2 + 11) + 40 * (d9) ≤ 40 * (d9 + 1) by omega)⟩ rfl rfl (Nat.le_of_ble_eq_true rfl) (Nat.le_of_ble_eq_true rfl) (fun r9 J_9 hq9 => ?_)
  obtain ⟨z_9, rfl, hz_9, m_9, g_9, u_9, x_9, y_9⟩ := hq9
  have q_9 := RT.tr q_2 g_9
  have f_9 := g_9.2.2
  exact tz_iret (pc := 12) (z := z_9) dX5_readArgument_12 rfl (Nat.le_of_ble_eq_true rfl) (Nat.le_of_ble_eq_true rfl) ⟨Nat.le_refl _, Nat.le_add_right _ _⟩ ⟨_, rfl, (by omega), ⟨m_9, q_9, u_9, x_9, y_9⟩⟩

set_option maxHeartbeats 4000000 in
set_option maxRecDepth 100000 in
theorem w_readComp {l : Launch} {G : tb_G} (hl : l.stackTraces = false) (n : Nat) (J : zJ) (dp : Int) (hr_dp : -2147483648 ≤ dp ∧ dp < 2147483648) (T : zJ → Int → zJ × Int) (hT : ∀ g d, SI g → SI (T g d).1) (hF : ∀ g d, ¬ g 0 4 = 0 → T g d = (g, 0)) (d9 : Nat) (hd9 : 9 ≤ d9) (H : ∀ (J : zJ) (m : Int) (g : zJ) (C : CT J m) (hm : J 6 12 = m) (hD : RD2 J) (hX : XC J g) (hS : SI g), tz_Ok l G M_X5_readTerm d9 0 0 [.ref 163, zi (dp + 1)] n J (zqi (fun z J' => ∃ m', RT J' J m m' ∧ (J' 163 8 = 0 → 0 ≤ z ∧ z < m') ∧ XC J' (T g (dp + 1)).1 ∧ VQ z (T g (dp + 1)))) zN) (m : Int) (g : zJ) (C : CT J m) (hm : J 6 12 = m) (hD : RD2 J) (hX : XC J g) (hS : SI g) (h9 : g 0 4 = 0) (hk : J 163 6 < J 163 4) (hk5 : ¬ J 163 5 = 0) : tz_Ok l G M_X5_readCompound (d9 + 2) 0 0 [.ref 163, zi dp] n J (zqi (fun z J' => ∃ m', RT J' J m m' ∧ (J' 163 8 = 0 → 0 ≤ z ∧ z < m') ∧ XC J' (pK T g dp).1 ∧ VQ z (pK T g dp))) zN := by
  refine tz_Ok.of hl (by decide +kernel) rfl (tb_c1 rfl) (Nat.le_of_ble_eq_true rfl) ?_
  show tz_At l G M_X5_readCompound (tb_rm (d9 + 2) 0 0) none (tb_ZM G 0 0 (zQ n 0 (zqi (fun z J' => ∃ m', RT J' J m m' ∧ (J' 163 8 = 0 → 0 ≤ z ∧ z < m') ∧ XC J' (pK T g dp).1 ∧ VQ z (pK T g dp)))) (zX n 0 zN)) 0 0 n J 0 [some (.ref 163), some (zi dp), none, none, none, none, none] []
  have g0 : RT J J m m := RT.rf C hm hD
  have hb := C.told
  have h8 := hX.z h9
  obtain ⟨⟨⟨hD1, hD2⟩, hD3, hD4⟩, hD5⟩ := id hD
  refine tz_aload_n (pc := 0) dX5_readCompound_0 rfl rfl ?_
  refine tz_fI (pc := 1) (kz := 7) (v := (J 163 7)) dX5_readCompound_1 fl_X5_21 i_163_7 rfl rfl (fun r_1 => ?_)
  refine tz_aload_n (pc := 4) dX5_readCompound_4 rfl rfl ?_
  refine tz_fI (pc := 5) (kz := 6) (v := (J 163 6)) dX5_readCompound_5 fl_X5_18 i_163_6 rfl rfl (fun r_5 => ?_)
  refine tz_isub (pc := 8) (v := (J 163 7) - (J 163 6)) dX5_readCompound_8 rfl ?_
  refine tz_iconst (pc := 9) dX5_readCompound_9 ?_
  refine tz_icmp_le (pc := 10) (tgt := 19) dX5_readCompound_10 (by decide) (by omega) (by decide) (fun h_10 => ?_) (fun h_10 => ?_)
  · refine tz_aload_n (pc := 19) dX5_readCompound_19 rfl rfl ?_
    refine tz_fR (pc := 20) dX5_readCompound_20 fl_X5_54 r_163_2 ?_
    refine tz_aload_n (pc := 23) dX5_readCompound_23 rfl rfl ?_
    refine tz_fR (pc := 24) dX5_readCompound_24 fl_X5_34 r_163_0 ?_
    refine tz_aload_n (pc := 27) dX5_readCompound_27 rfl rfl ?_
    refine tz_fI (pc := 28) (kz := 6) (v := (J 163 6)) dX5_readCompound_28 fl_X5_18 i_163_6 rfl rfl (fun r_28 => ?_)
    refine tz_aL (pc := 31) (z := (J 163 6)) (v := (J 162 (J 163 6))) dX5_readCompound_31 a_162 rfl (by omega) rfl (fun r_31 => ?_)
    refine tz_cV (pc := 32) (c_named hl n _ _ (by omega) hb.1) vl_X5_135 dX5_readCompound_32 o_1 rfl rfl (Nat.le_of_ble_eq_true rfl) ⟨(show 0 + 1 ≤ d9 + 2 by omega), (show 8 + (3 + 11) + 40 * (0) ≤ 40 * (d9 + 2) by omega)⟩ rfl rfl (Nat.le_of_ble_eq_true rfl) (Nat.le_of_ble_eq_true rfl) (fun r9 J_32 hq9 => ?_)
    obtain ⟨z_32, rfl, hz_32, rfl, hnm⟩ := hq9
    refine tz_istore_n (pc := 35) (L2 := [_, _, _, _, _, _, _]) dX5_readCompound_35 rfl (by decide) rfl ?_
    have ns : -1 ≤ z_32 ∧ z_32 < J 1 3 := by omega
    refine tz_iload_n (pc := 36) dX5_readCompound_36 rfl rfl ?_
    refine tz_iconst (pc := 37) dX5_readCompound_37 ?_
    refine tz_icmp_ne (pc := 38) (tgt := 47) dX5_readCompound_38 (by decide) (by omega) (by decide) (fun h_38 => ?_) (fun h_38 => ?_)
    · refine tz_aload_n (pc := 47) dX5_readCompound_47 rfl rfl ?_
      have b_48 := (g0).2.1
      obtain ⟨⟨⟨b1_48, b2_48⟩, b3_48, b4_48⟩, b5_48⟩ := id b_48
      refine tz_cV (pc := 48) (w_next hl n _ g b_48 hX (by omega)) vl_X5_65 dX5_readCompound_48 o_163 rfl rfl (Nat.le_of_ble_eq_true rfl) ⟨(show 1 + 1 ≤ d9 + 2 by omega), (show 8 + (1 + 11) + 40 * (1) ≤ 40 * (d9 + 2) by omega)⟩ rfl rfl (Nat.le_of_ble_eq_true rfl) (Nat.le_of_ble_eq_true rfl) (fun r9 J_48 hq9 => ?_)
      obtain ⟨rfl, g_48, d_48, v_48, x_48⟩ := hq9
      have q_48 := RT.rn g0 g_48 d_48
      have f_48 := g_48.2.2
      refine tz_aload_n (pc := 51) dX5_readCompound_51 rfl rfl ?_
      refine tz_fR (pc := 52) dX5_readCompound_52 fl_X5_54 r_163_2 ?_
      refine tz_fR (pc := 55) dX5_readCompound_55 fl_X5_183 r_1_1 ?_
      refine tz_iload_n (pc := 58) dX5_readCompound_58 rfl rfl ?_
      have hA := C.1.1.1.2 z_32 (by omega) (by omega)
      refine tz_aL (pc := 59) (z := z_32) (v := (J 3 z_32)) dX5_readCompound_59 a_3 rfl (by omega) (Eq.trans (congrFun (g_48.1 3 rfl) z_32) rfl) (fun r_59 => ?_)
      refine tz_istore_n (pc := 60) (L2 := [_, _, _, _, _, _, _]) dX5_readCompound_60 rfl (by decide) rfl ?_
      refine tz_iload_n (pc := 61) dX5_readCompound_61 rfl rfl ?_
      refine tz_iconst (pc := 62) dX5_readCompound_62 ?_
      refine tz_icmp_ge (pc := 63) (tgt := 70) dX5_readCompound_63 (by decide) (by omega) (by decide) (fun h_63 => ?_) (fun h_63 => ?_)
      · refine tz_aload_n (pc := 70) dX5_readCompound_70 rfl rfl ?_
        refine tz_bipush (pc := 71) dX5_readCompound_71 (by decide) ?_
        refine tz_iload_n (pc := 73) dX5_readCompound_73 rfl rfl ?_
        refine tz_cV (pc := 74) (w_readArg hl n _ _ _ (by decide) (by omega) T hT hF d9 hd9 H m (pNx g) (q_48).1.2.1 (q_48).1.2.2.1 (q_48).2.1 x_48 (SI.nx hS)) vl_X5_186 dX5_readCompound_74 o_163 rfl rfl (Nat.le_of_ble_eq_true rfl) ⟨(show (d9 + 1) + 1 ≤ d9 + 2 by omega), (show 8 + (3 + 11) + 40 * ((d9 + 1)) ≤ 40 * (d9 + 2) by omega)⟩ rfl rfl (Nat.le_of_ble_eq_true rfl) (Nat.le_of_ble_eq_true rfl) (fun r9 J_74 hq9 => ?_)
        obtain ⟨z_74, rfl, hz_74, m_74, g_74, u_74, x_74, y_74⟩ := hq9
        have q_74 := RT.tr q_48 g_74
        have f_74 := g_74.2.2
        have l_74 := g_74.1.1
        have a_74 : XC J_74 (pA1 T (pNx g) (J 3 z_32) dp).1 := by unfold pA1; rw [if_pos (by omega)]; exact x_74
        have b_74 : VQ z_74 (pA1 T (pNx g) (J 3 z_32) dp) := by unfold pA1; rw [if_pos (by omega)]; exact y_74
        refine tz_istore (pc := 77) (L2 := [_, _, _, _, _, _, _]) dX5_readCompound_77 (by decide) rfl ?_
        refine tz_iload_n (pc := 79) dX5_readCompound_79 rfl rfl ?_
        refine tz_iconst (pc := 80) dX5_readCompound_80 ?_
        refine tz_icmp_ge (pc := 81) (tgt := 88) dX5_readCompound_81 (by decide) (by omega) (by decide) (fun h_81 => ?_) (fun h_81 => ?_)
        · refine tz_aload_n (pc := 88) dX5_readCompound_88 rfl rfl ?_
          refine tz_bipush (pc := 89) dX5_readCompound_89 (by decide) ?_
          refine tz_iload_n (pc := 91) dX5_readCompound_91 rfl rfl ?_
          refine tz_cV (pc := 92) (w_readArg hl n _ _ _ (by decide) (by omega) T hT hF d9 hd9 H m_74 (pA1 T (pNx g) (J 3 z_32) dp).1 (q_74).1.2.1 (q_74).1.2.2.1 (q_74).2.1 a_74 (SI.a1 hT (SI.nx hS))) vl_X5_186 dX5_readCompound_92 o_163 rfl rfl (Nat.le_of_ble_eq_true rfl) ⟨(show (d9 + 1) + 1 ≤ d9 + 2 by omega), (show 8 + (3 + 11) + 40 * ((d9 + 1)) ≤ 40 * (d9 + 2) by omega)⟩ rfl rfl (Nat.le_of_ble_eq_true rfl) (Nat.le_of_ble_eq_true rfl) (fun r9 J_92 hq9 => ?_)
          obtain ⟨z_92, rfl, hz_92, m_92, g_92, u_92, x_92, y_92⟩ := hq9
          have q_92 := RT.tr q_74 g_92
          have f_92 := g_92.2.2
          have l_92 := g_92.1.1
          have a_92 : XC J_92 (pA2 T (pNx g) (J 3 z_32) dp).1 := by unfold pA2; rw [if_pos (by omega)]; exact x_92
          have b_92 : VQ z_92 (pA2 T (pNx g) (J 3 z_32) dp) := by unfold pA2; rw [if_pos (by omega)]; exact y_92
          refine tz_istore (pc := 95) (L2 := [_, _, _, _, _, _, _]) dX5_readCompound_95 (by decide) rfl ?_
          refine tz_iload_n (pc := 97) dX5_readCompound_97 rfl rfl ?_
          refine tz_iconst (pc := 98) dX5_readCompound_98 ?_
          refine tz_icmp_ge (pc := 99) (tgt := 106) dX5_readCompound_99 (by decide) (by omega) (by decide) (fun h_99 => ?_) (fun h_99 => ?_)
          · refine tz_aload_n (pc := 106) dX5_readCompound_106 rfl rfl ?_
            refine tz_bipush (pc := 107) dX5_readCompound_107 (by decide) ?_
            refine tz_iload_n (pc := 109) dX5_readCompound_109 rfl rfl ?_
            refine tz_cV (pc := 110) (w_readArg hl n _ _ _ (by decide) (by omega) T hT hF d9 hd9 H m_92 (pA2 T (pNx g) (J 3 z_32) dp).1 (q_92).1.2.1 (q_92).1.2.2.1 (q_92).2.1 a_92 (SI.a2 hT (SI.nx hS))) vl_X5_186 dX5_readCompound_110 o_163 rfl rfl (Nat.le_of_ble_eq_true rfl) ⟨(show (d9 + 1) + 1 ≤ d9 + 2 by omega), (show 8 + (3 + 11) + 40 * ((d9 + 1)) ≤ 40 * (d9 + 2) by omega)⟩ rfl rfl (Nat.le_of_ble_eq_true rfl) (Nat.le_of_ble_eq_true rfl) (fun r9 J_110 hq9 => ?_)
            obtain ⟨z_110, rfl, hz_110, m_110, g_110, u_110, x_110, y_110⟩ := hq9
            have q_110 := RT.tr q_92 g_110
            have f_110 := g_110.2.2
            have l_110 := g_110.1.1
            have a_110 : XC J_110 (pA3 T (pNx g) (J 3 z_32) dp).1 := by unfold pA3; rw [if_pos (by omega)]; exact x_110
            have b_110 : VQ z_110 (pA3 T (pNx g) (J 3 z_32) dp) := by unfold pA3; rw [if_pos (by omega)]; exact y_110
            refine tz_istore (pc := 113) (L2 := [_, _, _, _, _, _, _]) dX5_readCompound_113 (by decide) rfl ?_
            refine tz_iload_n (pc := 115) dX5_readCompound_115 rfl rfl ?_
            refine tz_if_le (pc := 116) (tgt := 125) dX5_readCompound_116 (by decide) (by omega) (fun h_116 => ?_) (fun h_116 => ?_)
            · refine tz_aload_n (pc := 125) dX5_readCompound_125 rfl rfl ?_
              refine tz_fI (pc := 126) (kz := 8) (v := (J_110 163 8)) dX5_readCompound_126 fl_X5_24 i_163_8 rfl rfl (fun r_126 => ?_)
              refine tz_if_ne (pc := 129) (tgt := 156) dX5_readCompound_129 (by decide) (by omega) (fun h_129 => ?_) (fun h_129 => ?_)
              · refine tz_iconst (pc := 156) dX5_readCompound_156 ?_
                exact tz_iret (pc := 157) (z := (-1)) dX5_readCompound_157 rfl (Nat.le_of_ble_eq_true rfl) (Nat.le_of_ble_eq_true rfl) ⟨Nat.le_refl _, Nat.le_add_right _ _⟩ ⟨_, rfl, (by decide), (by have X4 : XC J_110 (pA4 T (pNx g) (J 3 z_32) dp) := (False.elim (by omega)); rw [(pK_4 (T := T) (d := dp) hX hS h9 h8 (by omega) (by omega) hb.1.1 hnm).2 (by omega), pMx_f (XC.no X4 (by omega))]; exact ⟨m_110, q_110, fun k => by omega, X4, fun k => absurd k (XC.no X4 (by omega))⟩)⟩
              · refine tz_aload_n (pc := 132) dX5_readCompound_132 rfl rfl ?_
                refine tz_aload_n (pc := 133) dX5_readCompound_133 rfl rfl ?_
                refine tz_fR (pc := 134) dX5_readCompound_134 fl_X5_38 r_163_1 ?_
                refine tz_fR (pc := 137) dX5_readCompound_137 fl_X5_42 r_5_0 ?_
                refine tz_iload_n (pc := 140) dX5_readCompound_140 rfl rfl ?_
                refine tz_iload (pc := 141) dX5_readCompound_141 rfl ?_
                refine tz_iload (pc := 143) dX5_readCompound_143 rfl ?_
                refine tz_iload (pc := 145) dX5_readCompound_145 rfl ?_
                have x1 := (q_110).1.2.2.2.2 1 rfl
                have x3 := (q_110).1.2.2.2.2 3 rfl
                have t_147 := (q_110).1.2.1.told
                have ra : arh (J_110 3) z_32 = J 3 z_32 := by rw [x3]; exact if_neg (by omega)
                have X4 : XC J_110 (pA4 T (pNx g) (J 3 z_32) dp) := (False.elim (by omega))
                refine tz_cV (pc := 147) (c_made hl n _ _ _ _ _ (by omega) (by omega) (by omega) (by omega) m_110 (q_110).1.2.1 (q_110).1.2.2.1 (by rw [x1]; omega) (ltA_of (by omega) (by omega) (by omega))) vl_X5_189 dX5_readCompound_147 o_6 rfl rfl (Nat.le_of_ble_eq_true rfl) ⟨(show 2 + 1 ≤ d9 + 2 by omega), (show 8 + (11 + 11) + 40 * (2) ≤ 40 * (d9 + 2) by omega)⟩ rfl rfl (Nat.le_of_ble_eq_true rfl) (Nat.le_of_ble_eq_true rfl) (fun r9 J_147 hq9 => ?_)
                obtain ⟨z_147, rfl, hz_147, p_147⟩ := hq9
                obtain ⟨m_147, y_147, h_147⟩ := GR.made p_147 (by omega)
                have q_147 := RT.made q_110 y_147
                have x_147 := XC.made (x := (pA1 T (pNx g) (J 3 z_32) dp).2) (y := (pA2 T (pNx g) (J 3 z_32) dp).2) (w := (pA3 T (pNx g) (J 3 z_32) dp).2) X4 (by omega) (q_110).1.2.1 (q_110).1.2.2.1 (by rw [x1]; omega) (fun k => ⟨fun _ => b_74 (pA_0 hF k).2.2, fun _ => b_92 (pA_0 hF k).2.1, fun _ => b_110 (pA_0 hF k).1⟩) ⟨fun u => by omega, fun u => by omega, fun u => by omega⟩ p_147
                refine tz_cV (pc := 150) (w_held hl n _ _ (by omega) _ x_147.1 x_147.2.2) vl_X5_180 dX5_readCompound_150 o_163 rfl rfl (Nat.le_of_ble_eq_true rfl) ⟨(show 1 + 1 ≤ d9 + 2 by omega), (show 8 + (2 + 11) + 40 * (1) ≤ 40 * (d9 + 2) by omega)⟩ rfl rfl (Nat.le_of_ble_eq_true rfl) (Nat.le_of_ble_eq_true rfl) (fun r9 J_150 hq9 => ?_)
                obtain ⟨z_150, rfl, hz_150, g_150, d_150, u_150, x_150, o_150⟩ := hq9
                have q_150 := RT.rn q_147 g_150 (d_150 (q_147).2.1)
                refine tz_goto (pc := 153) (tgt := 157) dX5_readCompound_153 (by decide) ?_
                exact tz_iret (pc := 157) (z := z_150) dX5_readCompound_157 rfl (Nat.le_of_ble_eq_true rfl) (Nat.le_of_ble_eq_true rfl) ⟨Nat.le_refl _, Nat.le_add_right _ _⟩ ⟨_, rfl, (by omega), (by rw [(pK_4 (T := T) (d := dp) hX hS h9 h8 (by omega) (by omega) hb.1.1 hnm).2 (by omega)]; exact ⟨m_147, q_150, fun k => by have := u_150 k; omega, x_150, fun k => by have a := x_147.2.1 k; rcases (show z_147 < 0 ∨ 0 ≤ z_147 by omega) with b | b; (have := x_147.2.2 b; omega); exact (o_150 b).trans a⟩)⟩
            · refine tz_aload_n (pc := 119) dX5_readCompound_119 rfl rfl ?_
              refine tz_bipush (pc := 120) dX5_readCompound_120 (by decide) ?_
              have b_122 := (q_110).2.1
              obtain ⟨⟨⟨b1_122, b2_122⟩, b3_122, b4_122⟩, b5_122⟩ := id b_122
              refine tz_cV (pc := 122) (w_pass hl n _ _ (by omega) (pA3 T (pNx g) (J 3 z_32) dp).1 b_122 a_110 (SI.a3 hT (SI.nx hS))) vl_X5_116 dX5_readCompound_122 o_163 rfl rfl (Nat.le_of_ble_eq_true rfl) ⟨(show 2 + 1 ≤ d9 + 2 by omega), (show 8 + (2 + 11) + 40 * (2) ≤ 40 * (d9 + 2) by omega)⟩ rfl rfl (Nat.le_of_ble_eq_true rfl) (Nat.le_of_ble_eq_true rfl) (fun r9 J_122 hq9 => ?_)
              obtain ⟨rfl, g_122, d_122, x_122⟩ := hq9
              have q_122 := RT.rn q_110 g_122 d_122
              have f_122 := g_122.2.2
              refine tz_aload_n (pc := 125) dX5_readCompound_125 rfl rfl ?_
              refine tz_fI (pc := 126) (kz := 8) (v := (J_122 163 8)) dX5_readCompound_126 fl_X5_24 i_163_8 rfl rfl (fun r_126 => ?_)
              refine tz_if_ne (pc := 129) (tgt := 156) dX5_readCompound_129 (by decide) (by omega) (fun h_129 => ?_) (fun h_129 => ?_)
              · refine tz_iconst (pc := 156) dX5_readCompound_156 ?_
                exact tz_iret (pc := 157) (z := (-1)) dX5_readCompound_157 rfl (Nat.le_of_ble_eq_true rfl) (Nat.le_of_ble_eq_true rfl) ⟨Nat.le_refl _, Nat.le_add_right _ _⟩ ⟨_, rfl, (by decide), (by have X4 : XC J_122 (pA4 T (pNx g) (J 3 z_32) dp) := (by unfold pA4; rw [if_pos (by omega)]; exact x_122); rw [(pK_4 (T := T) (d := dp) hX hS h9 h8 (by omega) (by omega) hb.1.1 hnm).2 (by omega), pMx_f (XC.no X4 (by omega))]; exact ⟨m_110, q_122, fun k => by omega, X4, fun k => absurd k (XC.no X4 (by omega))⟩)⟩
              · refine tz_aload_n (pc := 132) dX5_readCompound_132 rfl rfl ?_
                refine tz_aload_n (pc := 133) dX5_readCompound_133 rfl rfl ?_
                refine tz_fR (pc := 134) dX5_readCompound_134 fl_X5_38 r_163_1 ?_
                refine tz_fR (pc := 137) dX5_readCompound_137 fl_X5_42 r_5_0 ?_
                refine tz_iload_n (pc := 140) dX5_readCompound_140 rfl rfl ?_
                refine tz_iload (pc := 141) dX5_readCompound_141 rfl ?_
                refine tz_iload (pc := 143) dX5_readCompound_143 rfl ?_
                refine tz_iload (pc := 145) dX5_readCompound_145 rfl ?_
                have x1 := (q_122).1.2.2.2.2 1 rfl
                have x3 := (q_122).1.2.2.2.2 3 rfl
                have t_147 := (q_122).1.2.1.told
                have ra : arh (J_122 3) z_32 = J 3 z_32 := by rw [x3]; exact if_neg (by omega)
                have X4 : XC J_122 (pA4 T (pNx g) (J 3 z_32) dp) := (by unfold pA4; rw [if_pos (by omega)]; exact x_122)
                refine tz_cV (pc := 147) (c_made hl n _ _ _ _ _ (by omega) (by omega) (by omega) (by omega) m_110 (q_122).1.2.1 (q_122).1.2.2.1 (by rw [x1]; omega) (ltA_of (by omega) (by omega) (by omega))) vl_X5_189 dX5_readCompound_147 o_6 rfl rfl (Nat.le_of_ble_eq_true rfl) ⟨(show 2 + 1 ≤ d9 + 2 by omega), (show 8 + (11 + 11) + 40 * (2) ≤ 40 * (d9 + 2) by omega)⟩ rfl rfl (Nat.le_of_ble_eq_true rfl) (Nat.le_of_ble_eq_true rfl) (fun r9 J_147 hq9 => ?_)
                obtain ⟨z_147, rfl, hz_147, p_147⟩ := hq9
                obtain ⟨m_147, y_147, h_147⟩ := GR.made p_147 (by omega)
                have q_147 := RT.made q_122 y_147
                have x_147 := XC.made (x := (pA1 T (pNx g) (J 3 z_32) dp).2) (y := (pA2 T (pNx g) (J 3 z_32) dp).2) (w := (pA3 T (pNx g) (J 3 z_32) dp).2) X4 (by omega) (q_122).1.2.1 (q_122).1.2.2.1 (by rw [x1]; omega) (fun k => ⟨fun _ => b_74 (pA_0 hF k).2.2, fun _ => b_92 (pA_0 hF k).2.1, fun _ => b_110 (pA_0 hF k).1⟩) ⟨fun u => by omega, fun u => by omega, fun u => by omega⟩ p_147
                refine tz_cV (pc := 150) (w_held hl n _ _ (by omega) _ x_147.1 x_147.2.2) vl_X5_180 dX5_readCompound_150 o_163 rfl rfl (Nat.le_of_ble_eq_true rfl) ⟨(show 1 + 1 ≤ d9 + 2 by omega), (show 8 + (2 + 11) + 40 * (1) ≤ 40 * (d9 + 2) by omega)⟩ rfl rfl (Nat.le_of_ble_eq_true rfl) (Nat.le_of_ble_eq_true rfl) (fun r9 J_150 hq9 => ?_)
                obtain ⟨z_150, rfl, hz_150, g_150, d_150, u_150, x_150, o_150⟩ := hq9
                have q_150 := RT.rn q_147 g_150 (d_150 (q_147).2.1)
                refine tz_goto (pc := 153) (tgt := 157) dX5_readCompound_153 (by decide) ?_
                exact tz_iret (pc := 157) (z := z_150) dX5_readCompound_157 rfl (Nat.le_of_ble_eq_true rfl) (Nat.le_of_ble_eq_true rfl) ⟨Nat.le_refl _, Nat.le_add_right _ _⟩ ⟨_, rfl, (by omega), (by rw [(pK_4 (T := T) (d := dp) hX hS h9 h8 (by omega) (by omega) hb.1.1 hnm).2 (by omega)]; exact ⟨m_147, q_150, fun k => by have := u_150 k; omega, x_150, fun k => by have a := x_147.2.1 k; rcases (show z_147 < 0 ∨ 0 ≤ z_147 by omega) with b | b; (have := x_147.2.2 b; omega); exact (o_150 b).trans a⟩)⟩
          · refine tz_iconst (pc := 102) dX5_readCompound_102 ?_
            refine tz_goto (pc := 103) (tgt := 113) dX5_readCompound_103 (by decide) ?_
            refine tz_istore (pc := 113) (L2 := [_, _, _, _, _, _, _]) dX5_readCompound_113 (by decide) rfl ?_
            refine tz_iload_n (pc := 115) dX5_readCompound_115 rfl rfl ?_
            refine tz_if_le (pc := 116) (tgt := 125) dX5_readCompound_116 (by decide) (by omega) (fun h_116 => ?_) (fun h_116 => ?_)
            · refine tz_aload_n (pc := 125) dX5_readCompound_125 rfl rfl ?_
              refine tz_fI (pc := 126) (kz := 8) (v := (J_92 163 8)) dX5_readCompound_126 fl_X5_24 i_163_8 rfl rfl (fun r_126 => ?_)
              refine tz_if_ne (pc := 129) (tgt := 156) dX5_readCompound_129 (by decide) (by omega) (fun h_129 => ?_) (fun h_129 => ?_)
              · refine tz_iconst (pc := 156) dX5_readCompound_156 ?_
                exact tz_iret (pc := 157) (z := (-1)) dX5_readCompound_157 rfl (Nat.le_of_ble_eq_true rfl) (Nat.le_of_ble_eq_true rfl) ⟨Nat.le_refl _, Nat.le_add_right _ _⟩ ⟨_, rfl, (by decide), (by have X4 : XC J_92 (pA4 T (pNx g) (J 3 z_32) dp) := (False.elim (by omega)); rw [(pK_4 (T := T) (d := dp) hX hS h9 h8 (by omega) (by omega) hb.1.1 hnm).2 (by omega), pMx_f (XC.no X4 (by omega))]; exact ⟨m_92, q_92, fun k => by omega, X4, fun k => absurd k (XC.no X4 (by omega))⟩)⟩
              · refine tz_aload_n (pc := 132) dX5_readCompound_132 rfl rfl ?_
                refine tz_aload_n (pc := 133) dX5_readCompound_133 rfl rfl ?_
                refine tz_fR (pc := 134) dX5_readCompound_134 fl_X5_38 r_163_1 ?_
                refine tz_fR (pc := 137) dX5_readCompound_137 fl_X5_42 r_5_0 ?_
                refine tz_iload_n (pc := 140) dX5_readCompound_140 rfl rfl ?_
                refine tz_iload (pc := 141) dX5_readCompound_141 rfl ?_
                refine tz_iload (pc := 143) dX5_readCompound_143 rfl ?_
                refine tz_iload (pc := 145) dX5_readCompound_145 rfl ?_
                have x1 := (q_92).1.2.2.2.2 1 rfl
                have x3 := (q_92).1.2.2.2.2 3 rfl
                have t_147 := (q_92).1.2.1.told
                have ra : arh (J_92 3) z_32 = J 3 z_32 := by rw [x3]; exact if_neg (by omega)
                have X4 : XC J_92 (pA4 T (pNx g) (J 3 z_32) dp) := (False.elim (by omega))
                refine tz_cV (pc := 147) (c_made hl n _ _ _ _ _ (by omega) (by omega) (by omega) (by omega) m_92 (q_92).1.2.1 (q_92).1.2.2.1 (by rw [x1]; omega) (ltA_of (by omega) (by omega) (by omega))) vl_X5_189 dX5_readCompound_147 o_6 rfl rfl (Nat.le_of_ble_eq_true rfl) ⟨(show 2 + 1 ≤ d9 + 2 by omega), (show 8 + (11 + 11) + 40 * (2) ≤ 40 * (d9 + 2) by omega)⟩ rfl rfl (Nat.le_of_ble_eq_true rfl) (Nat.le_of_ble_eq_true rfl) (fun r9 J_147 hq9 => ?_)
                obtain ⟨z_147, rfl, hz_147, p_147⟩ := hq9
                obtain ⟨m_147, y_147, h_147⟩ := GR.made p_147 (by omega)
                have q_147 := RT.made q_92 y_147
                have x_147 := XC.made (x := (pA1 T (pNx g) (J 3 z_32) dp).2) (y := (pA2 T (pNx g) (J 3 z_32) dp).2) (w := (pA3 T (pNx g) (J 3 z_32) dp).2) X4 (by omega) (q_92).1.2.1 (q_92).1.2.2.1 (by rw [x1]; omega) (fun k => ⟨fun _ => b_74 (pA_0 hF k).2.2, fun _ => b_92 (pA_0 hF k).2.1, fun u => by omega⟩) ⟨fun u => by omega, fun u => by omega, fun u => by omega⟩ p_147
                refine tz_cV (pc := 150) (w_held hl n _ _ (by omega) _ x_147.1 x_147.2.2) vl_X5_180 dX5_readCompound_150 o_163 rfl rfl (Nat.le_of_ble_eq_true rfl) ⟨(show 1 + 1 ≤ d9 + 2 by omega), (show 8 + (2 + 11) + 40 * (1) ≤ 40 * (d9 + 2) by omega)⟩ rfl rfl (Nat.le_of_ble_eq_true rfl) (Nat.le_of_ble_eq_true rfl) (fun r9 J_150 hq9 => ?_)
                obtain ⟨z_150, rfl, hz_150, g_150, d_150, u_150, x_150, o_150⟩ := hq9
                have q_150 := RT.rn q_147 g_150 (d_150 (q_147).2.1)
                refine tz_goto (pc := 153) (tgt := 157) dX5_readCompound_153 (by decide) ?_
                exact tz_iret (pc := 157) (z := z_150) dX5_readCompound_157 rfl (Nat.le_of_ble_eq_true rfl) (Nat.le_of_ble_eq_true rfl) ⟨Nat.le_refl _, Nat.le_add_right _ _⟩ ⟨_, rfl, (by omega), (by rw [(pK_4 (T := T) (d := dp) hX hS h9 h8 (by omega) (by omega) hb.1.1 hnm).2 (by omega)]; exact ⟨m_147, q_150, fun k => by have := u_150 k; omega, x_150, fun k => by have a := x_147.2.1 k; rcases (show z_147 < 0 ∨ 0 ≤ z_147 by omega) with b | b; (have := x_147.2.2 b; omega); exact (o_150 b).trans a⟩)⟩
            · refine tz_aload_n (pc := 119) dX5_readCompound_119 rfl rfl ?_
              refine tz_bipush (pc := 120) dX5_readCompound_120 (by decide) ?_
              have b_122 := (q_92).2.1
              obtain ⟨⟨⟨b1_122, b2_122⟩, b3_122, b4_122⟩, b5_122⟩ := id b_122
              refine tz_cV (pc := 122) (w_pass hl n _ _ (by omega) (pA3 T (pNx g) (J 3 z_32) dp).1 b_122 (by unfold pA3; rw [if_neg (by omega)]; exact a_92) (SI.a3 hT (SI.nx hS))) vl_X5_116 dX5_readCompound_122 o_163 rfl rfl (Nat.le_of_ble_eq_true rfl) ⟨(show 2 + 1 ≤ d9 + 2 by omega), (show 8 + (2 + 11) + 40 * (2) ≤ 40 * (d9 + 2) by omega)⟩ rfl rfl (Nat.le_of_ble_eq_true rfl) (Nat.le_of_ble_eq_true rfl) (fun r9 J_122 hq9 => ?_)
              obtain ⟨rfl, g_122, d_122, x_122⟩ := hq9
              have q_122 := RT.rn q_92 g_122 d_122
              have f_122 := g_122.2.2
              refine tz_aload_n (pc := 125) dX5_readCompound_125 rfl rfl ?_
              refine tz_fI (pc := 126) (kz := 8) (v := (J_122 163 8)) dX5_readCompound_126 fl_X5_24 i_163_8 rfl rfl (fun r_126 => ?_)
              refine tz_if_ne (pc := 129) (tgt := 156) dX5_readCompound_129 (by decide) (by omega) (fun h_129 => ?_) (fun h_129 => ?_)
              · refine tz_iconst (pc := 156) dX5_readCompound_156 ?_
                exact tz_iret (pc := 157) (z := (-1)) dX5_readCompound_157 rfl (Nat.le_of_ble_eq_true rfl) (Nat.le_of_ble_eq_true rfl) ⟨Nat.le_refl _, Nat.le_add_right _ _⟩ ⟨_, rfl, (by decide), (by have X4 : XC J_122 (pA4 T (pNx g) (J 3 z_32) dp) := (by unfold pA4; rw [if_pos (by omega)]; exact x_122); rw [(pK_4 (T := T) (d := dp) hX hS h9 h8 (by omega) (by omega) hb.1.1 hnm).2 (by omega), pMx_f (XC.no X4 (by omega))]; exact ⟨m_92, q_122, fun k => by omega, X4, fun k => absurd k (XC.no X4 (by omega))⟩)⟩
              · refine tz_aload_n (pc := 132) dX5_readCompound_132 rfl rfl ?_
                refine tz_aload_n (pc := 133) dX5_readCompound_133 rfl rfl ?_
                refine tz_fR (pc := 134) dX5_readCompound_134 fl_X5_38 r_163_1 ?_
                refine tz_fR (pc := 137) dX5_readCompound_137 fl_X5_42 r_5_0 ?_
                refine tz_iload_n (pc := 140) dX5_readCompound_140 rfl rfl ?_
                refine tz_iload (pc := 141) dX5_readCompound_141 rfl ?_
                refine tz_iload (pc := 143) dX5_readCompound_143 rfl ?_
                refine tz_iload (pc := 145) dX5_readCompound_145 rfl ?_
                have x1 := (q_122).1.2.2.2.2 1 rfl
                have x3 := (q_122).1.2.2.2.2 3 rfl
                have t_147 := (q_122).1.2.1.told
                have ra : arh (J_122 3) z_32 = J 3 z_32 := by rw [x3]; exact if_neg (by omega)
                have X4 : XC J_122 (pA4 T (pNx g) (J 3 z_32) dp) := (by unfold pA4; rw [if_pos (by omega)]; exact x_122)
                refine tz_cV (pc := 147) (c_made hl n _ _ _ _ _ (by omega) (by omega) (by omega) (by omega) m_92 (q_122).1.2.1 (q_122).1.2.2.1 (by rw [x1]; omega) (ltA_of (by omega) (by omega) (by omega))) vl_X5_189 dX5_readCompound_147 o_6 rfl rfl (Nat.le_of_ble_eq_true rfl) ⟨(show 2 + 1 ≤ d9 + 2 by omega), (show 8 + (11 + 11) + 40 * (2) ≤ 40 * (d9 + 2) by omega)⟩ rfl rfl (Nat.le_of_ble_eq_true rfl) (Nat.le_of_ble_eq_true rfl) (fun r9 J_147 hq9 => ?_)
                obtain ⟨z_147, rfl, hz_147, p_147⟩ := hq9
                obtain ⟨m_147, y_147, h_147⟩ := GR.made p_147 (by omega)
                have q_147 := RT.made q_122 y_147
                have x_147 := XC.made (x := (pA1 T (pNx g) (J 3 z_32) dp).2) (y := (pA2 T (pNx g) (J 3 z_32) dp).2) (w := (pA3 T (pNx g) (J 3 z_32) dp).2) X4 (by omega) (q_122).1.2.1 (q_122).1.2.2.1 (by rw [x1]; omega) (fun k => ⟨fun _ => b_74 (pA_0 hF k).2.2, fun _ => b_92 (pA_0 hF k).2.1, fun u => by omega⟩) ⟨fun u => by omega, fun u => by omega, fun u => by omega⟩ p_147
                refine tz_cV (pc := 150) (w_held hl n _ _ (by omega) _ x_147.1 x_147.2.2) vl_X5_180 dX5_readCompound_150 o_163 rfl rfl (Nat.le_of_ble_eq_true rfl) ⟨(show 1 + 1 ≤ d9 + 2 by omega), (show 8 + (2 + 11) + 40 * (1) ≤ 40 * (d9 + 2) by omega)⟩ rfl rfl (Nat.le_of_ble_eq_true rfl) (Nat.le_of_ble_eq_true rfl) (fun r9 J_150 hq9 => ?_)
                obtain ⟨z_150, rfl, hz_150, g_150, d_150, u_150, x_150, o_150⟩ := hq9
                have q_150 := RT.rn q_147 g_150 (d_150 (q_147).2.1)
                refine tz_goto (pc := 153) (tgt := 157) dX5_readCompound_153 (by decide) ?_
                exact tz_iret (pc := 157) (z := z_150) dX5_readCompound_157 rfl (Nat.le_of_ble_eq_true rfl) (Nat.le_of_ble_eq_true rfl) ⟨Nat.le_refl _, Nat.le_add_right _ _⟩ ⟨_, rfl, (by omega), (by rw [(pK_4 (T := T) (d := dp) hX hS h9 h8 (by omega) (by omega) hb.1.1 hnm).2 (by omega)]; exact ⟨m_147, q_150, fun k => by have := u_150 k; omega, x_150, fun k => by have a := x_147.2.1 k; rcases (show z_147 < 0 ∨ 0 ≤ z_147 by omega) with b | b; (have := x_147.2.2 b; omega); exact (o_150 b).trans a⟩)⟩
        · refine tz_iconst (pc := 84) dX5_readCompound_84 ?_
          refine tz_goto (pc := 85) (tgt := 95) dX5_readCompound_85 (by decide) ?_
          refine tz_istore (pc := 95) (L2 := [_, _, _, _, _, _, _]) dX5_readCompound_95 (by decide) rfl ?_
          refine tz_iload_n (pc := 97) dX5_readCompound_97 rfl rfl ?_
          refine tz_iconst (pc := 98) dX5_readCompound_98 ?_
          refine tz_icmp_ge (pc := 99) (tgt := 106) dX5_readCompound_99 (by decide) (by omega) (by decide) (fun h_99 => ?_) (fun h_99 => ?_)
          · refine tz_aload_n (pc := 106) dX5_readCompound_106 rfl rfl ?_
            refine tz_bipush (pc := 107) dX5_readCompound_107 (by decide) ?_
            refine tz_iload_n (pc := 109) dX5_readCompound_109 rfl rfl ?_
            refine tz_cV (pc := 110) (w_readArg hl n _ _ _ (by decide) (by omega) T hT hF d9 hd9 H m_74 (pA2 T (pNx g) (J 3 z_32) dp).1 (q_74).1.2.1 (q_74).1.2.2.1 (q_74).2.1 (False.elim (by omega)) (SI.a2 hT (SI.nx hS))) vl_X5_186 dX5_readCompound_110 o_163 rfl rfl (Nat.le_of_ble_eq_true rfl) ⟨(show (d9 + 1) + 1 ≤ d9 + 2 by omega), (show 8 + (3 + 11) + 40 * ((d9 + 1)) ≤ 40 * (d9 + 2) by omega)⟩ rfl rfl (Nat.le_of_ble_eq_true rfl) (Nat.le_of_ble_eq_true rfl) (fun r9 J_110 hq9 => ?_)
            obtain ⟨z_110, rfl, hz_110, m_110, g_110, u_110, x_110, y_110⟩ := hq9
            have q_110 := RT.tr q_74 g_110
            have f_110 := g_110.2.2
            have l_110 := g_110.1.1
            have a_110 : XC J_110 (pA3 T (pNx g) (J 3 z_32) dp).1 := by unfold pA3; rw [if_pos (by omega)]; exact x_110
            have b_110 : VQ z_110 (pA3 T (pNx g) (J 3 z_32) dp) := by unfold pA3; rw [if_pos (by omega)]; exact y_110
            refine tz_istore (pc := 113) (L2 := [_, _, _, _, _, _, _]) dX5_readCompound_113 (by decide) rfl ?_
            refine tz_iload_n (pc := 115) dX5_readCompound_115 rfl rfl ?_
            refine tz_if_le (pc := 116) (tgt := 125) dX5_readCompound_116 (by decide) (by omega) (fun h_116 => ?_) (fun h_116 => ?_)
            · refine tz_aload_n (pc := 125) dX5_readCompound_125 rfl rfl ?_
              refine tz_fI (pc := 126) (kz := 8) (v := (J_110 163 8)) dX5_readCompound_126 fl_X5_24 i_163_8 rfl rfl (fun r_126 => ?_)
              refine tz_if_ne (pc := 129) (tgt := 156) dX5_readCompound_129 (by decide) (by omega) (fun h_129 => ?_) (fun h_129 => ?_)
              · refine tz_iconst (pc := 156) dX5_readCompound_156 ?_
                exact tz_iret (pc := 157) (z := (-1)) dX5_readCompound_157 rfl (Nat.le_of_ble_eq_true rfl) (Nat.le_of_ble_eq_true rfl) ⟨Nat.le_refl _, Nat.le_add_right _ _⟩ ⟨_, rfl, (by decide), (by have X4 : XC J_110 (pA4 T (pNx g) (J 3 z_32) dp) := (False.elim (by omega)); rw [(pK_4 (T := T) (d := dp) hX hS h9 h8 (by omega) (by omega) hb.1.1 hnm).2 (by omega), pMx_f (XC.no X4 (by omega))]; exact ⟨m_110, q_110, fun k => by omega, X4, fun k => absurd k (XC.no X4 (by omega))⟩)⟩
              · refine tz_aload_n (pc := 132) dX5_readCompound_132 rfl rfl ?_
                refine tz_aload_n (pc := 133) dX5_readCompound_133 rfl rfl ?_
                refine tz_fR (pc := 134) dX5_readCompound_134 fl_X5_38 r_163_1 ?_
                refine tz_fR (pc := 137) dX5_readCompound_137 fl_X5_42 r_5_0 ?_
                refine tz_iload_n (pc := 140) dX5_readCompound_140 rfl rfl ?_
                refine tz_iload (pc := 141) dX5_readCompound_141 rfl ?_
                refine tz_iload (pc := 143) dX5_readCompound_143 rfl ?_
                refine tz_iload (pc := 145) dX5_readCompound_145 rfl ?_
                have x1 := (q_110).1.2.2.2.2 1 rfl
                have x3 := (q_110).1.2.2.2.2 3 rfl
                have t_147 := (q_110).1.2.1.told
                have ra : arh (J_110 3) z_32 = J 3 z_32 := by rw [x3]; exact if_neg (by omega)
                have X4 : XC J_110 (pA4 T (pNx g) (J 3 z_32) dp) := (False.elim (by omega))
                refine tz_cV (pc := 147) (c_made hl n _ _ _ _ _ (by omega) (by omega) (by omega) (by omega) m_110 (q_110).1.2.1 (q_110).1.2.2.1 (by rw [x1]; omega) (ltA_of (by omega) (by omega) (by omega))) vl_X5_189 dX5_readCompound_147 o_6 rfl rfl (Nat.le_of_ble_eq_true rfl) ⟨(show 2 + 1 ≤ d9 + 2 by omega), (show 8 + (11 + 11) + 40 * (2) ≤ 40 * (d9 + 2) by omega)⟩ rfl rfl (Nat.le_of_ble_eq_true rfl) (Nat.le_of_ble_eq_true rfl) (fun r9 J_147 hq9 => ?_)
                obtain ⟨z_147, rfl, hz_147, p_147⟩ := hq9
                obtain ⟨m_147, y_147, h_147⟩ := GR.made p_147 (by omega)
                have q_147 := RT.made q_110 y_147
                have x_147 := XC.made (x := (pA1 T (pNx g) (J 3 z_32) dp).2) (y := (pA2 T (pNx g) (J 3 z_32) dp).2) (w := (pA3 T (pNx g) (J 3 z_32) dp).2) X4 (by omega) (q_110).1.2.1 (q_110).1.2.2.1 (by rw [x1]; omega) (fun k => ⟨fun _ => b_74 (pA_0 hF k).2.2, fun u => by omega, fun _ => b_110 (pA_0 hF k).1⟩) ⟨fun u => by omega, fun u => by omega, fun u => by omega⟩ p_147
                refine tz_cV (pc := 150) (w_held hl n _ _ (by omega) _ x_147.1 x_147.2.2) vl_X5_180 dX5_readCompound_150 o_163 rfl rfl (Nat.le_of_ble_eq_true rfl) ⟨(show 1 + 1 ≤ d9 + 2 by omega), (show 8 + (2 + 11) + 40 * (1) ≤ 40 * (d9 + 2) by omega)⟩ rfl rfl (Nat.le_of_ble_eq_true rfl) (Nat.le_of_ble_eq_true rfl) (fun r9 J_150 hq9 => ?_)
                obtain ⟨z_150, rfl, hz_150, g_150, d_150, u_150, x_150, o_150⟩ := hq9
                have q_150 := RT.rn q_147 g_150 (d_150 (q_147).2.1)
                refine tz_goto (pc := 153) (tgt := 157) dX5_readCompound_153 (by decide) ?_
                exact tz_iret (pc := 157) (z := z_150) dX5_readCompound_157 rfl (Nat.le_of_ble_eq_true rfl) (Nat.le_of_ble_eq_true rfl) ⟨Nat.le_refl _, Nat.le_add_right _ _⟩ ⟨_, rfl, (by omega), (by rw [(pK_4 (T := T) (d := dp) hX hS h9 h8 (by omega) (by omega) hb.1.1 hnm).2 (by omega)]; exact ⟨m_147, q_150, fun k => by have := u_150 k; omega, x_150, fun k => by have a := x_147.2.1 k; rcases (show z_147 < 0 ∨ 0 ≤ z_147 by omega) with b | b; (have := x_147.2.2 b; omega); exact (o_150 b).trans a⟩)⟩
            · refine tz_aload_n (pc := 119) dX5_readCompound_119 rfl rfl ?_
              refine tz_bipush (pc := 120) dX5_readCompound_120 (by decide) ?_
              have b_122 := (q_110).2.1
              obtain ⟨⟨⟨b1_122, b2_122⟩, b3_122, b4_122⟩, b5_122⟩ := id b_122
              refine tz_cV (pc := 122) (w_pass hl n _ _ (by omega) (pA3 T (pNx g) (J 3 z_32) dp).1 b_122 a_110 (SI.a3 hT (SI.nx hS))) vl_X5_116 dX5_readCompound_122 o_163 rfl rfl (Nat.le_of_ble_eq_true rfl) ⟨(show 2 + 1 ≤ d9 + 2 by omega), (show 8 + (2 + 11) + 40 * (2) ≤ 40 * (d9 + 2) by omega)⟩ rfl rfl (Nat.le_of_ble_eq_true rfl) (Nat.le_of_ble_eq_true rfl) (fun r9 J_122 hq9 => ?_)
              obtain ⟨rfl, g_122, d_122, x_122⟩ := hq9
              have q_122 := RT.rn q_110 g_122 d_122
              have f_122 := g_122.2.2
              refine tz_aload_n (pc := 125) dX5_readCompound_125 rfl rfl ?_
              refine tz_fI (pc := 126) (kz := 8) (v := (J_122 163 8)) dX5_readCompound_126 fl_X5_24 i_163_8 rfl rfl (fun r_126 => ?_)
              refine tz_if_ne (pc := 129) (tgt := 156) dX5_readCompound_129 (by decide) (by omega) (fun h_129 => ?_) (fun h_129 => ?_)
              · refine tz_iconst (pc := 156) dX5_readCompound_156 ?_
                exact tz_iret (pc := 157) (z := (-1)) dX5_readCompound_157 rfl (Nat.le_of_ble_eq_true rfl) (Nat.le_of_ble_eq_true rfl) ⟨Nat.le_refl _, Nat.le_add_right _ _⟩ ⟨_, rfl, (by decide), (by have X4 : XC J_122 (pA4 T (pNx g) (J 3 z_32) dp) := (by unfold pA4; rw [if_pos (by omega)]; exact x_122); rw [(pK_4 (T := T) (d := dp) hX hS h9 h8 (by omega) (by omega) hb.1.1 hnm).2 (by omega), pMx_f (XC.no X4 (by omega))]; exact ⟨m_110, q_122, fun k => by omega, X4, fun k => absurd k (XC.no X4 (by omega))⟩)⟩
              · refine tz_aload_n (pc := 132) dX5_readCompound_132 rfl rfl ?_
                refine tz_aload_n (pc := 133) dX5_readCompound_133 rfl rfl ?_
                refine tz_fR (pc := 134) dX5_readCompound_134 fl_X5_38 r_163_1 ?_
                refine tz_fR (pc := 137) dX5_readCompound_137 fl_X5_42 r_5_0 ?_
                refine tz_iload_n (pc := 140) dX5_readCompound_140 rfl rfl ?_
                refine tz_iload (pc := 141) dX5_readCompound_141 rfl ?_
                refine tz_iload (pc := 143) dX5_readCompound_143 rfl ?_
                refine tz_iload (pc := 145) dX5_readCompound_145 rfl ?_
                have x1 := (q_122).1.2.2.2.2 1 rfl
                have x3 := (q_122).1.2.2.2.2 3 rfl
                have t_147 := (q_122).1.2.1.told
                have ra : arh (J_122 3) z_32 = J 3 z_32 := by rw [x3]; exact if_neg (by omega)
                have X4 : XC J_122 (pA4 T (pNx g) (J 3 z_32) dp) := (by unfold pA4; rw [if_pos (by omega)]; exact x_122)
                refine tz_cV (pc := 147) (c_made hl n _ _ _ _ _ (by omega) (by omega) (by omega) (by omega) m_110 (q_122).1.2.1 (q_122).1.2.2.1 (by rw [x1]; omega) (ltA_of (by omega) (by omega) (by omega))) vl_X5_189 dX5_readCompound_147 o_6 rfl rfl (Nat.le_of_ble_eq_true rfl) ⟨(show 2 + 1 ≤ d9 + 2 by omega), (show 8 + (11 + 11) + 40 * (2) ≤ 40 * (d9 + 2) by omega)⟩ rfl rfl (Nat.le_of_ble_eq_true rfl) (Nat.le_of_ble_eq_true rfl) (fun r9 J_147 hq9 => ?_)
                obtain ⟨z_147, rfl, hz_147, p_147⟩ := hq9
                obtain ⟨m_147, y_147, h_147⟩ := GR.made p_147 (by omega)
                have q_147 := RT.made q_122 y_147
                have x_147 := XC.made (x := (pA1 T (pNx g) (J 3 z_32) dp).2) (y := (pA2 T (pNx g) (J 3 z_32) dp).2) (w := (pA3 T (pNx g) (J 3 z_32) dp).2) X4 (by omega) (q_122).1.2.1 (q_122).1.2.2.1 (by rw [x1]; omega) (fun k => ⟨fun _ => b_74 (pA_0 hF k).2.2, fun u => by omega, fun _ => b_110 (pA_0 hF k).1⟩) ⟨fun u => by omega, fun u => by omega, fun u => by omega⟩ p_147
                refine tz_cV (pc := 150) (w_held hl n _ _ (by omega) _ x_147.1 x_147.2.2) vl_X5_180 dX5_readCompound_150 o_163 rfl rfl (Nat.le_of_ble_eq_true rfl) ⟨(show 1 + 1 ≤ d9 + 2 by omega), (show 8 + (2 + 11) + 40 * (1) ≤ 40 * (d9 + 2) by omega)⟩ rfl rfl (Nat.le_of_ble_eq_true rfl) (Nat.le_of_ble_eq_true rfl) (fun r9 J_150 hq9 => ?_)
                obtain ⟨z_150, rfl, hz_150, g_150, d_150, u_150, x_150, o_150⟩ := hq9
                have q_150 := RT.rn q_147 g_150 (d_150 (q_147).2.1)
                refine tz_goto (pc := 153) (tgt := 157) dX5_readCompound_153 (by decide) ?_
                exact tz_iret (pc := 157) (z := z_150) dX5_readCompound_157 rfl (Nat.le_of_ble_eq_true rfl) (Nat.le_of_ble_eq_true rfl) ⟨Nat.le_refl _, Nat.le_add_right _ _⟩ ⟨_, rfl, (by omega), (by rw [(pK_4 (T := T) (d := dp) hX hS h9 h8 (by omega) (by omega) hb.1.1 hnm).2 (by omega)]; exact ⟨m_147, q_150, fun k => by have := u_150 k; omega, x_150, fun k => by have a := x_147.2.1 k; rcases (show z_147 < 0 ∨ 0 ≤ z_147 by omega) with b | b; (have := x_147.2.2 b; omega); exact (o_150 b).trans a⟩)⟩
          · refine tz_iconst (pc := 102) dX5_readCompound_102 ?_
            refine tz_goto (pc := 103) (tgt := 113) dX5_readCompound_103 (by decide) ?_
            refine tz_istore (pc := 113) (L2 := [_, _, _, _, _, _, _]) dX5_readCompound_113 (by decide) rfl ?_
            refine tz_iload_n (pc := 115) dX5_readCompound_115 rfl rfl ?_
            refine tz_if_le (pc := 116) (tgt := 125) dX5_readCompound_116 (by decide) (by omega) (fun h_116 => ?_) (fun h_116 => ?_)
            · refine tz_aload_n (pc := 125) dX5_readCompound_125 rfl rfl ?_
              refine tz_fI (pc := 126) (kz := 8) (v := (J_74 163 8)) dX5_readCompound_126 fl_X5_24 i_163_8 rfl rfl (fun r_126 => ?_)
              refine tz_if_ne (pc := 129) (tgt := 156) dX5_readCompound_129 (by decide) (by omega) (fun h_129 => ?_) (fun h_129 => ?_)
              · refine tz_iconst (pc := 156) dX5_readCompound_156 ?_
                exact tz_iret (pc := 157) (z := (-1)) dX5_readCompound_157 rfl (Nat.le_of_ble_eq_true rfl) (Nat.le_of_ble_eq_true rfl) ⟨Nat.le_refl _, Nat.le_add_right _ _⟩ ⟨_, rfl, (by decide), (by have X4 : XC J_74 (pA4 T (pNx g) (J 3 z_32) dp) := (False.elim (by omega)); rw [(pK_4 (T := T) (d := dp) hX hS h9 h8 (by omega) (by omega) hb.1.1 hnm).2 (by omega), pMx_f (XC.no X4 (by omega))]; exact ⟨m_74, q_74, fun k => by omega, X4, fun k => absurd k (XC.no X4 (by omega))⟩)⟩
              · refine tz_aload_n (pc := 132) dX5_readCompound_132 rfl rfl ?_
                refine tz_aload_n (pc := 133) dX5_readCompound_133 rfl rfl ?_
                refine tz_fR (pc := 134) dX5_readCompound_134 fl_X5_38 r_163_1 ?_
                refine tz_fR (pc := 137) dX5_readCompound_137 fl_X5_42 r_5_0 ?_
                refine tz_iload_n (pc := 140) dX5_readCompound_140 rfl rfl ?_
                refine tz_iload (pc := 141) dX5_readCompound_141 rfl ?_
                refine tz_iload (pc := 143) dX5_readCompound_143 rfl ?_
                refine tz_iload (pc := 145) dX5_readCompound_145 rfl ?_
                have x1 := (q_74).1.2.2.2.2 1 rfl
                have x3 := (q_74).1.2.2.2.2 3 rfl
                have t_147 := (q_74).1.2.1.told
                have ra : arh (J_74 3) z_32 = J 3 z_32 := by rw [x3]; exact if_neg (by omega)
                have X4 : XC J_74 (pA4 T (pNx g) (J 3 z_32) dp) := (False.elim (by omega))
                refine tz_cV (pc := 147) (c_made hl n _ _ _ _ _ (by omega) (by omega) (by omega) (by omega) m_74 (q_74).1.2.1 (q_74).1.2.2.1 (by rw [x1]; omega) (ltA_of (by omega) (by omega) (by omega))) vl_X5_189 dX5_readCompound_147 o_6 rfl rfl (Nat.le_of_ble_eq_true rfl) ⟨(show 2 + 1 ≤ d9 + 2 by omega), (show 8 + (11 + 11) + 40 * (2) ≤ 40 * (d9 + 2) by omega)⟩ rfl rfl (Nat.le_of_ble_eq_true rfl) (Nat.le_of_ble_eq_true rfl) (fun r9 J_147 hq9 => ?_)
                obtain ⟨z_147, rfl, hz_147, p_147⟩ := hq9
                obtain ⟨m_147, y_147, h_147⟩ := GR.made p_147 (by omega)
                have q_147 := RT.made q_74 y_147
                have x_147 := XC.made (x := (pA1 T (pNx g) (J 3 z_32) dp).2) (y := (pA2 T (pNx g) (J 3 z_32) dp).2) (w := (pA3 T (pNx g) (J 3 z_32) dp).2) X4 (by omega) (q_74).1.2.1 (q_74).1.2.2.1 (by rw [x1]; omega) (fun k => ⟨fun _ => b_74 (pA_0 hF k).2.2, fun u => by omega, fun u => by omega⟩) ⟨fun u => by omega, fun u => by omega, fun u => by omega⟩ p_147
                refine tz_cV (pc := 150) (w_held hl n _ _ (by omega) _ x_147.1 x_147.2.2) vl_X5_180 dX5_readCompound_150 o_163 rfl rfl (Nat.le_of_ble_eq_true rfl) ⟨(show 1 + 1 ≤ d9 + 2 by omega), (show 8 + (2 + 11) + 40 * (1) ≤ 40 * (d9 + 2) by omega)⟩ rfl rfl (Nat.le_of_ble_eq_true rfl) (Nat.le_of_ble_eq_true rfl) (fun r9 J_150 hq9 => ?_)
                obtain ⟨z_150, rfl, hz_150, g_150, d_150, u_150, x_150, o_150⟩ := hq9
                have q_150 := RT.rn q_147 g_150 (d_150 (q_147).2.1)
                refine tz_goto (pc := 153) (tgt := 157) dX5_readCompound_153 (by decide) ?_
                exact tz_iret (pc := 157) (z := z_150) dX5_readCompound_157 rfl (Nat.le_of_ble_eq_true rfl) (Nat.le_of_ble_eq_true rfl) ⟨Nat.le_refl _, Nat.le_add_right _ _⟩ ⟨_, rfl, (by omega), (by rw [(pK_4 (T := T) (d := dp) hX hS h9 h8 (by omega) (by omega) hb.1.1 hnm).2 (by omega)]; exact ⟨m_147, q_150, fun k => by have := u_150 k; omega, x_150, fun k => by have a := x_147.2.1 k; rcases (show z_147 < 0 ∨ 0 ≤ z_147 by omega) with b | b; (have := x_147.2.2 b; omega); exact (o_150 b).trans a⟩)⟩
            · refine tz_aload_n (pc := 119) dX5_readCompound_119 rfl rfl ?_
              refine tz_bipush (pc := 120) dX5_readCompound_120 (by decide) ?_
              have b_122 := (q_74).2.1
              obtain ⟨⟨⟨b1_122, b2_122⟩, b3_122, b4_122⟩, b5_122⟩ := id b_122
              refine tz_cV (pc := 122) (w_pass hl n _ _ (by omega) (pA3 T (pNx g) (J 3 z_32) dp).1 b_122 (by unfold pA3 pA2; rw [if_neg (by omega), if_neg (by omega)]; exact a_74) (SI.a3 hT (SI.nx hS))) vl_X5_116 dX5_readCompound_122 o_163 rfl rfl (Nat.le_of_ble_eq_true rfl) ⟨(show 2 + 1 ≤ d9 + 2 by omega), (show 8 + (2 + 11) + 40 * (2) ≤ 40 * (d9 + 2) by omega)⟩ rfl rfl (Nat.le_of_ble_eq_true rfl) (Nat.le_of_ble_eq_true rfl) (fun r9 J_122 hq9 => ?_)
              obtain ⟨rfl, g_122, d_122, x_122⟩ := hq9
              have q_122 := RT.rn q_74 g_122 d_122
              have f_122 := g_122.2.2
              refine tz_aload_n (pc := 125) dX5_readCompound_125 rfl rfl ?_
              refine tz_fI (pc := 126) (kz := 8) (v := (J_122 163 8)) dX5_readCompound_126 fl_X5_24 i_163_8 rfl rfl (fun r_126 => ?_)
              refine tz_if_ne (pc := 129) (tgt := 156) dX5_readCompound_129 (by decide) (by omega) (fun h_129 => ?_) (fun h_129 => ?_)
              · refine tz_iconst (pc := 156) dX5_readCompound_156 ?_
                exact tz_iret (pc := 157) (z := (-1)) dX5_readCompound_157 rfl (Nat.le_of_ble_eq_true rfl) (Nat.le_of_ble_eq_true rfl) ⟨Nat.le_refl _, Nat.le_add_right _ _⟩ ⟨_, rfl, (by decide), (by have X4 : XC J_122 (pA4 T (pNx g) (J 3 z_32) dp) := (by unfold pA4; rw [if_pos (by omega)]; exact x_122); rw [(pK_4 (T := T) (d := dp) hX hS h9 h8 (by omega) (by omega) hb.1.1 hnm).2 (by omega), pMx_f (XC.no X4 (by omega))]; exact ⟨m_74, q_122, fun k => by omega, X4, fun k => absurd k (XC.no X4 (by omega))⟩)⟩
              · refine tz_aload_n (pc := 132) dX5_readCompound_132 rfl rfl ?_
                refine tz_aload_n (pc := 133) dX5_readCompound_133 rfl rfl ?_
                refine tz_fR (pc := 134) dX5_readCompound_134 fl_X5_38 r_163_1 ?_
                refine tz_fR (pc := 137) dX5_readCompound_137 fl_X5_42 r_5_0 ?_
                refine tz_iload_n (pc := 140) dX5_readCompound_140 rfl rfl ?_
                refine tz_iload (pc := 141) dX5_readCompound_141 rfl ?_
                refine tz_iload (pc := 143) dX5_readCompound_143 rfl ?_
                refine tz_iload (pc := 145) dX5_readCompound_145 rfl ?_
                have x1 := (q_122).1.2.2.2.2 1 rfl
                have x3 := (q_122).1.2.2.2.2 3 rfl
                have t_147 := (q_122).1.2.1.told
                have ra : arh (J_122 3) z_32 = J 3 z_32 := by rw [x3]; exact if_neg (by omega)
                have X4 : XC J_122 (pA4 T (pNx g) (J 3 z_32) dp) := (by unfold pA4; rw [if_pos (by omega)]; exact x_122)
                refine tz_cV (pc := 147) (c_made hl n _ _ _ _ _ (by omega) (by omega) (by omega) (by omega) m_74 (q_122).1.2.1 (q_122).1.2.2.1 (by rw [x1]; omega) (ltA_of (by omega) (by omega) (by omega))) vl_X5_189 dX5_readCompound_147 o_6 rfl rfl (Nat.le_of_ble_eq_true rfl) ⟨(show 2 + 1 ≤ d9 + 2 by omega), (show 8 + (11 + 11) + 40 * (2) ≤ 40 * (d9 + 2) by omega)⟩ rfl rfl (Nat.le_of_ble_eq_true rfl) (Nat.le_of_ble_eq_true rfl) (fun r9 J_147 hq9 => ?_)
                obtain ⟨z_147, rfl, hz_147, p_147⟩ := hq9
                obtain ⟨m_147, y_147, h_147⟩ := GR.made p_147 (by omega)
                have q_147 := RT.made q_122 y_147
                have x_147 := XC.made (x := (pA1 T (pNx g) (J 3 z_32) dp).2) (y := (pA2 T (pNx g) (J 3 z_32) dp).2) (w := (pA3 T (pNx g) (J 3 z_32) dp).2) X4 (by omega) (q_122).1.2.1 (q_122).1.2.2.1 (by rw [x1]; omega) (fun k => ⟨fun _ => b_74 (pA_0 hF k).2.2, fun u => by omega, fun u => by omega⟩) ⟨fun u => by omega, fun u => by omega, fun u => by omega⟩ p_147
                refine tz_cV (pc := 150) (w_held hl n _ _ (by omega) _ x_147.1 x_147.2.2) vl_X5_180 dX5_readCompound_150 o_163 rfl rfl (Nat.le_of_ble_eq_true rfl) ⟨(show 1 + 1 ≤ d9 + 2 by omega), (show 8 + (2 + 11) + 40 * (1) ≤ 40 * (d9 + 2) by omega)⟩ rfl rfl (Nat.le_of_ble_eq_true rfl) (Nat.le_of_ble_eq_true rfl) (fun r9 J_150 hq9 => ?_)
                obtain ⟨z_150, rfl, hz_150, g_150, d_150, u_150, x_150, o_150⟩ := hq9
                have q_150 := RT.rn q_147 g_150 (d_150 (q_147).2.1)
                refine tz_goto (pc := 153) (tgt := 157) dX5_readCompound_153 (by decide) ?_
                exact tz_iret (pc := 157) (z := z_150) dX5_readCompound_157 rfl (Nat.le_of_ble_eq_true rfl) (Nat.le_of_ble_eq_true rfl) ⟨Nat.le_refl _, Nat.le_add_right _ _⟩ ⟨_, rfl, (by omega), (by rw [(pK_4 (T := T) (d := dp) hX hS h9 h8 (by omega) (by omega) hb.1.1 hnm).2 (by omega)]; exact ⟨m_147, q_150, fun k => by have := u_150 k; omega, x_150, fun k => by have a := x_147.2.1 k; rcases (show z_147 < 0 ∨ 0 ≤ z_147 by omega) with b | b; (have := x_147.2.2 b; omega); exact (o_150 b).trans a⟩)⟩
      · refine tz_iconst (pc := 66) dX5_readCompound_66 ?_
        refine tz_goto (pc := 67) (tgt := 77) dX5_readCompound_67 (by decide) ?_
        refine tz_istore (pc := 77) (L2 := [_, _, _, _, _, _, _]) dX5_readCompound_77 (by decide) rfl ?_
        refine tz_iload_n (pc := 79) dX5_readCompound_79 rfl rfl ?_
        refine tz_iconst (pc := 80) dX5_readCompound_80 ?_
        refine tz_icmp_ge (pc := 81) (tgt := 88) dX5_readCompound_81 (by decide) (by omega) (by decide) (fun h_81 => ?_) (fun h_81 => ?_)
        · refine tz_aload_n (pc := 88) dX5_readCompound_88 rfl rfl ?_
          refine tz_bipush (pc := 89) dX5_readCompound_89 (by decide) ?_
          refine tz_iload_n (pc := 91) dX5_readCompound_91 rfl rfl ?_
          refine tz_cV (pc := 92) (w_readArg hl n _ _ _ (by decide) (by omega) T hT hF d9 hd9 H m (pA1 T (pNx g) (J 3 z_32) dp).1 (q_48).1.2.1 (q_48).1.2.2.1 (q_48).2.1 (False.elim (by omega)) (SI.a1 hT (SI.nx hS))) vl_X5_186 dX5_readCompound_92 o_163 rfl rfl (Nat.le_of_ble_eq_true rfl) ⟨(show (d9 + 1) + 1 ≤ d9 + 2 by omega), (show 8 + (3 + 11) + 40 * ((d9 + 1)) ≤ 40 * (d9 + 2) by omega)⟩ rfl rfl (Nat.le_of_ble_eq_true rfl) (Nat.le_of_ble_eq_true rfl) (fun r9 J_92 hq9 => ?_)
          obtain ⟨z_92, rfl, hz_92, m_92, g_92, u_92, x_92, y_92⟩ := hq9
          have q_92 := RT.tr q_48 g_92
          have f_92 := g_92.2.2
          have l_92 := g_92.1.1
          have a_92 : XC J_92 (pA2 T (pNx g) (J 3 z_32) dp).1 := by unfold pA2; rw [if_pos (by omega)]; exact x_92
          have b_92 : VQ z_92 (pA2 T (pNx g) (J 3 z_32) dp) := by unfold pA2; rw [if_pos (by omega)]; exact y_92
          refine tz_istore (pc := 95) (L2 := [_, _, _, _, _, _, _]) dX5_readCompound_95 (by decide) rfl ?_
          refine tz_iload_n (pc := 97) dX5_readCompound_97 rfl rfl ?_
          refine tz_iconst (pc := 98) dX5_readCompound_98 ?_
          refine tz_icmp_ge (pc := 99) (tgt := 106) dX5_readCompound_99 (by decide) (by omega) (by decide) (fun h_99 => ?_) (fun h_99 => ?_)
          · refine tz_aload_n (pc := 106) dX5_readCompound_106 rfl rfl ?_
            refine tz_bipush (pc := 107) dX5_readCompound_107 (by decide) ?_
            refine tz_iload_n (pc := 109) dX5_readCompound_109 rfl rfl ?_
            refine tz_cV (pc := 110) (w_readArg hl n _ _ _ (by decide) (by omega) T hT hF d9 hd9 H m_92 (pA2 T (pNx g) (J 3 z_32) dp).1 (q_92).1.2.1 (q_92).1.2.2.1 (q_92).2.1 a_92 (SI.a2 hT (SI.nx hS))) vl_X5_186 dX5_readCompound_110 o_163 rfl rfl (Nat.le_of_ble_eq_true rfl) ⟨(show (d9 + 1) + 1 ≤ d9 + 2 by omega), (show 8 + (3 + 11) + 40 * ((d9 + 1)) ≤ 40 * (d9 + 2) by omega)⟩ rfl rfl (Nat.le_of_ble_eq_true rfl) (Nat.le_of_ble_eq_true rfl) (fun r9 J_110 hq9 => ?_)
            obtain ⟨z_110, rfl, hz_110, m_110, g_110, u_110, x_110, y_110⟩ := hq9
            have q_110 := RT.tr q_92 g_110
            have f_110 := g_110.2.2
            have l_110 := g_110.1.1
            have a_110 : XC J_110 (pA3 T (pNx g) (J 3 z_32) dp).1 := by unfold pA3; rw [if_pos (by omega)]; exact x_110
            have b_110 : VQ z_110 (pA3 T (pNx g) (J 3 z_32) dp) := by unfold pA3; rw [if_pos (by omega)]; exact y_110
            refine tz_istore (pc := 113) (L2 := [_, _, _, _, _, _, _]) dX5_readCompound_113 (by decide) rfl ?_
            refine tz_iload_n (pc := 115) dX5_readCompound_115 rfl rfl ?_
            refine tz_if_le (pc := 116) (tgt := 125) dX5_readCompound_116 (by decide) (by omega) (fun h_116 => ?_) (fun h_116 => ?_)
            · refine tz_aload_n (pc := 125) dX5_readCompound_125 rfl rfl ?_
              refine tz_fI (pc := 126) (kz := 8) (v := (J_110 163 8)) dX5_readCompound_126 fl_X5_24 i_163_8 rfl rfl (fun r_126 => ?_)
              refine tz_if_ne (pc := 129) (tgt := 156) dX5_readCompound_129 (by decide) (by omega) (fun h_129 => ?_) (fun h_129 => ?_)
              · refine tz_iconst (pc := 156) dX5_readCompound_156 ?_
                exact tz_iret (pc := 157) (z := (-1)) dX5_readCompound_157 rfl (Nat.le_of_ble_eq_true rfl) (Nat.le_of_ble_eq_true rfl) ⟨Nat.le_refl _, Nat.le_add_right _ _⟩ ⟨_, rfl, (by decide), (by have X4 : XC J_110 (pA4 T (pNx g) (J 3 z_32) dp) := (False.elim (by omega)); rw [(pK_4 (T := T) (d := dp) hX hS h9 h8 (by omega) (by omega) hb.1.1 hnm).2 (by omega), pMx_f (XC.no X4 (by omega))]; exact ⟨m_110, q_110, fun k => by omega, X4, fun k => absurd k (XC.no X4 (by omega))⟩)⟩
              · refine tz_aload_n (pc := 132) dX5_readCompound_132 rfl rfl ?_
                refine tz_aload_n (pc := 133) dX5_readCompound_133 rfl rfl ?_
                refine tz_fR (pc := 134) dX5_readCompound_134 fl_X5_38 r_163_1 ?_
                refine tz_fR (pc := 137) dX5_readCompound_137 fl_X5_42 r_5_0 ?_
                refine tz_iload_n (pc := 140) dX5_readCompound_140 rfl rfl ?_
                refine tz_iload (pc := 141) dX5_readCompound_141 rfl ?_
                refine tz_iload (pc := 143) dX5_readCompound_143 rfl ?_
                refine tz_iload (pc := 145) dX5_readCompound_145 rfl ?_
                have x1 := (q_110).1.2.2.2.2 1 rfl
                have x3 := (q_110).1.2.2.2.2 3 rfl
                have t_147 := (q_110).1.2.1.told
                have ra : arh (J_110 3) z_32 = J 3 z_32 := by rw [x3]; exact if_neg (by omega)
                have X4 : XC J_110 (pA4 T (pNx g) (J 3 z_32) dp) := (False.elim (by omega))
                refine tz_cV (pc := 147) (c_made hl n _ _ _ _ _ (by omega) (by omega) (by omega) (by omega) m_110 (q_110).1.2.1 (q_110).1.2.2.1 (by rw [x1]; omega) (ltA_of (by omega) (by omega) (by omega))) vl_X5_189 dX5_readCompound_147 o_6 rfl rfl (Nat.le_of_ble_eq_true rfl) ⟨(show 2 + 1 ≤ d9 + 2 by omega), (show 8 + (11 + 11) + 40 * (2) ≤ 40 * (d9 + 2) by omega)⟩ rfl rfl (Nat.le_of_ble_eq_true rfl) (Nat.le_of_ble_eq_true rfl) (fun r9 J_147 hq9 => ?_)
                obtain ⟨z_147, rfl, hz_147, p_147⟩ := hq9
                obtain ⟨m_147, y_147, h_147⟩ := GR.made p_147 (by omega)
                have q_147 := RT.made q_110 y_147
                have x_147 := XC.made (x := (pA1 T (pNx g) (J 3 z_32) dp).2) (y := (pA2 T (pNx g) (J 3 z_32) dp).2) (w := (pA3 T (pNx g) (J 3 z_32) dp).2) X4 (by omega) (q_110).1.2.1 (q_110).1.2.2.1 (by rw [x1]; omega) (fun k => ⟨fun u => by omega, fun _ => b_92 (pA_0 hF k).2.1, fun _ => b_110 (pA_0 hF k).1⟩) ⟨fun u => by omega, fun u => by omega, fun u => by omega⟩ p_147
                refine tz_cV (pc := 150) (w_held hl n _ _ (by omega) _ x_147.1 x_147.2.2) vl_X5_180 dX5_readCompound_150 o_163 rfl rfl (Nat.le_of_ble_eq_true rfl) ⟨(show 1 + 1 ≤ d9 + 2 by omega), (show 8 + (2 + 11) + 40 * (1) ≤ 40 * (d9 + 2) by omega)⟩ rfl rfl (Nat.le_of_ble_eq_true rfl) (Nat.le_of_ble_eq_true rfl) (fun r9 J_150 hq9 => ?_)
                obtain ⟨z_150, rfl, hz_150, g_150, d_150, u_150, x_150, o_150⟩ := hq9
                have q_150 := RT.rn q_147 g_150 (d_150 (q_147).2.1)
                refine tz_goto (pc := 153) (tgt := 157) dX5_readCompound_153 (by decide) ?_
                exact tz_iret (pc := 157) (z := z_150) dX5_readCompound_157 rfl (Nat.le_of_ble_eq_true rfl) (Nat.le_of_ble_eq_true rfl) ⟨Nat.le_refl _, Nat.le_add_right _ _⟩ ⟨_, rfl, (by omega), (by rw [(pK_4 (T := T) (d := dp) hX hS h9 h8 (by omega) (by omega) hb.1.1 hnm).2 (by omega)]; exact ⟨m_147, q_150, fun k => by have := u_150 k; omega, x_150, fun k => by have a := x_147.2.1 k; rcases (show z_147 < 0 ∨ 0 ≤ z_147 by omega) with b | b; (have := x_147.2.2 b; omega); exact (o_150 b).trans a⟩)⟩
            · refine tz_aload_n (pc := 119) dX5_readCompound_119 rfl rfl ?_
              refine tz_bipush (pc := 120) dX5_readCompound_120 (by decide) ?_
              have b_122 := (q_110).2.1
              obtain ⟨⟨⟨b1_122, b2_122⟩, b3_122, b4_122⟩, b5_122⟩ := id b_122
              refine tz_cV (pc := 122) (w_pass hl n _ _ (by omega) (pA3 T (pNx g) (J 3 z_32) dp).1 b_122 a_110 (SI.a3 hT (SI.nx hS))) vl_X5_116 dX5_readCompound_122 o_163 rfl rfl (Nat.le_of_ble_eq_true rfl) ⟨(show 2 + 1 ≤ d9 + 2 by omega), (show 8 + (2 + 11) + 40 * (2) ≤ 40 * (d9 + 2) by omega)⟩ rfl rfl (Nat.le_of_ble_eq_true rfl) (Nat.le_of_ble_eq_true rfl) (fun r9 J_122 hq9 => ?_)
              obtain ⟨rfl, g_122, d_122, x_122⟩ := hq9
              have q_122 := RT.rn q_110 g_122 d_122
              have f_122 := g_122.2.2
              refine tz_aload_n (pc := 125) dX5_readCompound_125 rfl rfl ?_
              refine tz_fI (pc := 126) (kz := 8) (v := (J_122 163 8)) dX5_readCompound_126 fl_X5_24 i_163_8 rfl rfl (fun r_126 => ?_)
              refine tz_if_ne (pc := 129) (tgt := 156) dX5_readCompound_129 (by decide) (by omega) (fun h_129 => ?_) (fun h_129 => ?_)
              · refine tz_iconst (pc := 156) dX5_readCompound_156 ?_
                exact tz_iret (pc := 157) (z := (-1)) dX5_readCompound_157 rfl (Nat.le_of_ble_eq_true rfl) (Nat.le_of_ble_eq_true rfl) ⟨Nat.le_refl _, Nat.le_add_right _ _⟩ ⟨_, rfl, (by decide), (by have X4 : XC J_122 (pA4 T (pNx g) (J 3 z_32) dp) := (by unfold pA4; rw [if_pos (by omega)]; exact x_122); rw [(pK_4 (T := T) (d := dp) hX hS h9 h8 (by omega) (by omega) hb.1.1 hnm).2 (by omega), pMx_f (XC.no X4 (by omega))]; exact ⟨m_110, q_122, fun k => by omega, X4, fun k => absurd k (XC.no X4 (by omega))⟩)⟩
              · refine tz_aload_n (pc := 132) dX5_readCompound_132 rfl rfl ?_
                refine tz_aload_n (pc := 133) dX5_readCompound_133 rfl rfl ?_
                refine tz_fR (pc := 134) dX5_readCompound_134 fl_X5_38 r_163_1 ?_
                refine tz_fR (pc := 137) dX5_readCompound_137 fl_X5_42 r_5_0 ?_
                refine tz_iload_n (pc := 140) dX5_readCompound_140 rfl rfl ?_
                refine tz_iload (pc := 141) dX5_readCompound_141 rfl ?_
                refine tz_iload (pc := 143) dX5_readCompound_143 rfl ?_
                refine tz_iload (pc := 145) dX5_readCompound_145 rfl ?_
                have x1 := (q_122).1.2.2.2.2 1 rfl
                have x3 := (q_122).1.2.2.2.2 3 rfl
                have t_147 := (q_122).1.2.1.told
                have ra : arh (J_122 3) z_32 = J 3 z_32 := by rw [x3]; exact if_neg (by omega)
                have X4 : XC J_122 (pA4 T (pNx g) (J 3 z_32) dp) := (by unfold pA4; rw [if_pos (by omega)]; exact x_122)
                refine tz_cV (pc := 147) (c_made hl n _ _ _ _ _ (by omega) (by omega) (by omega) (by omega) m_110 (q_122).1.2.1 (q_122).1.2.2.1 (by rw [x1]; omega) (ltA_of (by omega) (by omega) (by omega))) vl_X5_189 dX5_readCompound_147 o_6 rfl rfl (Nat.le_of_ble_eq_true rfl) ⟨(show 2 + 1 ≤ d9 + 2 by omega), (show 8 + (11 + 11) + 40 * (2) ≤ 40 * (d9 + 2) by omega)⟩ rfl rfl (Nat.le_of_ble_eq_true rfl) (Nat.le_of_ble_eq_true rfl) (fun r9 J_147 hq9 => ?_)
                obtain ⟨z_147, rfl, hz_147, p_147⟩ := hq9
                obtain ⟨m_147, y_147, h_147⟩ := GR.made p_147 (by omega)
                have q_147 := RT.made q_122 y_147
                have x_147 := XC.made (x := (pA1 T (pNx g) (J 3 z_32) dp).2) (y := (pA2 T (pNx g) (J 3 z_32) dp).2) (w := (pA3 T (pNx g) (J 3 z_32) dp).2) X4 (by omega) (q_122).1.2.1 (q_122).1.2.2.1 (by rw [x1]; omega) (fun k => ⟨fun u => by omega, fun _ => b_92 (pA_0 hF k).2.1, fun _ => b_110 (pA_0 hF k).1⟩) ⟨fun u => by omega, fun u => by omega, fun u => by omega⟩ p_147
                refine tz_cV (pc := 150) (w_held hl n _ _ (by omega) _ x_147.1 x_147.2.2) vl_X5_180 dX5_readCompound_150 o_163 rfl rfl (Nat.le_of_ble_eq_true rfl) ⟨(show 1 + 1 ≤ d9 + 2 by omega), (show 8 + (2 + 11) + 40 * (1) ≤ 40 * (d9 + 2) by omega)⟩ rfl rfl (Nat.le_of_ble_eq_true rfl) (Nat.le_of_ble_eq_true rfl) (fun r9 J_150 hq9 => ?_)
                obtain ⟨z_150, rfl, hz_150, g_150, d_150, u_150, x_150, o_150⟩ := hq9
                have q_150 := RT.rn q_147 g_150 (d_150 (q_147).2.1)
                refine tz_goto (pc := 153) (tgt := 157) dX5_readCompound_153 (by decide) ?_
                exact tz_iret (pc := 157) (z := z_150) dX5_readCompound_157 rfl (Nat.le_of_ble_eq_true rfl) (Nat.le_of_ble_eq_true rfl) ⟨Nat.le_refl _, Nat.le_add_right _ _⟩ ⟨_, rfl, (by omega), (by rw [(pK_4 (T := T) (d := dp) hX hS h9 h8 (by omega) (by omega) hb.1.1 hnm).2 (by omega)]; exact ⟨m_147, q_150, fun k => by have := u_150 k; omega, x_150, fun k => by have a := x_147.2.1 k; rcases (show z_147 < 0 ∨ 0 ≤ z_147 by omega) with b | b; (have := x_147.2.2 b; omega); exact (o_150 b).trans a⟩)⟩
          · refine tz_iconst (pc := 102) dX5_readCompound_102 ?_
            refine tz_goto (pc := 103) (tgt := 113) dX5_readCompound_103 (by decide) ?_
            refine tz_istore (pc := 113) (L2 := [_, _, _, _, _, _, _]) dX5_readCompound_113 (by decide) rfl ?_
            refine tz_iload_n (pc := 115) dX5_readCompound_115 rfl rfl ?_
            refine tz_if_le (pc := 116) (tgt := 125) dX5_readCompound_116 (by decide) (by omega) (fun h_116 => ?_) (fun h_116 => ?_)
            · refine tz_aload_n (pc := 125) dX5_readCompound_125 rfl rfl ?_
              refine tz_fI (pc := 126) (kz := 8) (v := (J_92 163 8)) dX5_readCompound_126 fl_X5_24 i_163_8 rfl rfl (fun r_126 => ?_)
              refine tz_if_ne (pc := 129) (tgt := 156) dX5_readCompound_129 (by decide) (by omega) (fun h_129 => ?_) (fun h_129 => ?_)
              · refine tz_iconst (pc := 156) dX5_readCompound_156 ?_
                exact tz_iret (pc := 157) (z := (-1)) dX5_readCompound_157 rfl (Nat.le_of_ble_eq_true rfl) (Nat.le_of_ble_eq_true rfl) ⟨Nat.le_refl _, Nat.le_add_right _ _⟩ ⟨_, rfl, (by decide), (by have X4 : XC J_92 (pA4 T (pNx g) (J 3 z_32) dp) := (False.elim (by omega)); rw [(pK_4 (T := T) (d := dp) hX hS h9 h8 (by omega) (by omega) hb.1.1 hnm).2 (by omega), pMx_f (XC.no X4 (by omega))]; exact ⟨m_92, q_92, fun k => by omega, X4, fun k => absurd k (XC.no X4 (by omega))⟩)⟩
              · refine tz_aload_n (pc := 132) dX5_readCompound_132 rfl rfl ?_
                refine tz_aload_n (pc := 133) dX5_readCompound_133 rfl rfl ?_
                refine tz_fR (pc := 134) dX5_readCompound_134 fl_X5_38 r_163_1 ?_
                refine tz_fR (pc := 137) dX5_readCompound_137 fl_X5_42 r_5_0 ?_
                refine tz_iload_n (pc := 140) dX5_readCompound_140 rfl rfl ?_
                refine tz_iload (pc := 141) dX5_readCompound_141 rfl ?_
                refine tz_iload (pc := 143) dX5_readCompound_143 rfl ?_
                refine tz_iload (pc := 145) dX5_readCompound_145 rfl ?_
                have x1 := (q_92).1.2.2.2.2 1 rfl
                have x3 := (q_92).1.2.2.2.2 3 rfl
                have t_147 := (q_92).1.2.1.told
                have ra : arh (J_92 3) z_32 = J 3 z_32 := by rw [x3]; exact if_neg (by omega)
                have X4 : XC J_92 (pA4 T (pNx g) (J 3 z_32) dp) := (False.elim (by omega))
                refine tz_cV (pc := 147) (c_made hl n _ _ _ _ _ (by omega) (by omega) (by omega) (by omega) m_92 (q_92).1.2.1 (q_92).1.2.2.1 (by rw [x1]; omega) (ltA_of (by omega) (by omega) (by omega))) vl_X5_189 dX5_readCompound_147 o_6 rfl rfl (Nat.le_of_ble_eq_true rfl) ⟨(show 2 + 1 ≤ d9 + 2 by omega), (show 8 + (11 + 11) + 40 * (2) ≤ 40 * (d9 + 2) by omega)⟩ rfl rfl (Nat.le_of_ble_eq_true rfl) (Nat.le_of_ble_eq_true rfl) (fun r9 J_147 hq9 => ?_)
                obtain ⟨z_147, rfl, hz_147, p_147⟩ := hq9
                obtain ⟨m_147, y_147, h_147⟩ := GR.made p_147 (by omega)
                have q_147 := RT.made q_92 y_147
                have x_147 := XC.made (x := (pA1 T (pNx g) (J 3 z_32) dp).2) (y := (pA2 T (pNx g) (J 3 z_32) dp).2) (w := (pA3 T (pNx g) (J 3 z_32) dp).2) X4 (by omega) (q_92).1.2.1 (q_92).1.2.2.1 (by rw [x1]; omega) (fun k => ⟨fun u => by omega, fun _ => b_92 (pA_0 hF k).2.1, fun u => by omega⟩) ⟨fun u => by omega, fun u => by omega, fun u => by omega⟩ p_147
                refine tz_cV (pc := 150) (w_held hl n _ _ (by omega) _ x_147.1 x_147.2.2) vl_X5_180 dX5_readCompound_150 o_163 rfl rfl (Nat.le_of_ble_eq_true rfl) ⟨(show 1 + 1 ≤ d9 + 2 by omega), (show 8 + (2 + 11) + 40 * (1) ≤ 40 * (d9 + 2) by omega)⟩ rfl rfl (Nat.le_of_ble_eq_true rfl) (Nat.le_of_ble_eq_true rfl) (fun r9 J_150 hq9 => ?_)
                obtain ⟨z_150, rfl, hz_150, g_150, d_150, u_150, x_150, o_150⟩ := hq9
                have q_150 := RT.rn q_147 g_150 (d_150 (q_147).2.1)
                refine tz_goto (pc := 153) (tgt := 157) dX5_readCompound_153 (by decide) ?_
                exact tz_iret (pc := 157) (z := z_150) dX5_readCompound_157 rfl (Nat.le_of_ble_eq_true rfl) (Nat.le_of_ble_eq_true rfl) ⟨Nat.le_refl _, Nat.le_add_right _ _⟩ ⟨_, rfl, (by omega), (by rw [(pK_4 (T := T) (d := dp) hX hS h9 h8 (by omega) (by omega) hb.1.1 hnm).2 (by omega)]; exact ⟨m_147, q_150, fun k => by have := u_150 k; omega, x_150, fun k => by have a := x_147.2.1 k; rcases (show z_147 < 0 ∨ 0 ≤ z_147 by omega) with b | b; (have := x_147.2.2 b; omega); exact (o_150 b).trans a⟩)⟩
            · refine tz_aload_n (pc := 119) dX5_readCompound_119 rfl rfl ?_
              refine tz_bipush (pc := 120) dX5_readCompound_120 (by decide) ?_
              have b_122 := (q_92).2.1
              obtain ⟨⟨⟨b1_122, b2_122⟩, b3_122, b4_122⟩, b5_122⟩ := id b_122
              refine tz_cV (pc := 122) (w_pass hl n _ _ (by omega) (pA3 T (pNx g) (J 3 z_32) dp).1 b_122 (by unfold pA3; rw [if_neg (by omega)]; exact a_92) (SI.a3 hT (SI.nx hS))) vl_X5_116 dX5_readCompound_122 o_163 rfl rfl (Nat.le_of_ble_eq_true rfl) ⟨(show 2 + 1 ≤ d9 + 2 by omega), (show 8 + (2 + 11) + 40 * (2) ≤ 40 * (d9 + 2) by omega)⟩ rfl rfl (Nat.le_of_ble_eq_true rfl) (Nat.le_of_ble_eq_true rfl) (fun r9 J_122 hq9 => ?_)
              obtain ⟨rfl, g_122, d_122, x_122⟩ := hq9
              have q_122 := RT.rn q_92 g_122 d_122
              have f_122 := g_122.2.2
              refine tz_aload_n (pc := 125) dX5_readCompound_125 rfl rfl ?_
              refine tz_fI (pc := 126) (kz := 8) (v := (J_122 163 8)) dX5_readCompound_126 fl_X5_24 i_163_8 rfl rfl (fun r_126 => ?_)
              refine tz_if_ne (pc := 129) (tgt := 156) dX5_readCompound_129 (by decide) (by omega) (fun h_129 => ?_) (fun h_129 => ?_)
              · refine tz_iconst (pc := 156) dX5_readCompound_156 ?_
                exact tz_iret (pc := 157) (z := (-1)) dX5_readCompound_157 rfl (Nat.le_of_ble_eq_true rfl) (Nat.le_of_ble_eq_true rfl) ⟨Nat.le_refl _, Nat.le_add_right _ _⟩ ⟨_, rfl, (by decide), (by have X4 : XC J_122 (pA4 T (pNx g) (J 3 z_32) dp) := (by unfold pA4; rw [if_pos (by omega)]; exact x_122); rw [(pK_4 (T := T) (d := dp) hX hS h9 h8 (by omega) (by omega) hb.1.1 hnm).2 (by omega), pMx_f (XC.no X4 (by omega))]; exact ⟨m_92, q_122, fun k => by omega, X4, fun k => absurd k (XC.no X4 (by omega))⟩)⟩
              · refine tz_aload_n (pc := 132) dX5_readCompound_132 rfl rfl ?_
                refine tz_aload_n (pc := 133) dX5_readCompound_133 rfl rfl ?_
                refine tz_fR (pc := 134) dX5_readCompound_134 fl_X5_38 r_163_1 ?_
                refine tz_fR (pc := 137) dX5_readCompound_137 fl_X5_42 r_5_0 ?_
                refine tz_iload_n (pc := 140) dX5_readCompound_140 rfl rfl ?_
                refine tz_iload (pc := 141) dX5_readCompound_141 rfl ?_
                refine tz_iload (pc := 143) dX5_readCompound_143 rfl ?_
                refine tz_iload (pc := 145) dX5_readCompound_145 rfl ?_
                have x1 := (q_122).1.2.2.2.2 1 rfl
                have x3 := (q_122).1.2.2.2.2 3 rfl
                have t_147 := (q_122).1.2.1.told
                have ra : arh (J_122 3) z_32 = J 3 z_32 := by rw [x3]; exact if_neg (by omega)
                have X4 : XC J_122 (pA4 T (pNx g) (J 3 z_32) dp) := (by unfold pA4; rw [if_pos (by omega)]; exact x_122)
                refine tz_cV (pc := 147) (c_made hl n _ _ _ _ _ (by omega) (by omega) (by omega) (by omega) m_92 (q_122).1.2.1 (q_122).1.2.2.1 (by rw [x1]; omega) (ltA_of (by omega) (by omega) (by omega))) vl_X5_189 dX5_readCompound_147 o_6 rfl rfl (Nat.le_of_ble_eq_true rfl) ⟨(show 2 + 1 ≤ d9 + 2 by omega), (show 8 + (11 + 11) + 40 * (2) ≤ 40 * (d9 + 2) by omega)⟩ rfl rfl (Nat.le_of_ble_eq_true rfl) (Nat.le_of_ble_eq_true rfl) (fun r9 J_147 hq9 => ?_)
                obtain ⟨z_147, rfl, hz_147, p_147⟩ := hq9
                obtain ⟨m_147, y_147, h_147⟩ := GR.made p_147 (by omega)
                have q_147 := RT.made q_122 y_147
                have x_147 := XC.made (x := (pA1 T (pNx g) (J 3 z_32) dp).2) (y := (pA2 T (pNx g) (J 3 z_32) dp).2) (w := (pA3 T (pNx g) (J 3 z_32) dp).2) X4 (by omega) (q_122).1.2.1 (q_122).1.2.2.1 (by rw [x1]; omega) (fun k => ⟨fun u => by omega, fun _ => b_92 (pA_0 hF k).2.1, fun u => by omega⟩) ⟨fun u => by omega, fun u => by omega, fun u => by omega⟩ p_147
                refine tz_cV (pc := 150) (w_held hl n _ _ (by omega) _ x_147.1 x_147.2.2) vl_X5_180 dX5_readCompound_150 o_163 rfl rfl (Nat.le_of_ble_eq_true rfl) ⟨(show 1 + 1 ≤ d9 + 2 by omega), (show 8 + (2 + 11) + 40 * (1) ≤ 40 * (d9 + 2) by omega)⟩ rfl rfl (Nat.le_of_ble_eq_true rfl) (Nat.le_of_ble_eq_true rfl) (fun r9 J_150 hq9 => ?_)
                obtain ⟨z_150, rfl, hz_150, g_150, d_150, u_150, x_150, o_150⟩ := hq9
                have q_150 := RT.rn q_147 g_150 (d_150 (q_147).2.1)
                refine tz_goto (pc := 153) (tgt := 157) dX5_readCompound_153 (by decide) ?_
                exact tz_iret (pc := 157) (z := z_150) dX5_readCompound_157 rfl (Nat.le_of_ble_eq_true rfl) (Nat.le_of_ble_eq_true rfl) ⟨Nat.le_refl _, Nat.le_add_right _ _⟩ ⟨_, rfl, (by omega), (by rw [(pK_4 (T := T) (d := dp) hX hS h9 h8 (by omega) (by omega) hb.1.1 hnm).2 (by omega)]; exact ⟨m_147, q_150, fun k => by have := u_150 k; omega, x_150, fun k => by have a := x_147.2.1 k; rcases (show z_147 < 0 ∨ 0 ≤ z_147 by omega) with b | b; (have := x_147.2.2 b; omega); exact (o_150 b).trans a⟩)⟩
        · refine tz_iconst (pc := 84) dX5_readCompound_84 ?_
          refine tz_goto (pc := 85) (tgt := 95) dX5_readCompound_85 (by decide) ?_
          refine tz_istore (pc := 95) (L2 := [_, _, _, _, _, _, _]) dX5_readCompound_95 (by decide) rfl ?_
          refine tz_iload_n (pc := 97) dX5_readCompound_97 rfl rfl ?_
          refine tz_iconst (pc := 98) dX5_readCompound_98 ?_
          refine tz_icmp_ge (pc := 99) (tgt := 106) dX5_readCompound_99 (by decide) (by omega) (by decide) (fun h_99 => ?_) (fun h_99 => ?_)
          · refine tz_aload_n (pc := 106) dX5_readCompound_106 rfl rfl ?_
            refine tz_bipush (pc := 107) dX5_readCompound_107 (by decide) ?_
            refine tz_iload_n (pc := 109) dX5_readCompound_109 rfl rfl ?_
            refine tz_cV (pc := 110) (w_readArg hl n _ _ _ (by decide) (by omega) T hT hF d9 hd9 H m (pA2 T (pNx g) (J 3 z_32) dp).1 (q_48).1.2.1 (q_48).1.2.2.1 (q_48).2.1 (False.elim (by omega)) (SI.a2 hT (SI.nx hS))) vl_X5_186 dX5_readCompound_110 o_163 rfl rfl (Nat.le_of_ble_eq_true rfl) ⟨(show (d9 + 1) + 1 ≤ d9 + 2 by omega), (show 8 + (3 + 11) + 40 * ((d9 + 1)) ≤ 40 * (d9 + 2) by omega)⟩ rfl rfl (Nat.le_of_ble_eq_true rfl) (Nat.le_of_ble_eq_true rfl) (fun r9 J_110 hq9 => ?_)
            obtain ⟨z_110, rfl, hz_110, m_110, g_110, u_110, x_110, y_110⟩ := hq9
            have q_110 := RT.tr q_48 g_110
            have f_110 := g_110.2.2
            have l_110 := g_110.1.1
            have a_110 : XC J_110 (pA3 T (pNx g) (J 3 z_32) dp).1 := by unfold pA3; rw [if_pos (by omega)]; exact x_110
            have b_110 : VQ z_110 (pA3 T (pNx g) (J 3 z_32) dp) := by unfold pA3; rw [if_pos (by omega)]; exact y_110
            refine tz_istore (pc := 113) (L2 := [_, _, _, _, _, _, _]) dX5_readCompound_113 (by decide) rfl ?_
            refine tz_iload_n (pc := 115) dX5_readCompound_115 rfl rfl ?_
            refine tz_if_le (pc := 116) (tgt := 125) dX5_readCompound_116 (by decide) (by omega) (fun h_116 => ?_) (fun h_116 => ?_)
            · refine tz_aload_n (pc := 125) dX5_readCompound_125 rfl rfl ?_
              refine tz_fI (pc := 126) (kz := 8) (v := (J_110 163 8)) dX5_readCompound_126 fl_X5_24 i_163_8 rfl rfl (fun r_126 => ?_)
              refine tz_if_ne (pc := 129) (tgt := 156) dX5_readCompound_129 (by decide) (by omega) (fun h_129 => ?_) (fun h_129 => ?_)
              · refine tz_iconst (pc := 156) dX5_readCompound_156 ?_
                exact tz_iret (pc := 157) (z := (-1)) dX5_readCompound_157 rfl (Nat.le_of_ble_eq_true rfl) (Nat.le_of_ble_eq_true rfl) ⟨Nat.le_refl _, Nat.le_add_right _ _⟩ ⟨_, rfl, (by decide), (by have X4 : XC J_110 (pA4 T (pNx g) (J 3 z_32) dp) := (False.elim (by omega)); rw [(pK_4 (T := T) (d := dp) hX hS h9 h8 (by omega) (by omega) hb.1.1 hnm).2 (by omega), pMx_f (XC.no X4 (by omega))]; exact ⟨m_110, q_110, fun k => by omega, X4, fun k => absurd k (XC.no X4 (by omega))⟩)⟩
              · refine tz_aload_n (pc := 132) dX5_readCompound_132 rfl rfl ?_
                refine tz_aload_n (pc := 133) dX5_readCompound_133 rfl rfl ?_
                refine tz_fR (pc := 134) dX5_readCompound_134 fl_X5_38 r_163_1 ?_
                refine tz_fR (pc := 137) dX5_readCompound_137 fl_X5_42 r_5_0 ?_
                refine tz_iload_n (pc := 140) dX5_readCompound_140 rfl rfl ?_
                refine tz_iload (pc := 141) dX5_readCompound_141 rfl ?_
                refine tz_iload (pc := 143) dX5_readCompound_143 rfl ?_
                refine tz_iload (pc := 145) dX5_readCompound_145 rfl ?_
                have x1 := (q_110).1.2.2.2.2 1 rfl
                have x3 := (q_110).1.2.2.2.2 3 rfl
                have t_147 := (q_110).1.2.1.told
                have ra : arh (J_110 3) z_32 = J 3 z_32 := by rw [x3]; exact if_neg (by omega)
                have X4 : XC J_110 (pA4 T (pNx g) (J 3 z_32) dp) := (False.elim (by omega))
                refine tz_cV (pc := 147) (c_made hl n _ _ _ _ _ (by omega) (by omega) (by omega) (by omega) m_110 (q_110).1.2.1 (q_110).1.2.2.1 (by rw [x1]; omega) (ltA_of (by omega) (by omega) (by omega))) vl_X5_189 dX5_readCompound_147 o_6 rfl rfl (Nat.le_of_ble_eq_true rfl) ⟨(show 2 + 1 ≤ d9 + 2 by omega), (show 8 + (11 + 11) + 40 * (2) ≤ 40 * (d9 + 2) by omega)⟩ rfl rfl (Nat.le_of_ble_eq_true rfl) (Nat.le_of_ble_eq_true rfl) (fun r9 J_147 hq9 => ?_)
                obtain ⟨z_147, rfl, hz_147, p_147⟩ := hq9
                obtain ⟨m_147, y_147, h_147⟩ := GR.made p_147 (by omega)
                have q_147 := RT.made q_110 y_147
                have x_147 := XC.made (x := (pA1 T (pNx g) (J 3 z_32) dp).2) (y := (pA2 T (pNx g) (J 3 z_32) dp).2) (w := (pA3 T (pNx g) (J 3 z_32) dp).2) X4 (by omega) (q_110).1.2.1 (q_110).1.2.2.1 (by rw [x1]; omega) (fun k => ⟨fun u => by omega, fun u => by omega, fun _ => b_110 (pA_0 hF k).1⟩) ⟨fun u => by omega, fun u => by omega, fun u => by omega⟩ p_147
                refine tz_cV (pc := 150) (w_held hl n _ _ (by omega) _ x_147.1 x_147.2.2) vl_X5_180 dX5_readCompound_150 o_163 rfl rfl (Nat.le_of_ble_eq_true rfl) ⟨(show 1 + 1 ≤ d9 + 2 by omega), (show 8 + (2 + 11) + 40 * (1) ≤ 40 * (d9 + 2) by omega)⟩ rfl rfl (Nat.le_of_ble_eq_true rfl) (Nat.le_of_ble_eq_true rfl) (fun r9 J_150 hq9 => ?_)
                obtain ⟨z_150, rfl, hz_150, g_150, d_150, u_150, x_150, o_150⟩ := hq9
                have q_150 := RT.rn q_147 g_150 (d_150 (q_147).2.1)
                refine tz_goto (pc := 153) (tgt := 157) dX5_readCompound_153 (by decide) ?_
                exact tz_iret (pc := 157) (z := z_150) dX5_readCompound_157 rfl (Nat.le_of_ble_eq_true rfl) (Nat.le_of_ble_eq_true rfl) ⟨Nat.le_refl _, Nat.le_add_right _ _⟩ ⟨_, rfl, (by omega), (by rw [(pK_4 (T := T) (d := dp) hX hS h9 h8 (by omega) (by omega) hb.1.1 hnm).2 (by omega)]; exact ⟨m_147, q_150, fun k => by have := u_150 k; omega, x_150, fun k => by have a := x_147.2.1 k; rcases (show z_147 < 0 ∨ 0 ≤ z_147 by omega) with b | b; (have := x_147.2.2 b; omega); exact (o_150 b).trans a⟩)⟩
            · refine tz_aload_n (pc := 119) dX5_readCompound_119 rfl rfl ?_
              refine tz_bipush (pc := 120) dX5_readCompound_120 (by decide) ?_
              have b_122 := (q_110).2.1
              obtain ⟨⟨⟨b1_122, b2_122⟩, b3_122, b4_122⟩, b5_122⟩ := id b_122
              refine tz_cV (pc := 122) (w_pass hl n _ _ (by omega) (pA3 T (pNx g) (J 3 z_32) dp).1 b_122 a_110 (SI.a3 hT (SI.nx hS))) vl_X5_116 dX5_readCompound_122 o_163 rfl rfl (Nat.le_of_ble_eq_true rfl) ⟨(show 2 + 1 ≤ d9 + 2 by omega), (show 8 + (2 + 11) + 40 * (2) ≤ 40 * (d9 + 2) by omega)⟩ rfl rfl (Nat.le_of_ble_eq_true rfl) (Nat.le_of_ble_eq_true rfl) (fun r9 J_122 hq9 => ?_)
              obtain ⟨rfl, g_122, d_122, x_122⟩ := hq9
              have q_122 := RT.rn q_110 g_122 d_122
              have f_122 := g_122.2.2
              refine tz_aload_n (pc := 125) dX5_readCompound_125 rfl rfl ?_
              refine tz_fI (pc := 126) (kz := 8) (v := (J_122 163 8)) dX5_readCompound_126 fl_X5_24 i_163_8 rfl rfl (fun r_126 => ?_)
              refine tz_if_ne (pc := 129) (tgt := 156) dX5_readCompound_129 (by decide) (by omega) (fun h_129 => ?_) (fun h_129 => ?_)
              · refine tz_iconst (pc := 156) dX5_readCompound_156 ?_
                exact tz_iret (pc := 157) (z := (-1)) dX5_readCompound_157 rfl (Nat.le_of_ble_eq_true rfl) (Nat.le_of_ble_eq_true rfl) ⟨Nat.le_refl _, Nat.le_add_right _ _⟩ ⟨_, rfl, (by decide), (by have X4 : XC J_122 (pA4 T (pNx g) (J 3 z_32) dp) := (by unfold pA4; rw [if_pos (by omega)]; exact x_122); rw [(pK_4 (T := T) (d := dp) hX hS h9 h8 (by omega) (by omega) hb.1.1 hnm).2 (by omega), pMx_f (XC.no X4 (by omega))]; exact ⟨m_110, q_122, fun k => by omega, X4, fun k => absurd k (XC.no X4 (by omega))⟩)⟩
              · refine tz_aload_n (pc := 132) dX5_readCompound_132 rfl rfl ?_
                refine tz_aload_n (pc := 133) dX5_readCompound_133 rfl rfl ?_
                refine tz_fR (pc := 134) dX5_readCompound_134 fl_X5_38 r_163_1 ?_
                refine tz_fR (pc := 137) dX5_readCompound_137 fl_X5_42 r_5_0 ?_
                refine tz_iload_n (pc := 140) dX5_readCompound_140 rfl rfl ?_
                refine tz_iload (pc := 141) dX5_readCompound_141 rfl ?_
                refine tz_iload (pc := 143) dX5_readCompound_143 rfl ?_
                refine tz_iload (pc := 145) dX5_readCompound_145 rfl ?_
                have x1 := (q_122).1.2.2.2.2 1 rfl
                have x3 := (q_122).1.2.2.2.2 3 rfl
                have t_147 := (q_122).1.2.1.told
                have ra : arh (J_122 3) z_32 = J 3 z_32 := by rw [x3]; exact if_neg (by omega)
                have X4 : XC J_122 (pA4 T (pNx g) (J 3 z_32) dp) := (by unfold pA4; rw [if_pos (by omega)]; exact x_122)
                refine tz_cV (pc := 147) (c_made hl n _ _ _ _ _ (by omega) (by omega) (by omega) (by omega) m_110 (q_122).1.2.1 (q_122).1.2.2.1 (by rw [x1]; omega) (ltA_of (by omega) (by omega) (by omega))) vl_X5_189 dX5_readCompound_147 o_6 rfl rfl (Nat.le_of_ble_eq_true rfl) ⟨(show 2 + 1 ≤ d9 + 2 by omega), (show 8 + (11 + 11) + 40 * (2) ≤ 40 * (d9 + 2) by omega)⟩ rfl rfl (Nat.le_of_ble_eq_true rfl) (Nat.le_of_ble_eq_true rfl) (fun r9 J_147 hq9 => ?_)
                obtain ⟨z_147, rfl, hz_147, p_147⟩ := hq9
                obtain ⟨m_147, y_147, h_147⟩ := GR.made p_147 (by omega)
                have q_147 := RT.made q_122 y_147
                have x_147 := XC.made (x := (pA1 T (pNx g) (J 3 z_32) dp).2) (y := (pA2 T (pNx g) (J 3 z_32) dp).2) (w := (pA3 T (pNx g) (J 3 z_32) dp).2) X4 (by omega) (q_122).1.2.1 (q_122).1.2.2.1 (by rw [x1]; omega) (fun k => ⟨fun u => by omega, fun u => by omega, fun _ => b_110 (pA_0 hF k).1⟩) ⟨fun u => by omega, fun u => by omega, fun u => by omega⟩ p_147
                refine tz_cV (pc := 150) (w_held hl n _ _ (by omega) _ x_147.1 x_147.2.2) vl_X5_180 dX5_readCompound_150 o_163 rfl rfl (Nat.le_of_ble_eq_true rfl) ⟨(show 1 + 1 ≤ d9 + 2 by omega), (show 8 + (2 + 11) + 40 * (1) ≤ 40 * (d9 + 2) by omega)⟩ rfl rfl (Nat.le_of_ble_eq_true rfl) (Nat.le_of_ble_eq_true rfl) (fun r9 J_150 hq9 => ?_)
                obtain ⟨z_150, rfl, hz_150, g_150, d_150, u_150, x_150, o_150⟩ := hq9
                have q_150 := RT.rn q_147 g_150 (d_150 (q_147).2.1)
                refine tz_goto (pc := 153) (tgt := 157) dX5_readCompound_153 (by decide) ?_
                exact tz_iret (pc := 157) (z := z_150) dX5_readCompound_157 rfl (Nat.le_of_ble_eq_true rfl) (Nat.le_of_ble_eq_true rfl) ⟨Nat.le_refl _, Nat.le_add_right _ _⟩ ⟨_, rfl, (by omega), (by rw [(pK_4 (T := T) (d := dp) hX hS h9 h8 (by omega) (by omega) hb.1.1 hnm).2 (by omega)]; exact ⟨m_147, q_150, fun k => by have := u_150 k; omega, x_150, fun k => by have a := x_147.2.1 k; rcases (show z_147 < 0 ∨ 0 ≤ z_147 by omega) with b | b; (have := x_147.2.2 b; omega); exact (o_150 b).trans a⟩)⟩
          · refine tz_iconst (pc := 102) dX5_readCompound_102 ?_
            refine tz_goto (pc := 103) (tgt := 113) dX5_readCompound_103 (by decide) ?_
            refine tz_istore (pc := 113) (L2 := [_, _, _, _, _, _, _]) dX5_readCompound_113 (by decide) rfl ?_
            refine tz_iload_n (pc := 115) dX5_readCompound_115 rfl rfl ?_
            refine tz_if_le (pc := 116) (tgt := 125) dX5_readCompound_116 (by decide) (by omega) (fun h_116 => ?_) (fun h_116 => ?_)
            · refine tz_aload_n (pc := 125) dX5_readCompound_125 rfl rfl ?_
              refine tz_fI (pc := 126) (kz := 8) (v := (J_48 163 8)) dX5_readCompound_126 fl_X5_24 i_163_8 rfl rfl (fun r_126 => ?_)
              refine tz_if_ne (pc := 129) (tgt := 156) dX5_readCompound_129 (by decide) (by omega) (fun h_129 => ?_) (fun h_129 => ?_)
              · refine tz_iconst (pc := 156) dX5_readCompound_156 ?_
                exact tz_iret (pc := 157) (z := (-1)) dX5_readCompound_157 rfl (Nat.le_of_ble_eq_true rfl) (Nat.le_of_ble_eq_true rfl) ⟨Nat.le_refl _, Nat.le_add_right _ _⟩ ⟨_, rfl, (by decide), (by have X4 : XC J_48 (pA4 T (pNx g) (J 3 z_32) dp) := (by unfold pA4 pA3 pA2 pA1; rw [if_neg (by omega), if_neg (by omega), if_neg (by omega), if_neg (by omega)]; exact x_48); rw [(pK_4 (T := T) (d := dp) hX hS h9 h8 (by omega) (by omega) hb.1.1 hnm).2 (by omega), pMx_f (XC.no X4 (by omega))]; exact ⟨m, q_48, fun k => by omega, X4, fun k => absurd k (XC.no X4 (by omega))⟩)⟩
              · refine tz_aload_n (pc := 132) dX5_readCompound_132 rfl rfl ?_
                refine tz_aload_n (pc := 133) dX5_readCompound_133 rfl rfl ?_
                refine tz_fR (pc := 134) dX5_readCompound_134 fl_X5_38 r_163_1 ?_
                refine tz_fR (pc := 137) dX5_readCompound_137 fl_X5_42 r_5_0 ?_
                refine tz_iload_n (pc := 140) dX5_readCompound_140 rfl rfl ?_
                refine tz_iload (pc := 141) dX5_readCompound_141 rfl ?_
                refine tz_iload (pc := 143) dX5_readCompound_143 rfl ?_
                refine tz_iload (pc := 145) dX5_readCompound_145 rfl ?_
                have x1 := (q_48).1.2.2.2.2 1 rfl
                have x3 := (q_48).1.2.2.2.2 3 rfl
                have t_147 := (q_48).1.2.1.told
                have ra : arh (J_48 3) z_32 = J 3 z_32 := by rw [x3]; exact if_neg (by omega)
                have X4 : XC J_48 (pA4 T (pNx g) (J 3 z_32) dp) := (by unfold pA4 pA3 pA2 pA1; rw [if_neg (by omega), if_neg (by omega), if_neg (by omega), if_neg (by omega)]; exact x_48)
                refine tz_cV (pc := 147) (c_made hl n _ _ _ _ _ (by omega) (by omega) (by omega) (by omega) m (q_48).1.2.1 (q_48).1.2.2.1 (by rw [x1]; omega) (ltA_of (by omega) (by omega) (by omega))) vl_X5_189 dX5_readCompound_147 o_6 rfl rfl (Nat.le_of_ble_eq_true rfl) ⟨(show 2 + 1 ≤ d9 + 2 by omega), (show 8 + (11 + 11) + 40 * (2) ≤ 40 * (d9 + 2) by omega)⟩ rfl rfl (Nat.le_of_ble_eq_true rfl) (Nat.le_of_ble_eq_true rfl) (fun r9 J_147 hq9 => ?_)
                obtain ⟨z_147, rfl, hz_147, p_147⟩ := hq9
                obtain ⟨m_147, y_147, h_147⟩ := GR.made p_147 (by omega)
                have q_147 := RT.made q_48 y_147
                have x_147 := XC.made (x := (pA1 T (pNx g) (J 3 z_32) dp).2) (y := (pA2 T (pNx g) (J 3 z_32) dp).2) (w := (pA3 T (pNx g) (J 3 z_32) dp).2) X4 (by omega) (q_48).1.2.1 (q_48).1.2.2.1 (by rw [x1]; omega) (fun k => ⟨fun u => by omega, fun u => by omega, fun u => by omega⟩) ⟨fun u => by omega, fun u => by omega, fun u => by omega⟩ p_147
                refine tz_cV (pc := 150) (w_held hl n _ _ (by omega) _ x_147.1 x_147.2.2) vl_X5_180 dX5_readCompound_150 o_163 rfl rfl (Nat.le_of_ble_eq_true rfl) ⟨(show 1 + 1 ≤ d9 + 2 by omega), (show 8 + (2 + 11) + 40 * (1) ≤ 40 * (d9 + 2) by omega)⟩ rfl rfl (Nat.le_of_ble_eq_true rfl) (Nat.le_of_ble_eq_true rfl) (fun r9 J_150 hq9 => ?_)
                obtain ⟨z_150, rfl, hz_150, g_150, d_150, u_150, x_150, o_150⟩ := hq9
                have q_150 := RT.rn q_147 g_150 (d_150 (q_147).2.1)
                refine tz_goto (pc := 153) (tgt := 157) dX5_readCompound_153 (by decide) ?_
                exact tz_iret (pc := 157) (z := z_150) dX5_readCompound_157 rfl (Nat.le_of_ble_eq_true rfl) (Nat.le_of_ble_eq_true rfl) ⟨Nat.le_refl _, Nat.le_add_right _ _⟩ ⟨_, rfl, (by omega), (by rw [(pK_4 (T := T) (d := dp) hX hS h9 h8 (by omega) (by omega) hb.1.1 hnm).2 (by omega)]; exact ⟨m_147, q_150, fun k => by have := u_150 k; omega, x_150, fun k => by have a := x_147.2.1 k; rcases (show z_147 < 0 ∨ 0 ≤ z_147 by omega) with b | b; (have := x_147.2.2 b; omega); exact (o_150 b).trans a⟩)⟩
            · refine tz_aload_n (pc := 119) dX5_readCompound_119 rfl rfl ?_
              refine tz_bipush (pc := 120) dX5_readCompound_120 (by decide) ?_
              have b_122 := (q_48).2.1
              obtain ⟨⟨⟨b1_122, b2_122⟩, b3_122, b4_122⟩, b5_122⟩ := id b_122
              refine tz_cV (pc := 122) (w_pass hl n _ _ (by omega) (pA3 T (pNx g) (J 3 z_32) dp).1 b_122 (False.elim (by omega)) (SI.a3 hT (SI.nx hS))) vl_X5_116 dX5_readCompound_122 o_163 rfl rfl (Nat.le_of_ble_eq_true rfl) ⟨(show 2 + 1 ≤ d9 + 2 by omega), (show 8 + (2 + 11) + 40 * (2) ≤ 40 * (d9 + 2) by omega)⟩ rfl rfl (Nat.le_of_ble_eq_true rfl) (Nat.le_of_ble_eq_true rfl) (fun r9 J_122 hq9 => ?_)
              obtain ⟨rfl, g_122, d_122, x_122⟩ := hq9
              have q_122 := RT.rn q_48 g_122 d_122
              have f_122 := g_122.2.2
              refine tz_aload_n (pc := 125) dX5_readCompound_125 rfl rfl ?_
              refine tz_fI (pc := 126) (kz := 8) (v := (J_122 163 8)) dX5_readCompound_126 fl_X5_24 i_163_8 rfl rfl (fun r_126 => ?_)
              refine tz_if_ne (pc := 129) (tgt := 156) dX5_readCompound_129 (by decide) (by omega) (fun h_129 => ?_) (fun h_129 => ?_)
              · refine tz_iconst (pc := 156) dX5_readCompound_156 ?_
                exact tz_iret (pc := 157) (z := (-1)) dX5_readCompound_157 rfl (Nat.le_of_ble_eq_true rfl) (Nat.le_of_ble_eq_true rfl) ⟨Nat.le_refl _, Nat.le_add_right _ _⟩ ⟨_, rfl, (by decide), (by have X4 : XC J_122 (pA4 T (pNx g) (J 3 z_32) dp) := (by unfold pA4; rw [if_pos (by omega)]; exact x_122); rw [(pK_4 (T := T) (d := dp) hX hS h9 h8 (by omega) (by omega) hb.1.1 hnm).2 (by omega), pMx_f (XC.no X4 (by omega))]; exact ⟨m, q_122, fun k => by omega, X4, fun k => absurd k (XC.no X4 (by omega))⟩)⟩
              · refine tz_aload_n (pc := 132) dX5_readCompound_132 rfl rfl ?_
                refine tz_aload_n (pc := 133) dX5_readCompound_133 rfl rfl ?_
                refine tz_fR (pc := 134) dX5_readCompound_134 fl_X5_38 r_163_1 ?_
                refine tz_fR (pc := 137) dX5_readCompound_137 fl_X5_42 r_5_0 ?_
                refine tz_iload_n (pc := 140) dX5_readCompound_140 rfl rfl ?_
                refine tz_iload (pc := 141) dX5_readCompound_141 rfl ?_
                refine tz_iload (pc := 143) dX5_readCompound_143 rfl ?_
                refine tz_iload (pc := 145) dX5_readCompound_145 rfl ?_
                have x1 := (q_122).1.2.2.2.2 1 rfl
                have x3 := (q_122).1.2.2.2.2 3 rfl
                have t_147 := (q_122).1.2.1.told
                have ra : arh (J_122 3) z_32 = J 3 z_32 := by rw [x3]; exact if_neg (by omega)
                have X4 : XC J_122 (pA4 T (pNx g) (J 3 z_32) dp) := (by unfold pA4; rw [if_pos (by omega)]; exact x_122)
                refine tz_cV (pc := 147) (c_made hl n _ _ _ _ _ (by omega) (by omega) (by omega) (by omega) m (q_122).1.2.1 (q_122).1.2.2.1 (by rw [x1]; omega) (ltA_of (by omega) (by omega) (by omega))) vl_X5_189 dX5_readCompound_147 o_6 rfl rfl (Nat.le_of_ble_eq_true rfl) ⟨(show 2 + 1 ≤ d9 + 2 by omega), (show 8 + (11 + 11) + 40 * (2) ≤ 40 * (d9 + 2) by omega)⟩ rfl rfl (Nat.le_of_ble_eq_true rfl) (Nat.le_of_ble_eq_true rfl) (fun r9 J_147 hq9 => ?_)
                obtain ⟨z_147, rfl, hz_147, p_147⟩ := hq9
                obtain ⟨m_147, y_147, h_147⟩ := GR.made p_147 (by omega)
                have q_147 := RT.made q_122 y_147
                have x_147 := XC.made (x := (pA1 T (pNx g) (J 3 z_32) dp).2) (y := (pA2 T (pNx g) (J 3 z_32) dp).2) (w := (pA3 T (pNx g) (J 3 z_32) dp).2) X4 (by omega) (q_122).1.2.1 (q_122).1.2.2.1 (by rw [x1]; omega) (fun k => ⟨fun u => by omega, fun u => by omega, fun u => by omega⟩) ⟨fun u => by omega, fun u => by omega, fun u => by omega⟩ p_147
                refine tz_cV (pc := 150) (w_held hl n _ _ (by omega) _ x_147.1 x_147.2.2) vl_X5_180 dX5_readCompound_150 o_163 rfl rfl (Nat.le_of_ble_eq_true rfl) ⟨(show 1 + 1 ≤ d9 + 2 by omega), (show 8 + (2 + 11) + 40 * (1) ≤ 40 * (d9 + 2) by omega)⟩ rfl rfl (Nat.le_of_ble_eq_true rfl) (Nat.le_of_ble_eq_true rfl) (fun r9 J_150 hq9 => ?_)
                obtain ⟨z_150, rfl, hz_150, g_150, d_150, u_150, x_150, o_150⟩ := hq9
                have q_150 := RT.rn q_147 g_150 (d_150 (q_147).2.1)
                refine tz_goto (pc := 153) (tgt := 157) dX5_readCompound_153 (by decide) ?_
                exact tz_iret (pc := 157) (z := z_150) dX5_readCompound_157 rfl (Nat.le_of_ble_eq_true rfl) (Nat.le_of_ble_eq_true rfl) ⟨Nat.le_refl _, Nat.le_add_right _ _⟩ ⟨_, rfl, (by omega), (by rw [(pK_4 (T := T) (d := dp) hX hS h9 h8 (by omega) (by omega) hb.1.1 hnm).2 (by omega)]; exact ⟨m_147, q_150, fun k => by have := u_150 k; omega, x_150, fun k => by have a := x_147.2.1 k; rcases (show z_147 < 0 ∨ 0 ≤ z_147 by omega) with b | b; (have := x_147.2.2 b; omega); exact (o_150 b).trans a⟩)⟩
    · refine tz_aload_n (pc := 41) dX5_readCompound_41 rfl rfl ?_
      refine tz_iconst (pc := 42) dX5_readCompound_42 ?_
      refine tz_cV (pc := 43) (w_fail hl n _ _ (by decide) g (by decide) hX) vl_X5_97 dX5_readCompound_43 o_163 rfl rfl (Nat.le_of_ble_eq_true rfl) ⟨(show 0 + 1 ≤ d9 + 2 by omega), (show 8 + (2 + 11) + 40 * (0) ≤ 40 * (d9 + 2) by omega)⟩ rfl rfl (Nat.le_of_ble_eq_true rfl) (Nat.le_of_ble_eq_true rfl) (fun r9 J_43 hq9 => ?_)
      obtain ⟨z_43, rfl, hz_43, g_43, d_43, e_43, v_43, x_43⟩ := hq9
      have q_43 := RT.rn g0 g_43 (d_43 (g0).2.1)
      exact tz_iret (pc := 46) (z := z_43) dX5_readCompound_46 rfl (Nat.le_of_ble_eq_true rfl) (Nat.le_of_ble_eq_true rfl) ⟨Nat.le_refl _, Nat.le_add_right _ _⟩ ⟨_, rfl, (by omega), ⟨m, q_43, fun k => absurd k v_43, by rw [(pK_4 (T := T) (d := dp) hX hS h9 h8 (by omega) (by omega) hb.1.1 hnm).1 (by omega)]; exact x_43, fun k => by rw [(pK_4 (T := T) (d := dp) hX hS h9 h8 (by omega) (by omega) hb.1.1 hnm).1 (by omega)] at k; exact absurd k (pFx_n (by decide))⟩⟩
  · refine tz_aload_n (pc := 13) dX5_readCompound_13 rfl rfl ?_
    refine tz_iconst (pc := 14) dX5_readCompound_14 ?_
    refine tz_cV (pc := 15) (w_fail hl n _ _ (by decide) g (by decide) hX) vl_X5_97 dX5_readCompound_15 o_163 rfl rfl (Nat.le_of_ble_eq_true rfl) ⟨(show 0 + 1 ≤ d9 + 2 by omega), (show 8 + (2 + 11) + 40 * (0) ≤ 40 * (d9 + 2) by omega)⟩ rfl rfl (Nat.le_of_ble_eq_true rfl) (Nat.le_of_ble_eq_true rfl) (fun r9 J_15 hq9 => ?_)
    obtain ⟨z_15, rfl, hz_15, g_15, d_15, e_15, v_15, x_15⟩ := hq9
    have q_15 := RT.rn g0 g_15 (d_15 (g0).2.1)
    exact tz_iret (pc := 18) (z := z_15) dX5_readCompound_18 rfl (Nat.le_of_ble_eq_true rfl) (Nat.le_of_ble_eq_true rfl) ⟨Nat.le_refl _, Nat.le_add_right _ _⟩ ⟨_, rfl, (by omega), ⟨m, q_15, fun k => absurd k v_15, by rw [pK_2 hX h9 h8 (by omega)]; exact x_15, fun k => by rw [pK_2 hX h9 h8 (by omega)] at k; exact absurd k (pFx_n (by decide))⟩⟩

