/-! ===== the class follows the reading: rules ===== -/
theorem XC.or {J' J g : zJ} (h : XC J g) (f : zOf (zbut [156, 157]) J' J) : XC J' g := by
  unfold XC RelC EC ET
  rw [f 163 rfl, f 162 rfl, f 1 rfl, f 2 rfl, f 3 rfl, f 4 rfl, f 6 rfl, f 7 rfl, f 8 rfl, f 12 rfl, f 9 rfl, f 19 rfl]
  exact h
theorem pT_z {k : Nat} {g : zJ} {d : Int} (h : (pT k g d).1 0 4 = 0) : g 0 4 = 0 := Classical.byContradiction (fun q => by rw [pT_f q] at h; exact q h)
theorem pTo_z {g : zJ} (h : (pTo g) 0 4 = 0) : g 0 4 = 0 := Classical.byContradiction (fun q => by rw [pTo_f q] at h; exact q h)
theorem pR2_z {g : zJ} (h : (pR2 g).1 0 4 = 0) : (pR1 g).1 0 4 = 0 := pTo_z (pT_z h)
theorem pR2_x {g : zJ} (nx9 : pNx g = pN g) : pT 8 (pTo (pT 8 (pNx g) 1).1) 1 = pR2 g := by rw [nx9]; rfl
theorem RU12 {Jt g : zJ} (h : g 165 135 < 8) (nx9 : pNx g = pN g) (x : XC Jt (pT 8 (pTo (pT 8 (pNx g) 1).1) 1).1) (hp : ¬ Jt 163 8 = 0 ∨ ¬ Jt 163 5 = 59) : pP (pRu g) 59 = pP (pT 8 (pTo (pT 8 (pNx g) 1).1) 1).1 59 := by
  rw [pR2_x nx9] at x ⊢
  unfold pRu
  rw [if_pos h]
  by_cases q : (pR2 g).1 0 4 = 0
  · have z := x.z q
    rcases x.k z with p | ⟨_, e3, _⟩
    · omega
    · rw [if_pos q, if_neg (by omega), pP_e q (by omega), pP_f (by show ¬ (1 : Int) = 0; decide)]
  · rw [if_neg q]
theorem RU34 {Jt g : zJ} {m u t : Int} (h : g 165 135 < 8) (nx9 : pNx g = pN g) (x : XC Jt (pT 8 (pTo (pT 8 (pNx g) 1).1) 1).1) (v1 : VQ u (pT 8 (pNx g) 1)) (v2 : VQ t (pT 8 (pTo (pT 8 (pNx g) 1).1) 1)) (h8 : Jt 163 8 = 0) (h5 : Jt 163 5 = 59) (C : CT Jt m) (hm : Jt 6 12 = m) (hu : 0 ≤ u ∧ u < m) (ht : 0 ≤ t ∧ t < m) : (¬ cru Jt u t → pP (pRu g) 59 = pP (pFx (pT 8 (pTo (pT 8 (pNx g) 1).1) 1).1 5) 59) ∧ (cru Jt u t → pRu g = if (pT 8 (pTo (pT 8 (pNx g) 1).1) 1).1 0 4 = 0 then zrl (pT 8 (pTo (pT 8 (pNx g) 1).1) 1).1 126 u t else (pT 8 (pTo (pT 8 (pNx g) 1).1) 1).1) := by
  rw [pR2_x nx9] at x v2 ⊢
  have v1 : VQ u (pR1 g) := by unfold pR1; rw [← nx9]; exact v1
  have hk := x.k h8
  unfold pRu pFx
  rw [if_pos h]
  rcases hk with p | ⟨q, e3, _, _, _, E⟩
  · have q : ¬ (pR2 g).1 0 4 = 0 := by omega
    rw [if_neg q, if_neg q, if_neg q]
    exact ⟨fun _ => rfl, fun _ => rfl⟩
  · have w := cru_et E.2.2.2 C hm hu ht
    rw [if_pos q, if_pos q, if_pos q, if_pos (by omega), ← v2 q, ← v1 (pR2_z q)]
    exact ⟨fun k => by rw [cif_neg (fun y => k (w.1 y))], fun k => by rw [cif_pos (w.2 k)]⟩
set_option maxHeartbeats 4000000 in
set_option maxRecDepth 100000 in
theorem w_readRule {l : Launch} {G : tb_G} (hl : l.stackTraces = false) (n : Nat) (J : zJ)   (m : Int) (g : zJ) (hnb : n ≤ tb_sc) (C : CT J m) (hm : J 6 12 = m) (hL : LI (J 19) m) (hD : RD2 J) (hX : XC J g) (hS : SI g) (h9 : g 0 4 = 0) (h3 : J 156 3 = -1) : tz_Ok l G M_X5_readRule 35 0 0 [.ref 163] n J (zqv (fun J' => ∃ m', RQ6 J' J m m' ∧ XC J' (pP (pRu g) 59))) zN := by
  refine tz_Ok.of hl (by decide +kernel) rfl (tb_c1 rfl) (Nat.le_of_ble_eq_true rfl) ?_
  show tz_At l G M_X5_readRule (tb_rm 35 0 0) none (tb_ZM G 0 0 (zQ n 0 (zqv (fun J' => ∃ m', RQ6 J' J m m' ∧ XC J' (pP (pRu g) 59)))) (zX n 0 zN)) 0 0 n J 0 [some (.ref 163), none, none] []
  have g0 : RQ6 J J m m := RQ6.rf C hm hL hD
  have h8 := hX.z h9
  have nx9 : pNx g = pN g := by unfold pNx; rw [if_pos h9]
  have h4 := hL.1.2.1
  refine tz_aload_n (pc := 0) dX5_readRule_0 rfl rfl ?_
  refine tz_fR (pc := 1) dX5_readRule_1 fl_X5_38 r_163_1 ?_
  refine tz_fR (pc := 4) dX5_readRule_4 fl_X5_138 r_5_1 ?_
  refine tz_fR (pc := 7) dX5_readRule_7 fl_X5_142 r_18_0 ?_
  refine tz_iconst (pc := 10) dX5_readRule_10 ?_
  refine tz_aL (pc := 11) (z := 4) (v := (J 19 4)) dX5_readRule_11 a_19 rfl (by decide) rfl (fun r_11 => ?_)
  refine tz_bipush (pc := 12) dX5_readRule_12 (by decide) ?_
  refine tz_icmp_lt (pc := 14) (tgt := 24) dX5_readRule_14 (by decide) (by omega) (by decide) (fun h_14 => ?_) (fun h_14 => ?_)
  · refine tz_aload_n (pc := 24) dX5_readRule_24 rfl rfl ?_
    have b_25 := (g0).1.2.2.2
    obtain ⟨⟨⟨b1_25, b2_25⟩, b3_25, b4_25⟩, b5_25⟩ := id b_25
    have t_25 := (g0).1.1.told
    refine tz_cV (pc := 25) (w_next hl n _ g b_25 hX (by omega)) vl_X5_65 dX5_readRule_25 o_163 rfl rfl (Nat.le_of_ble_eq_true rfl) ⟨(Nat.le_of_ble_eq_true rfl), (Nat.le_of_ble_eq_true rfl)⟩ rfl rfl (Nat.le_of_ble_eq_true rfl) (Nat.le_of_ble_eq_true rfl) (fun r9 J_25 hq9 => ?_)
    obtain ⟨rfl, g_25, d_25, v_25, x_25⟩ := hq9
    have q_25 := RQ6.rn g0 g_25 d_25
    have f_25 := g_25.2.2
    refine tz_aload_n (pc := 28) dX5_readRule_28 rfl rfl ?_
    refine tz_iconst (pc := 29) dX5_readRule_29 ?_
    refine tz_cV (pc := 30) (w_readTerm hl n _ m (pNx g) (q_25).1.1 (q_25).1.2.1 (q_25).1.2.2.2 x_25 (SI.nx hS)) vl_X5_113 dX5_readRule_30 o_163 rfl rfl (Nat.le_of_ble_eq_true rfl) ⟨(Nat.le_of_ble_eq_true rfl), (Nat.le_of_ble_eq_true rfl)⟩ rfl rfl (Nat.le_of_ble_eq_true rfl) (Nat.le_of_ble_eq_true rfl) (fun r9 J_30 hq9 => ?_)
    obtain ⟨z_30, rfl, hz_30, m_30, g_30, u_30, x_30, y_30⟩ := hq9
    have q_30 := RQ6.rt q_25 g_30
    have f_30 := g_30.2.2
    have l_30 := g_30.1.1
    refine tz_istore_n (pc := 33) (L2 := [_, _, _]) dX5_readRule_33 rfl (by decide) rfl ?_
    refine tz_aload_n (pc := 34) dX5_readRule_34 rfl rfl ?_
    have b_35 := (q_30).1.2.2.2
    obtain ⟨⟨⟨b1_35, b2_35⟩, b3_35, b4_35⟩, b5_35⟩ := id b_35
    have t_35 := (q_30).1.1.told
    refine tz_cV (pc := 35) (w_passTo hl n _ (pT 8 (pNx g) 1).1 hnb b_35 x_30 (SI.t 8 _ 1 (SI.nx hS))) vl_X5_147 dX5_readRule_35 o_163 rfl rfl (Nat.le_of_ble_eq_true rfl) ⟨(Nat.le_of_ble_eq_true rfl), (Nat.le_of_ble_eq_true rfl)⟩ rfl rfl (Nat.le_of_ble_eq_true rfl) (Nat.le_of_ble_eq_true rfl) (fun r9 J_35 hq9 => ?_)
    obtain ⟨rfl, g_35, d_35, x_35⟩ := hq9
    have q_35 := RQ6.rn q_30 g_35 d_35
    have f_35 := g_35.2.2
    refine tz_aload_n (pc := 38) dX5_readRule_38 rfl rfl ?_
    refine tz_iconst (pc := 39) dX5_readRule_39 ?_
    refine tz_cV (pc := 40) (w_readTerm hl n _ m_30 (pTo (pT 8 (pNx g) 1).1) (q_35).1.1 (q_35).1.2.1 (q_35).1.2.2.2 x_35 (SI.to (SI.t 8 _ 1 (SI.nx hS)))) vl_X5_113 dX5_readRule_40 o_163 rfl rfl (Nat.le_of_ble_eq_true rfl) ⟨(Nat.le_of_ble_eq_true rfl), (Nat.le_of_ble_eq_true rfl)⟩ rfl rfl (Nat.le_of_ble_eq_true rfl) (Nat.le_of_ble_eq_true rfl) (fun r9 J_40 hq9 => ?_)
    obtain ⟨z_40, rfl, hz_40, m_40, g_40, u_40, x_40, y_40⟩ := hq9
    have q_40 := RQ6.rt q_35 g_40
    have f_40 := g_40.2.2
    have l_40 := g_40.1.1
    refine tz_istore_n (pc := 43) (L2 := [_, _, _]) dX5_readRule_43 rfl (by decide) rfl ?_
    refine tz_aload_n (pc := 44) dX5_readRule_44 rfl rfl ?_
    refine tz_fI (pc := 45) (kz := 8) (v := (J_40 163 8)) dX5_readRule_45 fl_X5_24 i_163_8 rfl rfl (fun r_45 => ?_)
    refine tz_if_ne (pc := 48) (tgt := 78) dX5_readRule_48 (by decide) (by omega) (fun h_48 => ?_) (fun h_48 => ?_)
    · refine tz_aload_n (pc := 78) dX5_readRule_78 rfl rfl ?_
      refine tz_bipush (pc := 79) dX5_readRule_79 (by decide) ?_
      have b_81 := (q_40).1.2.2.2
      obtain ⟨⟨⟨b1_81, b2_81⟩, b3_81, b4_81⟩, b5_81⟩ := id b_81
      have t_81 := (q_40).1.1.told
      refine tz_cV (pc := 81) (w_pass hl n _ _ (by decide) (pT 8 (pTo (pT 8 (pNx g) 1).1) 1).1 b_81 x_40 (SI.t 8 _ 1 (SI.to (SI.t 8 _ 1 (SI.nx hS))))) vl_X5_116 dX5_readRule_81 o_163 rfl rfl (Nat.le_of_ble_eq_true rfl) ⟨(Nat.le_of_ble_eq_true rfl), (Nat.le_of_ble_eq_true rfl)⟩ rfl rfl (Nat.le_of_ble_eq_true rfl) (Nat.le_of_ble_eq_true rfl) (fun r9 J_81 hq9 => ?_)
      obtain ⟨rfl, g_81, d_81, x_81⟩ := hq9
      have q_81 := RQ6.rn q_40 g_81 d_81
      have f_81 := g_81.2.2
      refine tz_aload_n (pc := 84) dX5_readRule_84 rfl rfl ?_
      refine tz_fI (pc := 85) (kz := 8) (v := (J_81 163 8)) dX5_readRule_85 fl_X5_24 i_163_8 rfl rfl (fun r_85 => ?_)
      refine tz_if_ne (pc := 88) (tgt := 103) dX5_readRule_88 (by decide) (by omega) (fun h_88 => ?_) (fun h_88 => ?_)
      · exact tz_vret (pc := 103) dX5_readRule_103 rfl (Nat.le_of_ble_eq_true rfl) (Nat.le_of_ble_eq_true rfl) ⟨Nat.le_refl _, Nat.le_add_right _ _⟩ ⟨rfl, ⟨m_40, q_81, by rw [RU12 (by have := (hX.e h9).2.2.2.2.2.1.1; omega) nx9 x_40 (by omega)]; exact x_81⟩⟩
      · refine tz_aload_n (pc := 91) dX5_readRule_91 rfl rfl ?_
        refine tz_fR (pc := 92) dX5_readRule_92 fl_X5_38 r_163_1 ?_
        refine tz_fR (pc := 95) dX5_readRule_95 fl_X5_138 r_5_1 ?_
        refine tz_iload_n (pc := 98) dX5_readRule_98 rfl rfl ?_
        refine tz_iload_n (pc := 99) dX5_readRule_99 rfl rfl ?_
        have w_100 := (q_81).1.2.2.1.1
        refine tz_cV (pc := 100) (c_addRule hl n _ _ _ (by omega) (by omega) w_100.2.1) vl_X5_156 dX5_readRule_100 o_18 rfl rfl (Nat.le_of_ble_eq_true rfl) ⟨(Nat.le_of_ble_eq_true rfl), (Nat.le_of_ble_eq_true rfl)⟩ rfl rfl (Nat.le_of_ble_eq_true rfl) (Nat.le_of_ble_eq_true rfl) (fun r9 J_100 hq9 => ?_)
        obtain ⟨rfl, j_100⟩ := hq9
        have k_100 : zOf (zbut [19]) J_100 J_81 := by rw [← j_100]; exact zof_aR
        have q_100 := RQ6.led q_81 k_100 (by rw [← j_100]; exact (q_81).1.2.2.1.aR (by omega) (by omega))
        exact tz_vret (pc := 103) dX5_readRule_103 rfl (Nat.le_of_ble_eq_true rfl) (Nat.le_of_ble_eq_true rfl) ⟨Nat.le_refl _, Nat.le_add_right _ _⟩ ⟨rfl, ⟨m_40, q_100, by rw [RU12 (by have := (hX.e h9).2.2.2.2.2.1.1; omega) nx9 x_40 (by omega)]; exact XC.p59 x_40 (by omega) x_81 (by omega) f_81⟩⟩
    · refine tz_aload_n (pc := 51) dX5_readRule_51 rfl rfl ?_
      refine tz_fI (pc := 52) (kz := 5) (v := (J_40 163 5)) dX5_readRule_52 fl_X5_15 i_163_5 rfl rfl (fun r_52 => ?_)
      refine tz_bipush (pc := 55) dX5_readRule_55 (by decide) ?_
      refine tz_icmp_ne (pc := 57) (tgt := 78) dX5_readRule_57 (by decide) (by omega) (by decide) (fun h_57 => ?_) (fun h_57 => ?_)
      · refine tz_aload_n (pc := 78) dX5_readRule_78 rfl rfl ?_
        refine tz_bipush (pc := 79) dX5_readRule_79 (by decide) ?_
        have b_81 := (q_40).1.2.2.2
        obtain ⟨⟨⟨b1_81, b2_81⟩, b3_81, b4_81⟩, b5_81⟩ := id b_81
        have t_81 := (q_40).1.1.told
        refine tz_cV (pc := 81) (w_pass hl n _ _ (by decide) (pT 8 (pTo (pT 8 (pNx g) 1).1) 1).1 b_81 x_40 (SI.t 8 _ 1 (SI.to (SI.t 8 _ 1 (SI.nx hS))))) vl_X5_116 dX5_readRule_81 o_163 rfl rfl (Nat.le_of_ble_eq_true rfl) ⟨(Nat.le_of_ble_eq_true rfl), (Nat.le_of_ble_eq_true rfl)⟩ rfl rfl (Nat.le_of_ble_eq_true rfl) (Nat.le_of_ble_eq_true rfl) (fun r9 J_81 hq9 => ?_)
        obtain ⟨rfl, g_81, d_81, x_81⟩ := hq9
        have q_81 := RQ6.rn q_40 g_81 d_81
        have f_81 := g_81.2.2
        refine tz_aload_n (pc := 84) dX5_readRule_84 rfl rfl ?_
        refine tz_fI (pc := 85) (kz := 8) (v := (J_81 163 8)) dX5_readRule_85 fl_X5_24 i_163_8 rfl rfl (fun r_85 => ?_)
        refine tz_if_ne (pc := 88) (tgt := 103) dX5_readRule_88 (by decide) (by omega) (fun h_88 => ?_) (fun h_88 => ?_)
        · exact tz_vret (pc := 103) dX5_readRule_103 rfl (Nat.le_of_ble_eq_true rfl) (Nat.le_of_ble_eq_true rfl) ⟨Nat.le_refl _, Nat.le_add_right _ _⟩ ⟨rfl, ⟨m_40, q_81, by rw [RU12 (by have := (hX.e h9).2.2.2.2.2.1.1; omega) nx9 x_40 (by omega)]; exact x_81⟩⟩
        · refine tz_aload_n (pc := 91) dX5_readRule_91 rfl rfl ?_
          refine tz_fR (pc := 92) dX5_readRule_92 fl_X5_38 r_163_1 ?_
          refine tz_fR (pc := 95) dX5_readRule_95 fl_X5_138 r_5_1 ?_
          refine tz_iload_n (pc := 98) dX5_readRule_98 rfl rfl ?_
          refine tz_iload_n (pc := 99) dX5_readRule_99 rfl rfl ?_
          have w_100 := (q_81).1.2.2.1.1
          refine tz_cV (pc := 100) (c_addRule hl n _ _ _ (by omega) (by omega) w_100.2.1) vl_X5_156 dX5_readRule_100 o_18 rfl rfl (Nat.le_of_ble_eq_true rfl) ⟨(Nat.le_of_ble_eq_true rfl), (Nat.le_of_ble_eq_true rfl)⟩ rfl rfl (Nat.le_of_ble_eq_true rfl) (Nat.le_of_ble_eq_true rfl) (fun r9 J_100 hq9 => ?_)
          obtain ⟨rfl, j_100⟩ := hq9
          have k_100 : zOf (zbut [19]) J_100 J_81 := by rw [← j_100]; exact zof_aR
          have q_100 := RQ6.led q_81 k_100 (by rw [← j_100]; exact (q_81).1.2.2.1.aR (by omega) (by omega))
          exact tz_vret (pc := 103) dX5_readRule_103 rfl (Nat.le_of_ble_eq_true rfl) (Nat.le_of_ble_eq_true rfl) ⟨Nat.le_refl _, Nat.le_add_right _ _⟩ ⟨rfl, ⟨m_40, q_100, by rw [RU12 (by have := (hX.e h9).2.2.2.2.2.1.1; omega) nx9 x_40 (by omega)]; exact XC.p59 x_40 (by omega) x_81 (by omega) f_81⟩⟩
      · refine tz_aload_n (pc := 60) dX5_readRule_60 rfl rfl ?_
        refine tz_fR (pc := 61) dX5_readRule_61 fl_X5_55 r_163_3 ?_
        refine tz_iload_n (pc := 64) dX5_readRule_64 rfl rfl ?_
        refine tz_iload_n (pc := 65) dX5_readRule_65 rfl rfl ?_
        have v_66 : (0 ≤ z_30 ∧ z_30 < m_40) ∧ (0 ≤ z_40 ∧ z_40 < m_40) := by omega
        refine tz_cV (pc := 66) (x_isRule9 hl n _ _ _ (by omega) (by omega) m_40 (q_40).1.1 (q_40).1.2.1 v_66.1 v_66.2 ((q_40).2.2.trans h3)) vl_X5_150 dX5_readRule_66 o_155 rfl rfl (Nat.le_of_ble_eq_true rfl) ⟨(Nat.le_of_ble_eq_true rfl), (Nat.le_of_ble_eq_true rfl)⟩ rfl rfl (Nat.le_of_ble_eq_true rfl) (Nat.le_of_ble_eq_true rfl) (fun r9 J_66 hq9 => ?_)
        obtain ⟨z_66, rfl, hz_66, i_66, r_66, s_66⟩ := hq9
        have q_66 := RQ6.or q_40 r_66 (s_66 3 (by decide))
        have x_66 := XC.or x_40 r_66
        have e_66 := congrFun (r_66 163 rfl) 8
        refine tz_if_ne (pc := 69) (tgt := 78) dX5_readRule_69 (by decide) (by omega) (fun h_69 => ?_) (fun h_69 => ?_)
        · refine tz_aload_n (pc := 78) dX5_readRule_78 rfl rfl ?_
          refine tz_bipush (pc := 79) dX5_readRule_79 (by decide) ?_
          have b_81 := (q_66).1.2.2.2
          obtain ⟨⟨⟨b1_81, b2_81⟩, b3_81, b4_81⟩, b5_81⟩ := id b_81
          have t_81 := (q_66).1.1.told
          refine tz_cV (pc := 81) (w_pass hl n _ _ (by decide) (pT 8 (pTo (pT 8 (pNx g) 1).1) 1).1 b_81 x_66 (id (SI.t 8 _ 1 (SI.to (SI.t 8 _ 1 (SI.nx hS)))))) vl_X5_116 dX5_readRule_81 o_163 rfl rfl (Nat.le_of_ble_eq_true rfl) ⟨(Nat.le_of_ble_eq_true rfl), (Nat.le_of_ble_eq_true rfl)⟩ rfl rfl (Nat.le_of_ble_eq_true rfl) (Nat.le_of_ble_eq_true rfl) (fun r9 J_81 hq9 => ?_)
          obtain ⟨rfl, g_81, d_81, x_81⟩ := hq9
          have q_81 := RQ6.rn q_66 g_81 d_81
          have f_81 := g_81.2.2
          refine tz_aload_n (pc := 84) dX5_readRule_84 rfl rfl ?_
          refine tz_fI (pc := 85) (kz := 8) (v := (J_81 163 8)) dX5_readRule_85 fl_X5_24 i_163_8 rfl rfl (fun r_85 => ?_)
          refine tz_if_ne (pc := 88) (tgt := 103) dX5_readRule_88 (by decide) (by omega) (fun h_88 => ?_) (fun h_88 => ?_)
          · exact tz_vret (pc := 103) dX5_readRule_103 rfl (Nat.le_of_ble_eq_true rfl) (Nat.le_of_ble_eq_true rfl) ⟨Nat.le_refl _, Nat.le_add_right _ _⟩ ⟨rfl, ⟨m_40, q_81, by rw [(RU34 (by have := (hX.e h9).2.2.2.2.2.1.1; omega) nx9 x_40 y_30 y_40 (by omega) (by omega) (q_40).1.1 (q_40).1.2.1 v_66.1 v_66.2).2 ((i_66.resolve_right (fun p => by have := p.1; omega)).2)]; exact XC.addf x_81 (by omega) rfl⟩⟩
          · refine tz_aload_n (pc := 91) dX5_readRule_91 rfl rfl ?_
            refine tz_fR (pc := 92) dX5_readRule_92 fl_X5_38 r_163_1 ?_
            refine tz_fR (pc := 95) dX5_readRule_95 fl_X5_138 r_5_1 ?_
            refine tz_iload_n (pc := 98) dX5_readRule_98 rfl rfl ?_
            refine tz_iload_n (pc := 99) dX5_readRule_99 rfl rfl ?_
            have w_100 := (q_81).1.2.2.1.1
            refine tz_cV (pc := 100) (c_addRule hl n _ _ _ (by omega) (by omega) w_100.2.1) vl_X5_156 dX5_readRule_100 o_18 rfl rfl (Nat.le_of_ble_eq_true rfl) ⟨(Nat.le_of_ble_eq_true rfl), (Nat.le_of_ble_eq_true rfl)⟩ rfl rfl (Nat.le_of_ble_eq_true rfl) (Nat.le_of_ble_eq_true rfl) (fun r9 J_100 hq9 => ?_)
            obtain ⟨rfl, j_100⟩ := hq9
            have k_100 : zOf (zbut [19]) J_100 J_81 := by rw [← j_100]; exact zof_aR
            have q_100 := RQ6.led q_81 k_100 (by rw [← j_100]; exact (q_81).1.2.2.1.aR (by omega) (by omega))
            exact tz_vret (pc := 103) dX5_readRule_103 rfl (Nat.le_of_ble_eq_true rfl) (Nat.le_of_ble_eq_true rfl) ⟨Nat.le_refl _, Nat.le_add_right _ _⟩ ⟨rfl, ⟨m_40, q_100, by rw [(RU34 (by have := (hX.e h9).2.2.2.2.2.1.1; omega) nx9 x_40 y_30 y_40 (by omega) (by omega) (q_40).1.1 (q_40).1.2.1 v_66.1 v_66.2).2 ((i_66.resolve_right (fun p => by have := p.1; omega)).2), ← j_100]; exact XC.addz x_81 (by omega) rfl rfl (fun k _ => congrFun (zof_aR (J := J_81) (x := z_30) (y := z_40) 163 rfl) k) (zof_aR 162 rfl) (fun _ r E => ⟨(congrFun (zof_aR (J := J_81) (x := z_30) (y := z_40) 163 rfl) 10).trans r, E.rul ⟨w_100.2.1.1, by have e1 := congrFun ((g_81.1 19 rfl).trans ((r_66 19 rfl).trans ((g_40.1.2.2.2.2 19 rfl).trans ((g_35.1 19 rfl).trans ((g_30.1.2.2.2.2 19 rfl).trans (g_25.1 19 rfl)))))) 4; omega⟩ w_100.2.2.1⟩)⟩⟩
        · refine tz_aload_n (pc := 72) dX5_readRule_72 rfl rfl ?_
          refine tz_iconst (pc := 73) dX5_readRule_73 ?_
          refine tz_cV (pc := 74) (w_fail hl n _ _ (by decide) (pT 8 (pTo (pT 8 (pNx g) 1).1) 1).1 (by decide) x_66) vl_X5_97 dX5_readRule_74 o_163 rfl rfl (Nat.le_of_ble_eq_true rfl) ⟨(Nat.le_of_ble_eq_true rfl), (Nat.le_of_ble_eq_true rfl)⟩ rfl rfl (Nat.le_of_ble_eq_true rfl) (Nat.le_of_ble_eq_true rfl) (fun r9 J_74 hq9 => ?_)
          obtain ⟨z_74, rfl, hz_74, g_74, d_74, e_74, v_74, x_74⟩ := hq9
          have q_74 := RQ6.rn q_66 g_74 (d_74 (q_66).1.2.2.2)
          have f_74 := g_74.2.2
          refine tz_pop (pc := 77) dX5_readRule_77 rfl ?_
          refine tz_aload_n (pc := 78) dX5_readRule_78 rfl rfl ?_
          refine tz_bipush (pc := 79) dX5_readRule_79 (by decide) ?_
          have b_81 := (q_74).1.2.2.2
          obtain ⟨⟨⟨b1_81, b2_81⟩, b3_81, b4_81⟩, b5_81⟩ := id b_81
          have t_81 := (q_74).1.1.told
          refine tz_cV (pc := 81) (w_pass hl n _ _ (by decide) (pFx (pT 8 (pTo (pT 8 (pNx g) 1).1) 1).1 5) b_81 x_74 (SI.fx (id (SI.t 8 _ 1 (SI.to (SI.t 8 _ 1 (SI.nx hS))))))) vl_X5_116 dX5_readRule_81 o_163 rfl rfl (Nat.le_of_ble_eq_true rfl) ⟨(Nat.le_of_ble_eq_true rfl), (Nat.le_of_ble_eq_true rfl)⟩ rfl rfl (Nat.le_of_ble_eq_true rfl) (Nat.le_of_ble_eq_true rfl) (fun r9 J_81 hq9 => ?_)
          obtain ⟨rfl, g_81, d_81, x_81⟩ := hq9
          have q_81 := RQ6.rn q_74 g_81 d_81
          have f_81 := g_81.2.2
          refine tz_aload_n (pc := 84) dX5_readRule_84 rfl rfl ?_
          refine tz_fI (pc := 85) (kz := 8) (v := (J_81 163 8)) dX5_readRule_85 fl_X5_24 i_163_8 rfl rfl (fun r_85 => ?_)
          refine tz_if_ne (pc := 88) (tgt := 103) dX5_readRule_88 (by decide) (by omega) (fun h_88 => ?_) (fun h_88 => ?_)
          · exact tz_vret (pc := 103) dX5_readRule_103 rfl (Nat.le_of_ble_eq_true rfl) (Nat.le_of_ble_eq_true rfl) ⟨Nat.le_refl _, Nat.le_add_right _ _⟩ ⟨rfl, ⟨m_40, q_81, by rw [(RU34 (by have := (hX.e h9).2.2.2.2.2.1.1; omega) nx9 x_40 y_30 y_40 (by omega) (by omega) (q_40).1.1 (q_40).1.2.1 v_66.1 v_66.2).1 ((i_66.resolve_left (fun p => by have := p.1; omega)).2)]; exact x_81⟩⟩
          · refine tz_aload_n (pc := 91) dX5_readRule_91 rfl rfl ?_
            refine tz_fR (pc := 92) dX5_readRule_92 fl_X5_38 r_163_1 ?_
            refine tz_fR (pc := 95) dX5_readRule_95 fl_X5_138 r_5_1 ?_
            refine tz_iload_n (pc := 98) dX5_readRule_98 rfl rfl ?_
            refine tz_iload_n (pc := 99) dX5_readRule_99 rfl rfl ?_
            have w_100 := (q_81).1.2.2.1.1
            refine tz_cV (pc := 100) (c_addRule hl n _ _ _ (by omega) (by omega) w_100.2.1) vl_X5_156 dX5_readRule_100 o_18 rfl rfl (Nat.le_of_ble_eq_true rfl) ⟨(Nat.le_of_ble_eq_true rfl), (Nat.le_of_ble_eq_true rfl)⟩ rfl rfl (Nat.le_of_ble_eq_true rfl) (Nat.le_of_ble_eq_true rfl) (fun r9 J_100 hq9 => ?_)
            obtain ⟨rfl, j_100⟩ := hq9
            have k_100 : zOf (zbut [19]) J_100 J_81 := by rw [← j_100]; exact zof_aR
            have q_100 := RQ6.led q_81 k_100 (by rw [← j_100]; exact (q_81).1.2.2.1.aR (by omega) (by omega))
            exact tz_vret (pc := 103) dX5_readRule_103 rfl (Nat.le_of_ble_eq_true rfl) (Nat.le_of_ble_eq_true rfl) ⟨Nat.le_refl _, Nat.le_add_right _ _⟩ ⟨rfl, (False.elim (by omega))⟩
  · refine tz_aload_n (pc := 17) dX5_readRule_17 rfl rfl ?_
    refine tz_iconst (pc := 18) dX5_readRule_18 ?_
    refine tz_cV (pc := 19) (w_fail hl n _ _ (by decide) g (by decide) hX) vl_X5_97 dX5_readRule_19 o_163 rfl rfl (Nat.le_of_ble_eq_true rfl) ⟨(Nat.le_of_ble_eq_true rfl), (Nat.le_of_ble_eq_true rfl)⟩ rfl rfl (Nat.le_of_ble_eq_true rfl) (Nat.le_of_ble_eq_true rfl) (fun r9 J_19 hq9 => ?_)
    obtain ⟨z_19, rfl, hz_19, g_19, d_19, e_19, v_19, x_19⟩ := hq9
    have q_19 := RQ6.rn g0 g_19 (d_19 (g0).1.2.2.2)
    refine tz_pop (pc := 22) dX5_readRule_22 rfl ?_
    exact tz_vret (pc := 23) dX5_readRule_23 rfl (Nat.le_of_ble_eq_true rfl) (Nat.le_of_ble_eq_true rfl) ⟨Nat.le_refl _, Nat.le_add_right _ _⟩ ⟨rfl, ⟨m, q_19, by rw [pRu_2 (by have := (hX.e h9).2.2.2.2.2.1.1; omega) h9]; exact x_19⟩⟩

