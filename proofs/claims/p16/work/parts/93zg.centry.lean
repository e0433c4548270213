/-! ===== the class follows the reading: entries ===== -/
theorem ET.ey {J g : zJ} {t z : Int} (E : ET J g) (h1 : 0 ≤ J 19 5) (d : (0 ≤ z ∧ z < J 19 5 ∧ J 19 (31 + z) = t ∧ ∀ i, 0 ≤ i → i < z → ¬ J 19 (31 + i) = t) ∨ (z = -1 ∧ ∀ i, 0 ≤ i → i < J 19 5 → ¬ J 19 (31 + i) = t)) : (0 ≤ z ∧ z < g 165 152 ∧ pey g t = z) ∨ (z = -1 ∧ pey g t = g 165 152) := by
  obtain ⟨_, _, _, ⟨e3, e2⟩, _⟩ := E
  rcases d with ⟨a, b, c, d⟩ | ⟨a, d⟩
  · refine Or.inl ⟨a, by omega, fnB_eq a (by omega) (fun q u v => decide_eq_true ?_) (Or.inr (decide_eq_false (fun k => k ?_)))⟩
    · rw [← e2 q u (by omega)]; exact d q u v
    · rw [← e2 z a (by omega)]; exact c
  · refine Or.inr ⟨a, fnB_eq (by omega) (Int.le_refl _) (fun q u v => decide_eq_true ?_) (Or.inl rfl)⟩
    rw [← e2 q u (by omega)]; exact d q u (by omega)
theorem pEn_2 {g : zJ} (h : ¬ g 165 152 < 12) (h9 : g 0 4 = 0) : pP (pEn g) 59 = pFx g 2 := by
  unfold pEn pFx
  rw [if_neg h, if_pos h9, pP_f (by show ¬ (2 : Int) = 0; decide)]
theorem pEn_0 {g : zJ} (h : g 165 152 < 12) (nx9 : pNx g = pN g) (q : ¬ (pT 8 (pNx g) 1).1 0 4 = 0) : pEn g = (pT 8 (pNx g) 1).1 := by
  unfold pEn pR1
  rw [if_pos h, ← nx9, if_neg q]
theorem pEn_1 {g : zJ} (h : g 165 152 < 12) (nx9 : pNx g = pN g) (q : (pT 8 (pNx g) 1).1 0 4 = 0) (k : ¬ (pT 8 (pNx g) 1).1 0 3 = 59) : pP (pEn g) 59 = pP (pT 8 (pNx g) 1).1 59 := by
  unfold pEn pR1
  rw [if_pos h, ← nx9, if_pos q, if_neg k, pP_e q k, pP_f (by show ¬ (1 : Int) = 0; decide)]
theorem pEn_3 {g : zJ} (h : g 165 152 < 12) (nx9 : pNx g = pN g) (q : (pT 8 (pNx g) 1).1 0 4 = 0) (k : (pT 8 (pNx g) 1).1 0 3 = 59) : pEn g = if pey (pT 8 (pNx g) 1).1 (pT 8 (pNx g) 1).2 < (pT 8 (pNx g) 1).1 165 152 then pF (pT 8 (pNx g) 1).1 5 else zen (pT 8 (pNx g) 1).1 126 (pT 8 (pNx g) 1).2 := by
  unfold pEn pR1
  rw [if_pos h, ← nx9, if_pos q, if_pos k]
theorem ET.entr {J S : zJ} {x : Int} (E : ET J S) (h4 : 0 ≤ J 19 4 ∧ J 19 4 ≤ 8) (h5 : 0 ≤ J 19 5 ∧ J 19 5 < 12) : ET (zaE J x) (zen S 126 x) := by
  obtain ⟨E1, E2, ⟨E4, E5⟩, ⟨E6, E7⟩, E8⟩ := E
  unfold zaE
  rw [if_pos h5.2]
  have e : ∀ k, zup (zup J 19 (31 + J 19 5) x) 19 5 (J 19 5 + 1) 19 k = if k = 5 then J 19 5 + 1 else if k = 31 + J 19 5 then x else J 19 k := fun _ => rfl
  have e' : ∀ k, zen S 126 x 165 k = if k = 152 then S 165 152 + 1 else if k = 153 + S 165 152 then x else S 165 k := fun _ => rfl
  refine ⟨E1, ?_, ⟨?_, fun i p q => ?_⟩, ⟨?_, fun i p q => ?_⟩, ?_⟩
  · rw [e' 126, if_neg (by decide), if_neg (by omega)]
    exact E2
  · rw [e, e', if_neg (by omega), if_neg (by omega), if_neg (by omega), if_neg (by omega)]
    exact E4
  · rw [e', if_neg (by omega), if_neg (by omega)] at q
    rw [e, e, e', e', if_neg (by omega), if_neg (by omega), if_neg (by omega), if_neg (by omega), if_neg (by omega), if_neg (by omega), if_neg (by omega), if_neg (by omega)]
    exact E5 i p q
  · rw [e, e', if_pos rfl, if_pos rfl]
    omega
  · rw [e', if_pos rfl] at q
    rw [e, e']
    by_cases c : i = J 19 5
    · rw [if_neg (by omega), if_pos (by omega), if_neg (by omega), if_pos (by omega)]
    · rw [if_neg (by omega), if_neg (by omega), if_neg (by omega), if_neg (by omega)]
      exact E7 i p (by omega)
  · exact ⟨by rw [e, e', if_neg (by omega), if_neg (by omega), if_neg (by omega), if_neg (by omega)]; exact E8.1, ⟨by rw [e, e', if_neg (by omega), if_neg (by omega), if_neg (by omega), if_neg (by omega)]; exact E8.2.1.1, by rw [e, e', if_neg (by omega), if_neg (by omega), if_neg (by omega), if_neg (by omega)]; exact E8.2.1.2.1, by rw [e, if_neg (by omega), if_neg (by omega)]; exact E8.2.1.2.2⟩, fun v a b => by rw [e, e', if_neg (by omega), if_neg (by omega), if_neg (by omega), if_neg (by omega)]; exact E8.2.2 v a b⟩
theorem EN12 {Jt g : zJ} (h : g 165 152 < 12) (nx9 : pNx g = pN g) (x : XC Jt (pT 8 (pNx g) 1).1) (hp : ¬ Jt 163 8 = 0 ∨ ¬ Jt 163 5 = 59) : pP (pEn g) 59 = pP (pT 8 (pNx g) 1).1 59 := by
  by_cases q : (pT 8 (pNx g) 1).1 0 4 = 0
  · have z := x.z q
    rcases x.k z with p | ⟨_, e3, _⟩
    · omega
    · exact pEn_1 h nx9 q (by omega)
  · rw [pEn_0 h nx9 q]
theorem XC.p59 {J'' Jp Jt S : zJ} (x : XC Jt S) (hp : ¬ Jt 163 8 = 0 ∨ ¬ Jt 163 5 = 59) (y : XC Jp (pP S 59)) (h0 : Jp 163 8 = 0) (f : Jp 163 8 = 0 → Jt 163 8 = 0) : XC J'' (pP S 59) := by
  have z := f h0
  rcases x.k z with p | ⟨q, e3, _⟩
  · rw [pP_f (by omega)]
    exact Or.inl p
  · rw [pP_e q (by omega)] at y
    rcases y with k | ⟨k1, _⟩
    · exact absurd k (by show ¬ (1 : Int) = 99; decide)
    · exact absurd (k1.symm.trans h0) (by show ¬ (1 : Int) = 0; decide)
theorem EN34 {Jt g : zJ} {z t : Int} (h : g 165 152 < 12) (nx9 : pNx g = pN g) (x : XC Jt (pT 8 (pNx g) 1).1) (v : VQ t (pT 8 (pNx g) 1)) (h8 : Jt 163 8 = 0) (h5 : Jt 163 5 = 59) (h1 : 0 ≤ Jt 19 5) (d : (0 ≤ z ∧ z < Jt 19 5 ∧ Jt 19 (31 + z) = t ∧ ∀ i, 0 ≤ i → i < z → ¬ Jt 19 (31 + i) = t) ∨ (z = -1 ∧ ∀ i, 0 ≤ i → i < Jt 19 5 → ¬ Jt 19 (31 + i) = t)) : (¬ z = -1 → pP (pEn g) 59 = pP (pFx (pT 8 (pNx g) 1).1 5) 59) ∧ (z = -1 → pEn g = if (pT 8 (pNx g) 1).1 0 4 = 0 then zen (pT 8 (pNx g) 1).1 126 t else (pT 8 (pNx g) 1).1) := by
  rcases x.k h8 with p | ⟨q, e3, _, _, _, E⟩
  · have q : ¬ (pT 8 (pNx g) 1).1 0 4 = 0 := by omega
    unfold pFx
    rw [pEn_0 h nx9 q, if_neg q, if_neg q]
    exact ⟨fun _ => rfl, fun _ => rfl⟩
  · have s := E.2.2.2.ey h1 d
    unfold pFx
    rw [pEn_3 h nx9 q (by omega), if_pos q, if_pos q, ← v q]
    refine ⟨fun k => ?_, fun k => ?_⟩
    · rw [if_pos (by omega)]
    · rw [if_neg (by omega)]
set_option maxHeartbeats 4000000 in
set_option maxRecDepth 100000 in
theorem w_readEntry {l : Launch} {G : tb_G} (hl : l.stackTraces = false) (n : Nat) (J : zJ)   (m : Int) (g : zJ) (hnb : n ≤ tb_sc) (C : CT J m) (hm : J 6 12 = m) (hL : LI (J 19) m) (hD : RD2 J) (hX : XC J g) (hS : SI g) (h9 : g 0 4 = 0) : tz_Ok l G M_X5_readEntry 35 0 0 [.ref 163] n J (zqv (fun J' => ∃ m', RQ6 J' J m m' ∧ XC J' (pP (pEn g) 59))) zN := by
  refine tz_Ok.of hl (by decide +kernel) rfl (tb_c1 rfl) (Nat.le_of_ble_eq_true rfl) ?_
  show tz_At l G M_X5_readEntry (tb_rm 35 0 0) none (tb_ZM G 0 0 (zQ n 0 (zqv (fun J' => ∃ m', RQ6 J' J m m' ∧ XC J' (pP (pEn g) 59)))) (zX n 0 zN)) 0 0 n J 0 [some (.ref 163), none] []
  have g0 : RQ6 J J m m := RQ6.rf C hm hL hD
  have h8 := hX.z h9
  have nx9 : pNx g = pN g := by unfold pNx; rw [if_pos h9]
  have h5 := hL.1.2.2.1
  refine tz_aload_n (pc := 0) dX5_readEntry_0 rfl rfl ?_
  refine tz_fR (pc := 1) dX5_readEntry_1 fl_X5_38 r_163_1 ?_
  refine tz_fR (pc := 4) dX5_readEntry_4 fl_X5_138 r_5_1 ?_
  refine tz_fR (pc := 7) dX5_readEntry_7 fl_X5_142 r_18_0 ?_
  refine tz_iconst (pc := 10) dX5_readEntry_10 ?_
  refine tz_aL (pc := 11) (z := 5) (v := (J 19 5)) dX5_readEntry_11 a_19 rfl (by decide) rfl (fun r_11 => ?_)
  refine tz_bipush (pc := 12) dX5_readEntry_12 (by decide) ?_
  refine tz_icmp_lt (pc := 14) (tgt := 24) dX5_readEntry_14 (by decide) (by omega) (by decide) (fun h_14 => ?_) (fun h_14 => ?_)
  · refine tz_aload_n (pc := 24) dX5_readEntry_24 rfl rfl ?_
    have b_25 := (g0).1.2.2.2
    obtain ⟨⟨⟨b1_25, b2_25⟩, b3_25, b4_25⟩, b5_25⟩ := id b_25
    have t_25 := (g0).1.1.told
    refine tz_cV (pc := 25) (w_next hl n _ g b_25 hX (by omega)) vl_X5_65 dX5_readEntry_25 o_163 rfl rfl (Nat.le_of_ble_eq_true rfl) ⟨(Nat.le_of_ble_eq_true rfl), (Nat.le_of_ble_eq_true rfl)⟩ rfl rfl (Nat.le_of_ble_eq_true rfl) (Nat.le_of_ble_eq_true rfl) (fun r9 J_25 hq9 => ?_)
    obtain ⟨rfl, g_25, d_25, v_25, x_25⟩ := hq9
    have q_25 := RQ6.rn g0 g_25 d_25
    have f_25 := g_25.2.2
    refine tz_aload_n (pc := 28) dX5_readEntry_28 rfl rfl ?_
    refine tz_iconst (pc := 29) dX5_readEntry_29 ?_
    refine tz_cV (pc := 30) (w_readTerm hl n _ m (pNx g) (q_25).1.1 (q_25).1.2.1 (q_25).1.2.2.2 x_25 (SI.nx hS)) vl_X5_113 dX5_readEntry_30 o_163 rfl rfl (Nat.le_of_ble_eq_true rfl) ⟨(Nat.le_of_ble_eq_true rfl), (Nat.le_of_ble_eq_true rfl)⟩ rfl rfl (Nat.le_of_ble_eq_true rfl) (Nat.le_of_ble_eq_true rfl) (fun r9 J_30 hq9 => ?_)
    obtain ⟨z_30, rfl, hz_30, m_30, g_30, u_30, x_30, y_30⟩ := hq9
    have q_30 := RQ6.rt q_25 g_30
    have f_30 := g_30.2.2
    have l_30 := g_30.1.1
    refine tz_istore_n (pc := 33) (L2 := [_, _]) dX5_readEntry_33 rfl (by decide) rfl ?_
    refine tz_aload_n (pc := 34) dX5_readEntry_34 rfl rfl ?_
    refine tz_fI (pc := 35) (kz := 8) (v := (J_30 163 8)) dX5_readEntry_35 fl_X5_24 i_163_8 rfl rfl (fun r_35 => ?_)
    refine tz_if_ne (pc := 38) (tgt := 71) dX5_readEntry_38 (by decide) (by omega) (fun h_38 => ?_) (fun h_38 => ?_)
    · refine tz_aload_n (pc := 71) dX5_readEntry_71 rfl rfl ?_
      refine tz_bipush (pc := 72) dX5_readEntry_72 (by decide) ?_
      have b_74 := (q_30).1.2.2.2
      obtain ⟨⟨⟨b1_74, b2_74⟩, b3_74, b4_74⟩, b5_74⟩ := id b_74
      have t_74 := (q_30).1.1.told
      refine tz_cV (pc := 74) (w_pass hl n _ _ (by decide) (pT 8 (pNx g) 1).1 b_74 x_30 (SI.t 8 _ 1 (SI.nx hS))) vl_X5_116 dX5_readEntry_74 o_163 rfl rfl (Nat.le_of_ble_eq_true rfl) ⟨(Nat.le_of_ble_eq_true rfl), (Nat.le_of_ble_eq_true rfl)⟩ rfl rfl (Nat.le_of_ble_eq_true rfl) (Nat.le_of_ble_eq_true rfl) (fun r9 J_74 hq9 => ?_)
      obtain ⟨rfl, g_74, d_74, x_74⟩ := hq9
      have q_74 := RQ6.rn q_30 g_74 d_74
      have f_74 := g_74.2.2
      refine tz_aload_n (pc := 77) dX5_readEntry_77 rfl rfl ?_
      refine tz_fI (pc := 78) (kz := 8) (v := (J_74 163 8)) dX5_readEntry_78 fl_X5_24 i_163_8 rfl rfl (fun r_78 => ?_)
      refine tz_if_ne (pc := 81) (tgt := 95) dX5_readEntry_81 (by decide) (by omega) (fun h_81 => ?_) (fun h_81 => ?_)
      · exact tz_vret (pc := 95) dX5_readEntry_95 rfl (Nat.le_of_ble_eq_true rfl) (Nat.le_of_ble_eq_true rfl) ⟨Nat.le_refl _, Nat.le_add_right _ _⟩ ⟨rfl, ⟨m_30, q_74, by rw [EN12 (by have := (hX.e h9).2.2.2.2.2.2.1.1; omega) nx9 x_30 (by omega)]; exact x_74⟩⟩
      · refine tz_aload_n (pc := 84) dX5_readEntry_84 rfl rfl ?_
        refine tz_fR (pc := 85) dX5_readEntry_85 fl_X5_38 r_163_1 ?_
        refine tz_fR (pc := 88) dX5_readEntry_88 fl_X5_138 r_5_1 ?_
        refine tz_iload_n (pc := 91) dX5_readEntry_91 rfl rfl ?_
        have w_92 := (q_74).1.2.2.1.1
        refine tz_cV (pc := 92) (c_addEntry hl n _ _ (by omega) w_92.2.2.1) vl_X5_165 dX5_readEntry_92 o_18 rfl rfl (Nat.le_of_ble_eq_true rfl) ⟨(Nat.le_of_ble_eq_true rfl), (Nat.le_of_ble_eq_true rfl)⟩ rfl rfl (Nat.le_of_ble_eq_true rfl) (Nat.le_of_ble_eq_true rfl) (fun r9 J_92 hq9 => ?_)
        obtain ⟨rfl, j_92⟩ := hq9
        have k_92 : zOf (zbut [19]) J_92 J_74 := by rw [← j_92]; exact zof_aE
        have q_92 := RQ6.led q_74 k_92 (by rw [← j_92]; exact (q_74).1.2.2.1.aE (by omega))
        exact tz_vret (pc := 95) dX5_readEntry_95 rfl (Nat.le_of_ble_eq_true rfl) (Nat.le_of_ble_eq_true rfl) ⟨Nat.le_refl _, Nat.le_add_right _ _⟩ ⟨rfl, ⟨m_30, q_92, by rw [EN12 (by have := (hX.e h9).2.2.2.2.2.2.1.1; omega) nx9 x_30 (by omega)]; exact XC.p59 x_30 (by omega) x_74 (by omega) f_74⟩⟩
    · refine tz_aload_n (pc := 41) dX5_readEntry_41 rfl rfl ?_
      refine tz_fI (pc := 42) (kz := 5) (v := (J_30 163 5)) dX5_readEntry_42 fl_X5_15 i_163_5 rfl rfl (fun r_42 => ?_)
      refine tz_bipush (pc := 45) dX5_readEntry_45 (by decide) ?_
      refine tz_icmp_ne (pc := 47) (tgt := 71) dX5_readEntry_47 (by decide) (by omega) (by decide) (fun h_47 => ?_) (fun h_47 => ?_)
      · refine tz_aload_n (pc := 71) dX5_readEntry_71 rfl rfl ?_
        refine tz_bipush (pc := 72) dX5_readEntry_72 (by decide) ?_
        have b_74 := (q_30).1.2.2.2
        obtain ⟨⟨⟨b1_74, b2_74⟩, b3_74, b4_74⟩, b5_74⟩ := id b_74
        have t_74 := (q_30).1.1.told
        refine tz_cV (pc := 74) (w_pass hl n _ _ (by decide) (pT 8 (pNx g) 1).1 b_74 x_30 (SI.t 8 _ 1 (SI.nx hS))) vl_X5_116 dX5_readEntry_74 o_163 rfl rfl (Nat.le_of_ble_eq_true rfl) ⟨(Nat.le_of_ble_eq_true rfl), (Nat.le_of_ble_eq_true rfl)⟩ rfl rfl (Nat.le_of_ble_eq_true rfl) (Nat.le_of_ble_eq_true rfl) (fun r9 J_74 hq9 => ?_)
        obtain ⟨rfl, g_74, d_74, x_74⟩ := hq9
        have q_74 := RQ6.rn q_30 g_74 d_74
        have f_74 := g_74.2.2
        refine tz_aload_n (pc := 77) dX5_readEntry_77 rfl rfl ?_
        refine tz_fI (pc := 78) (kz := 8) (v := (J_74 163 8)) dX5_readEntry_78 fl_X5_24 i_163_8 rfl rfl (fun r_78 => ?_)
        refine tz_if_ne (pc := 81) (tgt := 95) dX5_readEntry_81 (by decide) (by omega) (fun h_81 => ?_) (fun h_81 => ?_)
        · exact tz_vret (pc := 95) dX5_readEntry_95 rfl (Nat.le_of_ble_eq_true rfl) (Nat.le_of_ble_eq_true rfl) ⟨Nat.le_refl _, Nat.le_add_right _ _⟩ ⟨rfl, ⟨m_30, q_74, by rw [EN12 (by have := (hX.e h9).2.2.2.2.2.2.1.1; omega) nx9 x_30 (by omega)]; exact x_74⟩⟩
        · refine tz_aload_n (pc := 84) dX5_readEntry_84 rfl rfl ?_
          refine tz_fR (pc := 85) dX5_readEntry_85 fl_X5_38 r_163_1 ?_
          refine tz_fR (pc := 88) dX5_readEntry_88 fl_X5_138 r_5_1 ?_
          refine tz_iload_n (pc := 91) dX5_readEntry_91 rfl rfl ?_
          have w_92 := (q_74).1.2.2.1.1
          refine tz_cV (pc := 92) (c_addEntry hl n _ _ (by omega) w_92.2.2.1) vl_X5_165 dX5_readEntry_92 o_18 rfl rfl (Nat.le_of_ble_eq_true rfl) ⟨(Nat.le_of_ble_eq_true rfl), (Nat.le_of_ble_eq_true rfl)⟩ rfl rfl (Nat.le_of_ble_eq_true rfl) (Nat.le_of_ble_eq_true rfl) (fun r9 J_92 hq9 => ?_)
          obtain ⟨rfl, j_92⟩ := hq9
          have k_92 : zOf (zbut [19]) J_92 J_74 := by rw [← j_92]; exact zof_aE
          have q_92 := RQ6.led q_74 k_92 (by rw [← j_92]; exact (q_74).1.2.2.1.aE (by omega))
          exact tz_vret (pc := 95) dX5_readEntry_95 rfl (Nat.le_of_ble_eq_true rfl) (Nat.le_of_ble_eq_true rfl) ⟨Nat.le_refl _, Nat.le_add_right _ _⟩ ⟨rfl, ⟨m_30, q_92, by rw [EN12 (by have := (hX.e h9).2.2.2.2.2.2.1.1; omega) nx9 x_30 (by omega)]; exact XC.p59 x_30 (by omega) x_74 (by omega) f_74⟩⟩
      · refine tz_aload_n (pc := 50) dX5_readEntry_50 rfl rfl ?_
        refine tz_fR (pc := 51) dX5_readEntry_51 fl_X5_38 r_163_1 ?_
        refine tz_fR (pc := 54) dX5_readEntry_54 fl_X5_138 r_5_1 ?_
        refine tz_iload_n (pc := 57) dX5_readEntry_57 rfl rfl ?_
        have w_58 := (q_30).1.2.2.1.1
        refine tz_cV (pc := 58) (c_entryOf hl n _ _ (by omega) w_58.2.2.1) vl_X5_162 dX5_readEntry_58 o_18 rfl rfl (Nat.le_of_ble_eq_true rfl) ⟨(Nat.le_of_ble_eq_true rfl), (Nat.le_of_ble_eq_true rfl)⟩ rfl rfl (Nat.le_of_ble_eq_true rfl) (Nat.le_of_ble_eq_true rfl) (fun r9 J_58 hq9 => ?_)
        obtain ⟨z_58, rfl, hz_58, rfl, hey⟩ := hq9
        refine tz_iconst (pc := 61) dX5_readEntry_61 ?_
        refine tz_icmp_eq (pc := 62) (tgt := 71) dX5_readEntry_62 (by decide) (by omega) (by decide) (fun h_62 => ?_) (fun h_62 => ?_)
        · refine tz_aload_n (pc := 71) dX5_readEntry_71 rfl rfl ?_
          refine tz_bipush (pc := 72) dX5_readEntry_72 (by decide) ?_
          have b_74 := (q_30).1.2.2.2
          obtain ⟨⟨⟨b1_74, b2_74⟩, b3_74, b4_74⟩, b5_74⟩ := id b_74
          have t_74 := (q_30).1.1.told
          refine tz_cV (pc := 74) (w_pass hl n _ _ (by decide) (pT 8 (pNx g) 1).1 b_74 x_30 (id (SI.t 8 _ 1 (SI.nx hS)))) vl_X5_116 dX5_readEntry_74 o_163 rfl rfl (Nat.le_of_ble_eq_true rfl) ⟨(Nat.le_of_ble_eq_true rfl), (Nat.le_of_ble_eq_true rfl)⟩ rfl rfl (Nat.le_of_ble_eq_true rfl) (Nat.le_of_ble_eq_true rfl) (fun r9 J_74 hq9 => ?_)
          obtain ⟨rfl, g_74, d_74, x_74⟩ := hq9
          have q_74 := RQ6.rn q_30 g_74 d_74
          have f_74 := g_74.2.2
          refine tz_aload_n (pc := 77) dX5_readEntry_77 rfl rfl ?_
          refine tz_fI (pc := 78) (kz := 8) (v := (J_74 163 8)) dX5_readEntry_78 fl_X5_24 i_163_8 rfl rfl (fun r_78 => ?_)
          refine tz_if_ne (pc := 81) (tgt := 95) dX5_readEntry_81 (by decide) (by omega) (fun h_81 => ?_) (fun h_81 => ?_)
          · exact tz_vret (pc := 95) dX5_readEntry_95 rfl (Nat.le_of_ble_eq_true rfl) (Nat.le_of_ble_eq_true rfl) ⟨Nat.le_refl _, Nat.le_add_right _ _⟩ ⟨rfl, ⟨m_30, q_74, by rw [(EN34 (by have := (hX.e h9).2.2.2.2.2.2.1.1; omega) nx9 x_30 y_30 (by omega) (by omega) w_58.2.2.1.1 hey).2 (by omega)]; exact XC.addf x_74 (by omega) rfl⟩⟩
          · refine tz_aload_n (pc := 84) dX5_readEntry_84 rfl rfl ?_
            refine tz_fR (pc := 85) dX5_readEntry_85 fl_X5_38 r_163_1 ?_
            refine tz_fR (pc := 88) dX5_readEntry_88 fl_X5_138 r_5_1 ?_
            refine tz_iload_n (pc := 91) dX5_readEntry_91 rfl rfl ?_
            have w_92 := (q_74).1.2.2.1.1
            refine tz_cV (pc := 92) (c_addEntry hl n _ _ (by omega) w_92.2.2.1) vl_X5_165 dX5_readEntry_92 o_18 rfl rfl (Nat.le_of_ble_eq_true rfl) ⟨(Nat.le_of_ble_eq_true rfl), (Nat.le_of_ble_eq_true rfl)⟩ rfl rfl (Nat.le_of_ble_eq_true rfl) (Nat.le_of_ble_eq_true rfl) (fun r9 J_92 hq9 => ?_)
            obtain ⟨rfl, j_92⟩ := hq9
            have k_92 : zOf (zbut [19]) J_92 J_74 := by rw [← j_92]; exact zof_aE
            have q_92 := RQ6.led q_74 k_92 (by rw [← j_92]; exact (q_74).1.2.2.1.aE (by omega))
            exact tz_vret (pc := 95) dX5_readEntry_95 rfl (Nat.le_of_ble_eq_true rfl) (Nat.le_of_ble_eq_true rfl) ⟨Nat.le_refl _, Nat.le_add_right _ _⟩ ⟨rfl, ⟨m_30, q_92, by rw [(EN34 (by have := (hX.e h9).2.2.2.2.2.2.1.1; omega) nx9 x_30 y_30 (by omega) (by omega) w_58.2.2.1.1 hey).2 (by omega), ← j_92]; exact XC.addz x_74 (by omega) rfl rfl (fun k _ => congrFun (zof_aE (J := J_74) (x := z_30) 163 rfl) k) (zof_aE 162 rfl) (fun _ r E => ⟨(congrFun (zof_aE (J := J_74) (x := z_30) 163 rfl) 10).trans r, E.entr w_92.2.1 (by have e1 := congrFun ((g_74.1 19 rfl).trans ((g_30.1.2.2.2.2 19 rfl).trans (g_25.1 19 rfl))) 5; omega)⟩)⟩⟩
        · refine tz_aload_n (pc := 65) dX5_readEntry_65 rfl rfl ?_
          refine tz_iconst (pc := 66) dX5_readEntry_66 ?_
          refine tz_cV (pc := 67) (w_fail hl n _ _ (by decide) (pT 8 (pNx g) 1).1 (by decide) x_30) vl_X5_97 dX5_readEntry_67 o_163 rfl rfl (Nat.le_of_ble_eq_true rfl) ⟨(Nat.le_of_ble_eq_true rfl), (Nat.le_of_ble_eq_true rfl)⟩ rfl rfl (Nat.le_of_ble_eq_true rfl) (Nat.le_of_ble_eq_true rfl) (fun r9 J_67 hq9 => ?_)
          obtain ⟨z_67, rfl, hz_67, g_67, d_67, e_67, v_67, x_67⟩ := hq9
          have q_67 := RQ6.rn q_30 g_67 (d_67 (q_30).1.2.2.2)
          have f_67 := g_67.2.2
          refine tz_pop (pc := 70) dX5_readEntry_70 rfl ?_
          refine tz_aload_n (pc := 71) dX5_readEntry_71 rfl rfl ?_
          refine tz_bipush (pc := 72) dX5_readEntry_72 (by decide) ?_
          have b_74 := (q_67).1.2.2.2
          obtain ⟨⟨⟨b1_74, b2_74⟩, b3_74, b4_74⟩, b5_74⟩ := id b_74
          have t_74 := (q_67).1.1.told
          refine tz_cV (pc := 74) (w_pass hl n _ _ (by decide) (pFx (pT 8 (pNx g) 1).1 5) b_74 x_67 (SI.fx (id (SI.t 8 _ 1 (SI.nx hS))))) vl_X5_116 dX5_readEntry_74 o_163 rfl rfl (Nat.le_of_ble_eq_true rfl) ⟨(Nat.le_of_ble_eq_true rfl), (Nat.le_of_ble_eq_true rfl)⟩ rfl rfl (Nat.le_of_ble_eq_true rfl) (Nat.le_of_ble_eq_true rfl) (fun r9 J_74 hq9 => ?_)
          obtain ⟨rfl, g_74, d_74, x_74⟩ := hq9
          have q_74 := RQ6.rn q_67 g_74 d_74
          have f_74 := g_74.2.2
          refine tz_aload_n (pc := 77) dX5_readEntry_77 rfl rfl ?_
          refine tz_fI (pc := 78) (kz := 8) (v := (J_74 163 8)) dX5_readEntry_78 fl_X5_24 i_163_8 rfl rfl (fun r_78 => ?_)
          refine tz_if_ne (pc := 81) (tgt := 95) dX5_readEntry_81 (by decide) (by omega) (fun h_81 => ?_) (fun h_81 => ?_)
          · exact tz_vret (pc := 95) dX5_readEntry_95 rfl (Nat.le_of_ble_eq_true rfl) (Nat.le_of_ble_eq_true rfl) ⟨Nat.le_refl _, Nat.le_add_right _ _⟩ ⟨rfl, ⟨m_30, q_74, by rw [(EN34 (by have := (hX.e h9).2.2.2.2.2.2.1.1; omega) nx9 x_30 y_30 (by omega) (by omega) w_58.2.2.1.1 hey).1 (by omega)]; exact x_74⟩⟩
          · refine tz_aload_n (pc := 84) dX5_readEntry_84 rfl rfl ?_
            refine tz_fR (pc := 85) dX5_readEntry_85 fl_X5_38 r_163_1 ?_
            refine tz_fR (pc := 88) dX5_readEntry_88 fl_X5_138 r_5_1 ?_
            refine tz_iload_n (pc := 91) dX5_readEntry_91 rfl rfl ?_
            have w_92 := (q_74).1.2.2.1.1
            refine tz_cV (pc := 92) (c_addEntry hl n _ _ (by omega) w_92.2.2.1) vl_X5_165 dX5_readEntry_92 o_18 rfl rfl (Nat.le_of_ble_eq_true rfl) ⟨(Nat.le_of_ble_eq_true rfl), (Nat.le_of_ble_eq_true rfl)⟩ rfl rfl (Nat.le_of_ble_eq_true rfl) (Nat.le_of_ble_eq_true rfl) (fun r9 J_92 hq9 => ?_)
            obtain ⟨rfl, j_92⟩ := hq9
            have k_92 : zOf (zbut [19]) J_92 J_74 := by rw [← j_92]; exact zof_aE
            have q_92 := RQ6.led q_74 k_92 (by rw [← j_92]; exact (q_74).1.2.2.1.aE (by omega))
            exact tz_vret (pc := 95) dX5_readEntry_95 rfl (Nat.le_of_ble_eq_true rfl) (Nat.le_of_ble_eq_true rfl) ⟨Nat.le_refl _, Nat.le_add_right _ _⟩ ⟨rfl, (False.elim (by omega))⟩
  · refine tz_aload_n (pc := 17) dX5_readEntry_17 rfl rfl ?_
    refine tz_iconst (pc := 18) dX5_readEntry_18 ?_
    refine tz_cV (pc := 19) (w_fail hl n _ _ (by decide) g (by decide) hX) vl_X5_97 dX5_readEntry_19 o_163 rfl rfl (Nat.le_of_ble_eq_true rfl) ⟨(Nat.le_of_ble_eq_true rfl), (Nat.le_of_ble_eq_true rfl)⟩ rfl rfl (Nat.le_of_ble_eq_true rfl) (Nat.le_of_ble_eq_true rfl) (fun r9 J_19 hq9 => ?_)
    obtain ⟨z_19, rfl, hz_19, g_19, d_19, e_19, v_19, x_19⟩ := hq9
    have q_19 := RQ6.rn g0 g_19 (d_19 (g0).1.2.2.2)
    refine tz_pop (pc := 22) dX5_readEntry_22 rfl ?_
    exact tz_vret (pc := 23) dX5_readEntry_23 rfl (Nat.le_of_ble_eq_true rfl) (Nat.le_of_ble_eq_true rfl) ⟨Nat.le_refl _, Nat.le_add_right _ _⟩ ⟨rfl, ⟨m, q_19, by rw [pEn_2 (by have := (hX.e h9).2.2.2.2.2.2.1.1; omega) h9]; exact x_19⟩⟩

