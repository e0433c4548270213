/-! ===== the class follows the reading: clauses ===== -/
/-- what a clause leaves; nothing is tried afterwards, if it was so before -/
def RQ6 (J' J : zJ) (m m' : Int) : Prop := (CT J' m' ∧ J' 6 12 = m' ∧ LI (J' 19) m' ∧ RD2 J') ∧ (zOf (zbut [1, 2, 3, 4, 6, 7, 8, 9, 10, 11, 12, 13, 14, 15, 16, 17, 19, 156, 157, 163]) J' J ∧ J' 156 3 = J 156 3)
theorem RQ6.q {J' J : zJ} {m m' : Int} (h : RQ6 J' J m m') : RQ J' J m m' := ⟨h.1, h.2.1⟩
theorem RQ6.rf {J : zJ} {m : Int} (C : CT J m) (hm : J 6 12 = m) (hL : LI (J 19) m) (hD : RD2 J) : RQ6 J J m m := ⟨⟨C, hm, hL, hD⟩, zOf.rf, rfl⟩
theorem RQ6.rt {J2 J1 J : zJ} {m m1 m2 : Int} (g : RQ6 J1 J m m1) (h : RT J2 J1 m1 m2) : RQ6 J2 J m m2 := ⟨(g.q.rt h).1, (g.q.rt h).2, (congrFun (h.1.2.2.2.2 156 rfl) 3).trans g.2.2⟩
theorem RQ6.rn {J2 J1 J : zJ} {m m1 : Int} (g : RQ6 J1 J m m1) (h : RN J2 J1) (hD : RD2 J2) : RQ6 J2 J m m1 := ⟨(g.q.rn h hD).1, (g.q.rn h hD).2, (congrFun (h.1 156 rfl) 3).trans g.2.2⟩
theorem RQ6.or {J2 J1 J : zJ} {m m1 : Int} (g : RQ6 J1 J m m1) (h : zOf (zbut [156, 157]) J2 J1) (h3 : J2 156 3 = J1 156 3) : RQ6 J2 J m m1 := ⟨(g.q.or h).1, (g.q.or h).2, h3.trans g.2.2⟩
theorem RQ6.led {J2 J1 J : zJ} {m m1 : Int} (g : RQ6 J1 J m m1) (h : zOf (zbut [19]) J2 J1) (hL : LI (J2 19) m1) : RQ6 J2 J m m1 := ⟨(g.q.led h hL).1, (g.q.led h hL).2, (congrFun (h 156 rfl) 3).trans g.2.2⟩
theorem RQ6.tr {J3 J2 J1 : zJ} {m1 m2 m3 : Int} (g : RQ6 J2 J1 m1 m2) (h : RQ6 J3 J2 m2 m3) : RQ6 J3 J1 m1 m3 := ⟨h.1, h.2.1.tr g.2.1, h.2.2.trans g.2.2⟩
theorem pP_n {g : zJ} {c : Int} (h : g 0 4 = 0) (h3 : g 0 3 = c) : pP g c = pN g := by unfold pP; rw [if_pos h, if_pos h3]
theorem pP_e {g : zJ} {c : Int} (h : g 0 4 = 0) (h3 : ¬ g 0 3 = c) : pP g c = pF g 1 := by unfold pP; rw [if_pos h, if_neg h3]
/-- a fault at the sign: what was added before it doesn't matter -/
theorem XC.addf {J S S' : zJ} (h : XC J (pP S 59)) (h0 : ¬ J 163 8 = 0) (e0 : S' 0 = S 0) : XC J (pP (if S 0 4 = 0 then S' else S) 59) := by
  by_cases q : S 0 4 = 0
  · rw [if_pos q]
    have q' : S' 0 4 = 0 := by rw [e0]; exact q
    by_cases p : S 0 3 = 59
    · rw [pP_n q p] at h
      exact absurd q (h.no h0)
    · rw [pP_e q p] at h
      rw [pP_e q' (by rw [e0]; exact p)]
      rcases h with k | ⟨k1, k2, k3⟩
      · exact absurd k (by show ¬ (1 : Int) = 99; decide)
      · refine Or.inr ⟨k1, fun u => ?_, fun u => absurd u (by show ¬ (1 : Int) = 0; decide)⟩
        show J 163 9 = S' 0 1
        rw [e0]
        exact k2 (by show ¬ (1 : Int) = 0; decide)
  · rw [if_neg q]
    exact h
theorem XC.addz {J'' J S S' : zJ} (h : XC J (pP S 59)) (h0 : J 163 8 = 0) (e0 : S' 0 = S 0) (e1 : S' 1 = S 1) (f : ∀ k, ¬ k = 10 → J'' 163 k = J 163 k) (f2 : J'' 162 = J 162) (ha : S 0 4 = 0 → J 163 10 = S 164 45 → ET J S → J'' 163 10 = S' 164 45 ∧ ET J'' S') : XC J'' (pP (if S 0 4 = 0 then S' else S) 59) := by
  by_cases q : S 0 4 = 0
  · rw [if_pos q]
    have q' : S' 0 4 = 0 := by rw [e0]; exact q
    by_cases p : S 0 3 = 59
    · rw [pP_n q p] at h
      rw [pP_n q' (by rw [e0]; exact p)]
      rcases h with k | ⟨k1, k2, k3⟩
      · have k' : S 0 4 = 99 := k
        omega
      · obtain ⟨⟨a1, a2, a3⟩, b1, b2, b3, b4⟩ := k3 q
        rw [pN_c (by decide)] at b2 b3
        obtain ⟨r1, r2⟩ := ha q b3 (b4.g (fun c hc => (pN_c hc).symm))
        have n0 : ∀ k, pN S' 0 k = pN S 0 k := fun k => by rw [pN0, pN0, e0, e1]
        refine Or.inr ⟨?_, fun u => absurd q' u, fun _ => ⟨⟨?_, ?_, ?_⟩, ?_, ?_, ?_, r2.g (fun c hc => pN_c hc)⟩⟩
        · rw [f 8 (by decide), n0]; exact k1
        · rw [f 6 (by decide), n0]; exact a1
        · rw [f 5 (by decide), n0]; exact a2
        · rw [f 7 (by decide), n0]; exact a3
        · rw [f 4 (by decide), n0]; exact b1
        · rw [f2, pN_c (by decide), e1]; exact b2
        · rw [pN_c (by decide)]; exact r1
    · rw [pP_e q p] at h
      rcases h with k | ⟨k1, k2, k3⟩
      · exact absurd k (by show ¬ (1 : Int) = 99; decide)
      · exact absurd (k1.symm.trans h0) (by show ¬ (1 : Int) = 0; decide)
  · rw [if_neg q, pP_f q]
    rw [pP_f q] at h
    rcases h.bad h0 with k | ⟨k, _⟩
    · exact Or.inl k
    · exact absurd k q
theorem ET.room {J S : zJ} {x : Int} (E : ET J S) (h4 : J 19 4 ≤ 8) (h5 : J 19 5 ≤ 12) : ET (zup (zup (zup J 19 1 x) 19 6 0) 163 10 1) (zup (zup S 165 165 x) 164 45 1) := by
  obtain ⟨E1, E2, ⟨E4, E5⟩, ⟨E6, E7⟩, E8⟩ := E
  have e : ∀ k, zup (zup (zup J 19 1 x) 19 6 0) 163 10 1 19 k = if k = 6 then 0 else if k = 1 then x else J 19 k := fun _ => rfl
  have e' : ∀ k, zup (zup S 165 165 x) 164 45 1 165 k = if k = 165 then x else S 165 k := fun _ => rfl
  refine ⟨E1, E2, ⟨E4, fun i p q => ?_⟩, ⟨E6, fun i p q => ?_⟩, rfl, ⟨by rw [e, e', if_neg (by decide), if_neg (by decide), if_neg (by decide)]; exact E8.2.1.1, by rw [e, e', if_neg (by decide), if_neg (by decide), if_neg (by decide)]; exact E8.2.1.2.1, by rw [e, if_pos rfl]⟩, fun v a b => by rw [e, e', if_neg (by omega), if_neg (by omega), if_neg (by omega)]; exact E8.2.2 v a b⟩
  · have q' : i < S 165 135 := q
    rw [e, e, e', e', if_neg (by omega), if_neg (by omega), if_neg (by omega), if_neg (by omega), if_neg (by omega), if_neg (by omega)]
    exact E5 i p q'
  · have q' : i < S 165 152 := q
    rw [e, e', if_neg (by omega), if_neg (by omega), if_neg (by omega)]
    exact E7 i p q'
theorem pRo_1 {g : zJ} {z : Int} (h : g 164 45 = 0) (nx9 : pNx g = pN g) (v : VQ z (pU (pNx g) 0 9)) : pRo g = if (pU (pNx g) 0 9).1 0 4 = 0 then zup (zup (pU (pNx g) 0 9).1 165 165 z) 164 45 1 else (pU (pNx g) 0 9).1 := by
  unfold pRo pO1
  rw [if_pos h, ← nx9]
  split
  · next q => rw [v q]
  · rfl
theorem pRo_2 {g : zJ} (h : ¬ g 164 45 = 0) (h9 : g 0 4 = 0) : pP (pRo g) 59 = pFx g 4 := by
  unfold pRo pFx
  rw [if_neg h, if_pos h9, pP_f (by show ¬ (4 : Int) = 0; decide)]
theorem XC.e {J g : zJ} (h : XC J g) (h9 : g 0 4 = 0) : EC J g := ((h.resolve_left (by omega)).2.2 h9).2
set_option maxHeartbeats 4000000 in
set_option maxRecDepth 100000 in
theorem w_readLone {l : Launch} {G : tb_G} (hl : l.stackTraces = false) (n : Nat) (J : zJ)   (m : Int) (g : zJ) (hnb : n ≤ tb_sc) (C : CT J m) (hm : J 6 12 = m) (hL : LI (J 19) m) (hD : RD2 J) (hX : XC J g) (hS : SI g) (h9 : g 0 4 = 0) : tz_Ok l G M_X5_readLoneTerm 35 0 0 [.ref 163] n J (zqv (fun J' => ∃ m', RQ6 J' J m m' ∧ XC J' (pP ((pR1 g).1) 59))) zN := by
  refine tz_Ok.of hl (by decide +kernel) rfl (tb_c1 rfl) (Nat.le_of_ble_eq_true rfl) ?_
  show tz_At l G M_X5_readLoneTerm (tb_rm 35 0 0) none (tb_ZM G 0 0 (zQ n 0 (zqv (fun J' => ∃ m', RQ6 J' J m m' ∧ XC J' (pP ((pR1 g).1) 59)))) (zX n 0 zN)) 0 0 n J 0 [some (.ref 163)] []
  have g0 : RQ6 J J m m := RQ6.rf C hm hL hD
  have h8 := hX.z h9
  have nx9 : pNx g = pN g := by unfold pNx; rw [if_pos h9]
  refine tz_aload_n (pc := 0) dX5_readLoneTerm_0 rfl rfl ?_
  have b_1 := (g0).1.2.2.2
  obtain ⟨⟨⟨b1_1, b2_1⟩, b3_1, b4_1⟩, b5_1⟩ := id b_1
  have t_1 := (g0).1.1.told
  refine tz_cV (pc := 1) (w_next hl n _ g b_1 hX (by omega)) vl_X5_65 dX5_readLoneTerm_1 o_163 rfl rfl (Nat.le_of_ble_eq_true rfl) ⟨(Nat.le_of_ble_eq_true rfl), (Nat.le_of_ble_eq_true rfl)⟩ rfl rfl (Nat.le_of_ble_eq_true rfl) (Nat.le_of_ble_eq_true rfl) (fun r9 J_1 hq9 => ?_)
  obtain ⟨rfl, g_1, d_1, v_1, x_1⟩ := hq9
  have q_1 := RQ6.rn g0 g_1 d_1
  have f_1 := g_1.2.2
  refine tz_aload_n (pc := 4) dX5_readLoneTerm_4 rfl rfl ?_
  refine tz_iconst (pc := 5) dX5_readLoneTerm_5 ?_
  refine tz_cV (pc := 6) (w_readTerm hl n _ m (pNx g) (q_1).1.1 (q_1).1.2.1 (q_1).1.2.2.2 x_1 (SI.nx hS)) vl_X5_113 dX5_readLoneTerm_6 o_163 rfl rfl (Nat.le_of_ble_eq_true rfl) ⟨(Nat.le_of_ble_eq_true rfl), (Nat.le_of_ble_eq_true rfl)⟩ rfl rfl (Nat.le_of_ble_eq_true rfl) (Nat.le_of_ble_eq_true rfl) (fun r9 J_6 hq9 => ?_)
  obtain ⟨z_6, rfl, hz_6, m_6, g_6, u_6, x_6, y_6⟩ := hq9
  have q_6 := RQ6.rt q_1 g_6
  have f_6 := g_6.2.2
  have l_6 := g_6.1.1
  refine tz_pop (pc := 9) dX5_readLoneTerm_9 rfl ?_
  refine tz_aload_n (pc := 10) dX5_readLoneTerm_10 rfl rfl ?_
  refine tz_bipush (pc := 11) dX5_readLoneTerm_11 (by decide) ?_
  have b_13 := (q_6).1.2.2.2
  obtain ⟨⟨⟨b1_13, b2_13⟩, b3_13, b4_13⟩, b5_13⟩ := id b_13
  have t_13 := (q_6).1.1.told
  refine tz_cV (pc := 13) (w_pass hl n _ _ (by decide) (pT 8 (pNx g) 1).1 b_13 x_6 (SI.t 8 _ 1 (SI.nx hS))) vl_X5_116 dX5_readLoneTerm_13 o_163 rfl rfl (Nat.le_of_ble_eq_true rfl) ⟨(Nat.le_of_ble_eq_true rfl), (Nat.le_of_ble_eq_true rfl)⟩ rfl rfl (Nat.le_of_ble_eq_true rfl) (Nat.le_of_ble_eq_true rfl) (fun r9 J_13 hq9 => ?_)
  obtain ⟨rfl, g_13, d_13, x_13⟩ := hq9
  have q_13 := RQ6.rn q_6 g_13 d_13
  have f_13 := g_13.2.2
  exact tz_vret (pc := 16) dX5_readLoneTerm_16 rfl (Nat.le_of_ble_eq_true rfl) (Nat.le_of_ble_eq_true rfl) ⟨Nat.le_refl _, Nat.le_add_right _ _⟩ ⟨rfl, ⟨m_6, q_13, by unfold pR1; rw [← nx9]; exact x_13⟩⟩

set_option maxHeartbeats 4000000 in
set_option maxRecDepth 100000 in
theorem w_readRoom {l : Launch} {G : tb_G} (hl : l.stackTraces = false) (n : Nat) (J : zJ)   (m : Int) (g : zJ) (hnb : n ≤ tb_sc) (C : CT J m) (hm : J 6 12 = m) (hL : LI (J 19) m) (hD : RD2 J) (hX : XC J g) (hS : SI g) (h9 : g 0 4 = 0) : tz_Ok l G M_X5_readRoom 3 0 0 [.ref 163] n J (zqv (fun J' => ∃ m', RQ6 J' J m m' ∧ XC J' (pP (pRo g) 59))) zN := by
  refine tz_Ok.of hl (by decide +kernel) rfl (tb_c1 rfl) (Nat.le_of_ble_eq_true rfl) ?_
  show tz_At l G M_X5_readRoom (tb_rm 3 0 0) none (tb_ZM G 0 0 (zQ n 0 (zqv (fun J' => ∃ m', RQ6 J' J m m' ∧ XC J' (pP (pRo g) 59)))) (zX n 0 zN)) 0 0 n J 0 [some (.ref 163), none] []
  have g0 : RQ6 J J m m := RQ6.rf C hm hL hD
  have h8 := hX.z h9
  have nx9 : pNx g = pN g := by unfold pNx; rw [if_pos h9]
  refine tz_aload_n (pc := 0) dX5_readRoom_0 rfl rfl ?_
  refine tz_fI (pc := 1) (kz := 10) (v := (J 163 10)) dX5_readRoom_1 fl_X5_30 i_163_10 rfl rfl (fun r_1 => ?_)
  refine tz_if_eq (pc := 4) (tgt := 14) dX5_readRoom_4 (by decide) (by omega) (fun h_4 => ?_) (fun h_4 => ?_)
  · refine tz_aload_n (pc := 14) dX5_readRoom_14 rfl rfl ?_
    have b_15 := (g0).1.2.2.2
    obtain ⟨⟨⟨b1_15, b2_15⟩, b3_15, b4_15⟩, b5_15⟩ := id b_15
    have t_15 := (g0).1.1.told
    refine tz_cV (pc := 15) (w_next hl n _ g b_15 hX (by omega)) vl_X5_65 dX5_readRoom_15 o_163 rfl rfl (Nat.le_of_ble_eq_true rfl) ⟨(Nat.le_of_ble_eq_true rfl), (Nat.le_of_ble_eq_true rfl)⟩ rfl rfl (Nat.le_of_ble_eq_true rfl) (Nat.le_of_ble_eq_true rfl) (fun r9 J_15 hq9 => ?_)
    obtain ⟨rfl, g_15, d_15, v_15, x_15⟩ := hq9
    have q_15 := RQ6.rn g0 g_15 d_15
    have f_15 := g_15.2.2
    refine tz_aload_n (pc := 18) dX5_readRoom_18 rfl rfl ?_
    refine tz_iconst (pc := 19) dX5_readRoom_19 ?_
    refine tz_bipush (pc := 20) dX5_readRoom_20 (by decide) ?_
    have b_22 := (q_15).1.2.2.2
    obtain ⟨⟨⟨b1_22, b2_22⟩, b3_22, b4_22⟩, b5_22⟩ := id b_22
    have t_22 := (q_15).1.1.told
    refine tz_cV (pc := 22) (w_readNum hl n _ _ _ (by decide) (by decide) (pNx g) b_22 x_15 (SI.nx hS) (Or.inl rfl) (by decide)) vl_X5_128 dX5_readRoom_22 o_163 rfl rfl (Nat.le_of_ble_eq_true rfl) ⟨(Nat.le_of_ble_eq_true rfl), (Nat.le_of_ble_eq_true rfl)⟩ rfl rfl (Nat.le_of_ble_eq_true rfl) (Nat.le_of_ble_eq_true rfl) (fun r9 J_22 hq9 => ?_)
    obtain ⟨z_22, rfl, hz_22, g_22, d_22, u_22, x_22, y_22⟩ := hq9
    have q_22 := RQ6.rn q_15 g_22 d_22
    have f_22 := g_22.2.2
    refine tz_istore_n (pc := 25) (L2 := [_, _]) dX5_readRoom_25 rfl (by decide) rfl ?_
    refine tz_aload_n (pc := 26) dX5_readRoom_26 rfl rfl ?_
    refine tz_bipush (pc := 27) dX5_readRoom_27 (by decide) ?_
    have b_29 := (q_22).1.2.2.2
    obtain ⟨⟨⟨b1_29, b2_29⟩, b3_29, b4_29⟩, b5_29⟩ := id b_29
    have t_29 := (q_22).1.1.told
    refine tz_cV (pc := 29) (w_pass hl n _ _ (by decide) (pU (pNx g) 0 9).1 b_29 x_22 (SI.u (SI.nx hS))) vl_X5_116 dX5_readRoom_29 o_163 rfl rfl (Nat.le_of_ble_eq_true rfl) ⟨(Nat.le_of_ble_eq_true rfl), (Nat.le_of_ble_eq_true rfl)⟩ rfl rfl (Nat.le_of_ble_eq_true rfl) (Nat.le_of_ble_eq_true rfl) (fun r9 J_29 hq9 => ?_)
    obtain ⟨rfl, g_29, d_29, x_29⟩ := hq9
    have q_29 := RQ6.rn q_22 g_29 d_29
    have f_29 := g_29.2.2
    refine tz_aload_n (pc := 32) dX5_readRoom_32 rfl rfl ?_
    refine tz_fI (pc := 33) (kz := 8) (v := (J_29 163 8)) dX5_readRoom_33 fl_X5_24 i_163_8 rfl rfl (fun r_33 => ?_)
    refine tz_if_ne (pc := 36) (tgt := 55) dX5_readRoom_36 (by decide) (by omega) (fun h_36 => ?_) (fun h_36 => ?_)
    · exact tz_vret (pc := 55) dX5_readRoom_55 rfl (Nat.le_of_ble_eq_true rfl) (Nat.le_of_ble_eq_true rfl) ⟨Nat.le_refl _, Nat.le_add_right _ _⟩ ⟨rfl, ⟨m, q_29, by rw [pRo_1 (by have := (hX.e h9).2.2.1; omega) nx9 y_22]; exact XC.addf x_29 (by omega) rfl⟩⟩
    · refine tz_aload_n (pc := 39) dX5_readRoom_39 rfl rfl ?_
      refine tz_fR (pc := 40) dX5_readRoom_40 fl_X5_38 r_163_1 ?_
      refine tz_fR (pc := 43) dX5_readRoom_43 fl_X5_138 r_5_1 ?_
      refine tz_iload_n (pc := 46) dX5_readRoom_46 rfl rfl ?_
      have w_47 := (q_29).1.2.2.1.1
      refine tz_cV (pc := 47) (c_tellRoom hl n _ _ (by omega)) vl_X5_168 dX5_readRoom_47 o_18 rfl rfl (Nat.le_of_ble_eq_true rfl) ⟨(Nat.le_of_ble_eq_true rfl), (Nat.le_of_ble_eq_true rfl)⟩ rfl rfl (Nat.le_of_ble_eq_true rfl) (Nat.le_of_ble_eq_true rfl) (fun r9 J_47 hq9 => ?_)
      obtain ⟨rfl, j_47⟩ := hq9
      have k_47 : zOf (zbut [19]) J_47 J_29 := by rw [← j_47]; exact zOf.up rfl (zOf.up rfl zOf.rf)
      have q_47 := RQ6.led q_29 k_47 (by rw [← j_47]; exact (q_29).1.2.2.1.room (by omega))
      refine tz_aload_n (pc := 50) dX5_readRoom_50 rfl rfl ?_
      refine tz_iconst (pc := 51) dX5_readRoom_51 ?_
      refine tz_pZ (pc := 52) (kz := 10) dX5_readRoom_52 fl_X5_30 i_163_10 rfl rfl (Or.inr rfl) ?_
      exact tz_vret (pc := 55) dX5_readRoom_55 rfl (Nat.le_of_ble_eq_true rfl) (Nat.le_of_ble_eq_true rfl) ⟨Nat.le_refl _, Nat.le_add_right _ _⟩ ⟨rfl, ⟨m, (q_47).rn ⟨zOf.up rfl zOf.rf, rfl, id⟩ (q_47).1.2.2.2, by rw [pRo_1 (by have := (hX.e h9).2.2.1; omega) nx9 y_22, ← j_47]; exact XC.addz x_29 (by omega) rfl rfl (fun k hk => zup_ne hk) rfl (fun _ _ E => ⟨rfl, E.room w_47.2.1.2 w_47.2.2.1.2⟩)⟩⟩
  · refine tz_aload_n (pc := 7) dX5_readRoom_7 rfl rfl ?_
    refine tz_iconst (pc := 8) dX5_readRoom_8 ?_
    refine tz_cV (pc := 9) (w_fail hl n _ _ (by decide) g (by decide) hX) vl_X5_97 dX5_readRoom_9 o_163 rfl rfl (Nat.le_of_ble_eq_true rfl) ⟨(Nat.le_of_ble_eq_true rfl), (Nat.le_of_ble_eq_true rfl)⟩ rfl rfl (Nat.le_of_ble_eq_true rfl) (Nat.le_of_ble_eq_true rfl) (fun r9 J_9 hq9 => ?_)
    obtain ⟨z_9, rfl, hz_9, g_9, d_9, e_9, v_9, x_9⟩ := hq9
    have q_9 := RQ6.rn g0 g_9 (d_9 (g0).1.2.2.2)
    refine tz_pop (pc := 12) dX5_readRoom_12 rfl ?_
    exact tz_vret (pc := 13) dX5_readRoom_13 rfl (Nat.le_of_ble_eq_true rfl) (Nat.le_of_ble_eq_true rfl) ⟨Nat.le_refl _, Nat.le_add_right _ _⟩ ⟨rfl, ⟨m, q_9, by rw [pRo_2 (by have := (hX.e h9).2.2.1; omega) h9]; exact x_9⟩⟩

