/-- what a clause leaves -/
def RQ (J' J : zJ) (m m' : Int) : Prop := (CT J' m' ∧ J' 6 12 = m' ∧ LI (J' 19) m' ∧ RD2 J') ∧ zOf (zbut [1, 2, 3, 4, 6, 7, 8, 9, 10, 11, 12, 13, 14, 15, 16, 17, 19, 156, 157, 163]) J' J
theorem RQ.rf {J : zJ} {m : Int} (C : CT J m) (hm : J 6 12 = m) (hL : LI (J 19) m) (hD : RD2 J) : RQ J J m m := ⟨⟨C, hm, hL, hD⟩, zOf.rf⟩
theorem RQ.rt {J2 J1 J : zJ} {m m1 m2 : Int} (g : RQ J1 J m m1) (h : RT J2 J1 m1 m2) : RQ J2 J m m2 := ⟨⟨h.1.2.1, h.1.2.2.1, by rw [h.1.2.2.2.2 19 rfl]; exact g.1.2.2.1.mono h.1.1, h.2.1⟩, (h.1.2.2.2.2.mono (zbut_sub (fun c hc => by simp at hc ⊢; omega))).tr g.2⟩
theorem RQ.rn {J2 J1 J : zJ} {m m1 : Int} (g : RQ J1 J m m1) (h : RN J2 J1) (hD : RD2 J2) : RQ J2 J m m1 := g.rt ((RT.rf g.1.1 g.1.2.1 g.1.2.2.2).rn h hD)
theorem RQ.or {J2 J1 J : zJ} {m m1 : Int} (g : RQ J1 J m m1) (h : zOf (zbut [156, 157]) J2 J1) : RQ J2 J m m1 := ⟨⟨g.1.1.of (fun c hc => h c (by simp [zbut]; omega)), by rw [h 6 rfl]; exact g.1.2.1, by rw [h 19 rfl]; exact g.1.2.2.1, g.1.2.2.2.of (h 163 rfl)⟩, (h.mono (zbut_sub (fun c hc => by simp at hc ⊢; omega))).tr g.2⟩
theorem RQ.led {J2 J1 J : zJ} {m m1 : Int} (g : RQ J1 J m m1) (h : zOf (zbut [19]) J2 J1) (hL : LI (J2 19) m1) : RQ J2 J m m1 := ⟨⟨g.1.1.of (fun c hc => h c (by simp [zbut]; omega)), by rw [h 6 rfl]; exact g.1.2.1, hL, g.1.2.2.2.of (h 163 rfl)⟩, (h.mono (zbut_sub (fun c hc => by simp at hc ⊢; omega))).tr g.2⟩
theorem RQ.tr {J3 J2 J1 : zJ} {m1 m2 m3 : Int} (g : RQ J2 J1 m1 m2) (h : RQ J3 J2 m2 m3) : RQ J3 J1 m1 m3 := ⟨h.1, h.2.tr g.2⟩
theorem zof_aR {J : zJ} {x y : Int} : zOf (zbut [19]) (zaR J x y) J := by
  unfold zaR
  split
  · exact zOf.up rfl (zOf.up rfl (zOf.up rfl (zOf.up rfl zOf.rf)))
  · exact zOf.rf
theorem zof_aE {J : zJ} {x : Int} : zOf (zbut [19]) (zaE J x) J := by
  unfold zaE
  split
  · exact zOf.up rfl (zOf.up rfl zOf.rf)
  · exact zOf.rf
theorem zof_dE {J : zJ} {w : Int} : zOf (zbut [19]) (zdE J w) J := zOf.up rfl (fun c hc => by
  have : ¬ c = 19 := fun e => by rw [e] at hc; cases hc
  simp [zsh, this])
set_option maxHeartbeats 4000000 in
set_option maxRecDepth 100000 in
theorem c_readLone {l : Launch} {G : tb_G} (hl : l.stackTraces = false) (n : Nat) (J : zJ)   (m : Int) (hnb : n ≤ tb_sc) (C : CT J m) (hm : J 6 12 = m) (hL : LI (J 19) m) (hD : RD2 J) : tz_Ok l G M_X5_readLoneTerm 32 0 0 [.ref 163] n J (zqv (fun J' => ∃ m', RQ J' J m m')) zN := by
  refine tz_Ok.of hl (by decide +kernel) rfl (tb_c1 rfl) (Nat.le_of_ble_eq_true rfl) ?_
  show tz_At l G M_X5_readLoneTerm (tb_rm 32 0 0) none (tb_ZM G 0 0 (zQ n 0 (zqv (fun J' => ∃ m', RQ J' J m m'))) (zX n 0 zN)) 0 0 n J 0 [some (.ref 163)] []
  have g0 : RQ J J m m := RQ.rf C hm hL hD
  refine tz_aload_n (pc := 0) dX5_readLoneTerm_0 rfl rfl ?_
  have b_1 := (g0).1.2.2.2
  obtain ⟨⟨⟨b1_1, b2_1⟩, b3_1, b4_1⟩, b5_1⟩ := id b_1
  have t_1 := (g0).1.1.told
  refine tz_cV (pc := 1) (c_next hl n _ (by omega) (by omega)) vl_X5_65 dX5_readLoneTerm_1 o_163 rfl rfl (Nat.le_of_ble_eq_true rfl) ⟨(Nat.le_of_ble_eq_true rfl), (Nat.le_of_ble_eq_true rfl)⟩ rfl rfl (Nat.le_of_ble_eq_true rfl) (Nat.le_of_ble_eq_true rfl) (fun r9 J_1 hq9 => ?_)
  obtain ⟨rfl, g_1, d_1, v_1⟩ := hq9
  have q_1 := RQ.rn g0 g_1 d_1
  have f_1 := g_1.2.2
  refine tz_aload_n (pc := 4) dX5_readLoneTerm_4 rfl rfl ?_
  refine tz_iconst (pc := 5) dX5_readLoneTerm_5 ?_
  refine tz_cV (pc := 6) (c_readTerm hl n _ m (q_1).1.1 (q_1).1.2.1 (q_1).1.2.2.2) vl_X5_113 dX5_readLoneTerm_6 o_163 rfl rfl (Nat.le_of_ble_eq_true rfl) ⟨(Nat.le_of_ble_eq_true rfl), (Nat.le_of_ble_eq_true rfl)⟩ rfl rfl (Nat.le_of_ble_eq_true rfl) (Nat.le_of_ble_eq_true rfl) (fun r9 J_6 hq9 => ?_)
  obtain ⟨z_6, rfl, hz_6, m_6, g_6, u_6⟩ := hq9
  have q_6 := RQ.rt q_1 g_6
  have f_6 := g_6.2.2
  have l_6 := g_6.1.1
  refine tz_pop (pc := 9) dX5_readLoneTerm_9 rfl ?_
  refine tz_aload_n (pc := 10) dX5_readLoneTerm_10 rfl rfl ?_
  refine tz_bipush (pc := 11) dX5_readLoneTerm_11 (by decide) ?_
  have b_13 := (q_6).1.2.2.2
  obtain ⟨⟨⟨b1_13, b2_13⟩, b3_13, b4_13⟩, b5_13⟩ := id b_13
  have t_13 := (q_6).1.1.told
  refine tz_cV (pc := 13) (c_pass hl n _ _ (by decide) b_13) vl_X5_116 dX5_readLoneTerm_13 o_163 rfl rfl (Nat.le_of_ble_eq_true rfl) ⟨(Nat.le_of_ble_eq_true rfl), (Nat.le_of_ble_eq_true rfl)⟩ rfl rfl (Nat.le_of_ble_eq_true rfl) (Nat.le_of_ble_eq_true rfl) (fun r9 J_13 hq9 => ?_)
  obtain ⟨rfl, g_13, d_13⟩ := hq9
  have q_13 := RQ.rn q_6 g_13 d_13
  have f_13 := g_13.2.2
  exact tz_vret (pc := 16) dX5_readLoneTerm_16 rfl (Nat.le_of_ble_eq_true rfl) (Nat.le_of_ble_eq_true rfl) ⟨Nat.le_refl _, Nat.le_add_right _ _⟩ ⟨rfl, ⟨m_6, q_13⟩⟩

set_option maxHeartbeats 4000000 in
set_option maxRecDepth 100000 in
theorem c_readSym {l : Launch} {G : tb_G} (hl : l.stackTraces = false) (n : Nat) (J : zJ)   (m : Int) (hnb : n ≤ tb_sc) (C : CT J m) (hm : J 6 12 = m) (hL : LI (J 19) m) (hD : RD2 J) : tz_Ok l G M_X5_readSymbol 3 0 0 [.ref 163] n J (zqv (fun J' => ∃ m', RQ J' J m m')) zN := by
  refine tz_Ok.of hl (by decide +kernel) rfl (tb_c1 rfl) (Nat.le_of_ble_eq_true rfl) ?_
  show tz_At l G M_X5_readSymbol (tb_rm 3 0 0) none (tb_ZM G 0 0 (zQ n 0 (zqv (fun J' => ∃ m', RQ J' J m m'))) (zX n 0 zN)) 0 0 n J 0 [some (.ref 163), none, none, none] []
  have g0 : RQ J J m m := RQ.rf C hm hL hD
  have hb := C.told
  refine tz_aload_n (pc := 0) dX5_readSymbol_0 rfl rfl ?_
  refine tz_fR (pc := 1) dX5_readSymbol_1 fl_X5_54 r_163_2 ?_
  refine tz_fI (pc := 4) (kz := 3) (v := (J 1 3)) dX5_readSymbol_4 fl_X5_120 i_1_3 rfl rfl (fun r_4 => ?_)
  refine tz_bipush (pc := 7) dX5_readSymbol_7 (by decide) ?_
  refine tz_icmp_lt (pc := 9) (tgt := 19) dX5_readSymbol_9 (by decide) (by omega) (by decide) (fun h_9 => ?_) (fun h_9 => ?_)
  · refine tz_aload_n (pc := 19) dX5_readSymbol_19 rfl rfl ?_
    have b_20 := (g0).1.2.2.2
    obtain ⟨⟨⟨b1_20, b2_20⟩, b3_20, b4_20⟩, b5_20⟩ := id b_20
    have t_20 := (g0).1.1.told
    refine tz_cV (pc := 20) (c_next hl n _ (by omega) (by omega)) vl_X5_65 dX5_readSymbol_20 o_163 rfl rfl (Nat.le_of_ble_eq_true rfl) ⟨(Nat.le_of_ble_eq_true rfl), (Nat.le_of_ble_eq_true rfl)⟩ rfl rfl (Nat.le_of_ble_eq_true rfl) (Nat.le_of_ble_eq_true rfl) (fun r9 J_20 hq9 => ?_)
    obtain ⟨rfl, g_20, d_20, v_20⟩ := hq9
    have q_20 := RQ.rn g0 g_20 d_20
    have f_20 := g_20.2.2
    refine tz_aload_n (pc := 23) dX5_readSymbol_23 rfl rfl ?_
    have b_24 := (q_20).1.2.2.2
    obtain ⟨⟨⟨b1_24, b2_24⟩, b3_24, b4_24⟩, b5_24⟩ := id b_24
    have t_24 := (q_20).1.1.told
    refine tz_cV (pc := 24) (c_newName hl n _ b_24 t_24.1) vl_X5_125 dX5_readSymbol_24 o_163 rfl rfl (Nat.le_of_ble_eq_true rfl) ⟨(Nat.le_of_ble_eq_true rfl), (Nat.le_of_ble_eq_true rfl)⟩ rfl rfl (Nat.le_of_ble_eq_true rfl) (Nat.le_of_ble_eq_true rfl) (fun r9 J_24 hq9 => ?_)
    obtain ⟨z_24, rfl, hz_24, g_24, d_24⟩ := hq9
    have q_24 := RQ.rn q_20 g_24 d_24
    have f_24 := g_24.2.2
    refine tz_istore_n (pc := 27) (L2 := [_, _, _, _]) dX5_readSymbol_27 rfl (by decide) rfl ?_
    refine tz_aload_n (pc := 28) dX5_readSymbol_28 rfl rfl ?_
    refine tz_iconst (pc := 29) dX5_readSymbol_29 ?_
    refine tz_iconst (pc := 30) dX5_readSymbol_30 ?_
    have b_31 := (q_24).1.2.2.2
    obtain ⟨⟨⟨b1_31, b2_31⟩, b3_31, b4_31⟩, b5_31⟩ := id b_31
    have t_31 := (q_24).1.1.told
    refine tz_cV (pc := 31) (c_readNum hl n _ _ _ (by decide) (by decide) b_31 (Or.inl rfl) (by decide)) vl_X5_128 dX5_readSymbol_31 o_163 rfl rfl (Nat.le_of_ble_eq_true rfl) ⟨(Nat.le_of_ble_eq_true rfl), (Nat.le_of_ble_eq_true rfl)⟩ rfl rfl (Nat.le_of_ble_eq_true rfl) (Nat.le_of_ble_eq_true rfl) (fun r9 J_31 hq9 => ?_)
    obtain ⟨z_31, rfl, hz_31, g_31, d_31, u_31⟩ := hq9
    have q_31 := RQ.rn q_24 g_31 d_31
    have f_31 := g_31.2.2
    refine tz_istore_n (pc := 34) (L2 := [_, _, _, _]) dX5_readSymbol_34 rfl (by decide) rfl ?_
    refine tz_aload_n (pc := 35) dX5_readSymbol_35 rfl rfl ?_
    refine tz_iconst (pc := 36) dX5_readSymbol_36 ?_
    refine tz_bipush (pc := 37) dX5_readSymbol_37 (by decide) ?_
    have b_39 := (q_31).1.2.2.2
    obtain ⟨⟨⟨b1_39, b2_39⟩, b3_39, b4_39⟩, b5_39⟩ := id b_39
    have t_39 := (q_31).1.1.told
    refine tz_cV (pc := 39) (c_readNum hl n _ _ _ (by decide) (by decide) b_39 (Or.inr rfl) (by decide)) vl_X5_128 dX5_readSymbol_39 o_163 rfl rfl (Nat.le_of_ble_eq_true rfl) ⟨(Nat.le_of_ble_eq_true rfl), (Nat.le_of_ble_eq_true rfl)⟩ rfl rfl (Nat.le_of_ble_eq_true rfl) (Nat.le_of_ble_eq_true rfl) (fun r9 J_39 hq9 => ?_)
    obtain ⟨z_39, rfl, hz_39, g_39, d_39, u_39⟩ := hq9
    have q_39 := RQ.rn q_31 g_39 d_39
    have f_39 := g_39.2.2
    refine tz_istore_n (pc := 42) (L2 := [_, _, _, _]) dX5_readSymbol_42 rfl (by decide) rfl ?_
    refine tz_aload_n (pc := 43) dX5_readSymbol_43 rfl rfl ?_
    refine tz_bipush (pc := 44) dX5_readSymbol_44 (by decide) ?_
    have b_46 := (q_39).1.2.2.2
    obtain ⟨⟨⟨b1_46, b2_46⟩, b3_46, b4_46⟩, b5_46⟩ := id b_46
    have t_46 := (q_39).1.1.told
    refine tz_cV (pc := 46) (c_pass hl n _ _ (by decide) b_46) vl_X5_116 dX5_readSymbol_46 o_163 rfl rfl (Nat.le_of_ble_eq_true rfl) ⟨(Nat.le_of_ble_eq_true rfl), (Nat.le_of_ble_eq_true rfl)⟩ rfl rfl (Nat.le_of_ble_eq_true rfl) (Nat.le_of_ble_eq_true rfl) (fun r9 J_46 hq9 => ?_)
    obtain ⟨rfl, g_46, d_46⟩ := hq9
    have q_46 := RQ.rn q_39 g_46 d_46
    have f_46 := g_46.2.2
    refine tz_aload_n (pc := 49) dX5_readSymbol_49 rfl rfl ?_
    refine tz_fI (pc := 50) (kz := 8) (v := (J_46 163 8)) dX5_readSymbol_50 fl_X5_24 i_163_8 rfl rfl (fun r_50 => ?_)
    refine tz_if_ne (pc := 53) (tgt := 66) dX5_readSymbol_53 (by decide) (by omega) (fun h_53 => ?_) (fun h_53 => ?_)
    · exact tz_vret (pc := 66) dX5_readSymbol_66 rfl (Nat.le_of_ble_eq_true rfl) (Nat.le_of_ble_eq_true rfl) ⟨Nat.le_refl _, Nat.le_add_right _ _⟩ ⟨rfl, ⟨m, q_46⟩⟩
    · refine tz_aload_n (pc := 56) dX5_readSymbol_56 rfl rfl ?_
      refine tz_fR (pc := 57) dX5_readSymbol_57 fl_X5_54 r_163_2 ?_
      refine tz_iload_n (pc := 60) dX5_readSymbol_60 rfl rfl ?_
      refine tz_iload_n (pc := 61) dX5_readSymbol_61 rfl rfl ?_
      refine tz_iload_n (pc := 62) dX5_readSymbol_62 rfl rfl ?_
      have w_63 := (q_46).1.1.told
      have s_63 : J_46 1 = J 1 := (g_46.1 1 rfl).trans ((g_39.1 1 rfl).trans ((g_31.1 1 rfl).trans ((g_24.1 1 rfl).trans (g_20.1 1 rfl))))
      refine tz_cV (pc := 63) (c_syAdd hl n _ _ _ _ (by omega) (by omega) (by omega) (by rw [s_63]; omega)) vl_X5_131 dX5_readSymbol_63 o_1 rfl rfl (Nat.le_of_ble_eq_true rfl) ⟨(Nat.le_of_ble_eq_true rfl), (Nat.le_of_ble_eq_true rfl)⟩ rfl rfl (Nat.le_of_ble_eq_true rfl) (Nat.le_of_ble_eq_true rfl) (fun r9 J_63 hq9 => ?_)
      obtain ⟨rfl, j_63⟩ := hq9
      have q_63 : RQ J_63 J m m := by
        rw [← j_63]
        exact ⟨⟨(q_46).1.1.sym (by rw [s_63]; omega) (by omega) (by omega), (q_46).1.2.1, (q_46).1.2.2.1, (q_46).1.2.2.2⟩, zOf.up rfl (zOf.up rfl (zOf.up rfl (zOf.up rfl (q_46).2)))⟩
      exact tz_vret (pc := 66) dX5_readSymbol_66 rfl (Nat.le_of_ble_eq_true rfl) (Nat.le_of_ble_eq_true rfl) ⟨Nat.le_refl _, Nat.le_add_right _ _⟩ ⟨rfl, ⟨m, q_63⟩⟩
  · refine tz_aload_n (pc := 12) dX5_readSymbol_12 rfl rfl ?_
    refine tz_iconst (pc := 13) dX5_readSymbol_13 ?_
    refine tz_cV (pc := 14) (c_fail hl n _ _ (by decide) (by decide)) vl_X5_97 dX5_readSymbol_14 o_163 rfl rfl (Nat.le_of_ble_eq_true rfl) ⟨(Nat.le_of_ble_eq_true rfl), (Nat.le_of_ble_eq_true rfl)⟩ rfl rfl (Nat.le_of_ble_eq_true rfl) (Nat.le_of_ble_eq_true rfl) (fun r9 J_14 hq9 => ?_)
    obtain ⟨z_14, rfl, hz_14, g_14, d_14, e_14, v_14⟩ := hq9
    have q_14 := RQ.rn g0 g_14 (d_14 (g0).1.2.2.2)
    have f_14 := g_14.2.2
    refine tz_pop (pc := 17) dX5_readSymbol_17 rfl ?_
    exact tz_vret (pc := 18) dX5_readSymbol_18 rfl (Nat.le_of_ble_eq_true rfl) (Nat.le_of_ble_eq_true rfl) ⟨Nat.le_refl _, Nat.le_add_right _ _⟩ ⟨rfl, ⟨m, q_14⟩⟩

set_option maxHeartbeats 4000000 in
set_option maxRecDepth 100000 in
theorem c_readRule {l : Launch} {G : tb_G} (hl : l.stackTraces = false) (n : Nat) (J : zJ)   (m : Int) (hnb : n ≤ tb_sc) (C : CT J m) (hm : J 6 12 = m) (hL : LI (J 19) m) (hD : RD2 J) : tz_Ok l G M_X5_readRule 32 0 0 [.ref 163] n J (zqv (fun J' => ∃ m', RQ J' J m m')) zN := by
  refine tz_Ok.of hl (by decide +kernel) rfl (tb_c1 rfl) (Nat.le_of_ble_eq_true rfl) ?_
  show tz_At l G M_X5_readRule (tb_rm 32 0 0) none (tb_ZM G 0 0 (zQ n 0 (zqv (fun J' => ∃ m', RQ J' J m m'))) (zX n 0 zN)) 0 0 n J 0 [some (.ref 163), none, none] []
  have g0 : RQ J J m m := RQ.rf C hm hL hD
  have h4 := hL.1.2.1
  refine tz_aload_n (pc := 0) dX5_readRule_0 rfl rfl ?_
  refine tz_fR (pc := 1) dX5_readRule_1 fl_X5_38 r_163_1 ?_
  refine tz_fR (pc := 4) dX5_readRule_4 fl_X5_138 r_5_1 ?_
  refine tz_fR (pc := 7) dX5_readRule_7 fl_X5_142 r_18_0 ?_
  refine tz_iconst (pc := 10) dX5_readRule_10 ?_
  refine tz_aL (pc := 11) (z := 4) (v := (J 19 4)) dX5_readRule_11 a_19 rfl (by decide) rfl (fun r_11 => ?_)
  refine tz_bipush (pc := 12) dX5_readRule_12 (by decide) ?_
  refine tz_icmp_lt (pc := 14) (tgt := 24) dX5_readRule_14 (by decide) (by omega) (by decide) (fun h_14 => ?_) (fun h_14 => ?_)
  · refine tz_aload_n (pc := 24) dX5_readRule_24 rfl rfl ?_
    have b_25 := (g0).1.2.2.2
    obtain ⟨⟨⟨b1_25, b2_25⟩, b3_25, b4_25⟩, b5_25⟩ := id b_25
    have t_25 := (g0).1.1.told
    refine tz_cV (pc := 25) (c_next hl n _ (by omega) (by omega)) vl_X5_65 dX5_readRule_25 o_163 rfl rfl (Nat.le_of_ble_eq_true rfl) ⟨(Nat.le_of_ble_eq_true rfl), (Nat.le_of_ble_eq_true rfl)⟩ rfl rfl (Nat.le_of_ble_eq_true rfl) (Nat.le_of_ble_eq_true rfl) (fun r9 J_25 hq9 => ?_)
    obtain ⟨rfl, g_25, d_25, v_25⟩ := hq9
    have q_25 := RQ.rn g0 g_25 d_25
    have f_25 := g_25.2.2
    refine tz_aload_n (pc := 28) dX5_readRule_28 rfl rfl ?_
    refine tz_iconst (pc := 29) dX5_readRule_29 ?_
    refine tz_cV (pc := 30) (c_readTerm hl n _ m (q_25).1.1 (q_25).1.2.1 (q_25).1.2.2.2) vl_X5_113 dX5_readRule_30 o_163 rfl rfl (Nat.le_of_ble_eq_true rfl) ⟨(Nat.le_of_ble_eq_true rfl), (Nat.le_of_ble_eq_true rfl)⟩ rfl rfl (Nat.le_of_ble_eq_true rfl) (Nat.le_of_ble_eq_true rfl) (fun r9 J_30 hq9 => ?_)
    obtain ⟨z_30, rfl, hz_30, m_30, g_30, u_30⟩ := hq9
    have q_30 := RQ.rt q_25 g_30
    have f_30 := g_30.2.2
    have l_30 := g_30.1.1
    refine tz_istore_n (pc := 33) (L2 := [_, _, _]) dX5_readRule_33 rfl (by decide) rfl ?_
    refine tz_aload_n (pc := 34) dX5_readRule_34 rfl rfl ?_
    have b_35 := (q_30).1.2.2.2
    obtain ⟨⟨⟨b1_35, b2_35⟩, b3_35, b4_35⟩, b5_35⟩ := id b_35
    have t_35 := (q_30).1.1.told
    refine tz_cV (pc := 35) (c_passTo hl n _ hnb b_35) vl_X5_147 dX5_readRule_35 o_163 rfl rfl (Nat.le_of_ble_eq_true rfl) ⟨(Nat.le_of_ble_eq_true rfl), (Nat.le_of_ble_eq_true rfl)⟩ rfl rfl (Nat.le_of_ble_eq_true rfl) (Nat.le_of_ble_eq_true rfl) (fun r9 J_35 hq9 => ?_)
    obtain ⟨rfl, g_35, d_35⟩ := hq9
    have q_35 := RQ.rn q_30 g_35 d_35
    have f_35 := g_35.2.2
    refine tz_aload_n (pc := 38) dX5_readRule_38 rfl rfl ?_
    refine tz_iconst (pc := 39) dX5_readRule_39 ?_
    refine tz_cV (pc := 40) (c_readTerm hl n _ m_30 (q_35).1.1 (q_35).1.2.1 (q_35).1.2.2.2) vl_X5_113 dX5_readRule_40 o_163 rfl rfl (Nat.le_of_ble_eq_true rfl) ⟨(Nat.le_of_ble_eq_true rfl), (Nat.le_of_ble_eq_true rfl)⟩ rfl rfl (Nat.le_of_ble_eq_true rfl) (Nat.le_of_ble_eq_true rfl) (fun r9 J_40 hq9 => ?_)
    obtain ⟨z_40, rfl, hz_40, m_40, g_40, u_40⟩ := hq9
    have q_40 := RQ.rt q_35 g_40
    have f_40 := g_40.2.2
    have l_40 := g_40.1.1
    refine tz_istore_n (pc := 43) (L2 := [_, _, _]) dX5_readRule_43 rfl (by decide) rfl ?_
    refine tz_aload_n (pc := 44) dX5_readRule_44 rfl rfl ?_
    refine tz_fI (pc := 45) (kz := 8) (v := (J_40 163 8)) dX5_readRule_45 fl_X5_24 i_163_8 rfl rfl (fun r_45 => ?_)
    refine tz_if_ne (pc := 48) (tgt := 78) dX5_readRule_48 (by decide) (by omega) (fun h_48 => ?_) (fun h_48 => ?_)
    · refine tz_aload_n (pc := 78) dX5_readRule_78 rfl rfl ?_
      refine tz_bipush (pc := 79) dX5_readRule_79 (by decide) ?_
      have b_81 := (q_40).1.2.2.2
      obtain ⟨⟨⟨b1_81, b2_81⟩, b3_81, b4_81⟩, b5_81⟩ := id b_81
      have t_81 := (q_40).1.1.told
      refine tz_cV (pc := 81) (c_pass hl n _ _ (by decide) b_81) vl_X5_116 dX5_readRule_81 o_163 rfl rfl (Nat.le_of_ble_eq_true rfl) ⟨(Nat.le_of_ble_eq_true rfl), (Nat.le_of_ble_eq_true rfl)⟩ rfl rfl (Nat.le_of_ble_eq_true rfl) (Nat.le_of_ble_eq_true rfl) (fun r9 J_81 hq9 => ?_)
      obtain ⟨rfl, g_81, d_81⟩ := hq9
      have q_81 := RQ.rn q_40 g_81 d_81
      have f_81 := g_81.2.2
      refine tz_aload_n (pc := 84) dX5_readRule_84 rfl rfl ?_
      refine tz_fI (pc := 85) (kz := 8) (v := (J_81 163 8)) dX5_readRule_85 fl_X5_24 i_163_8 rfl rfl (fun r_85 => ?_)
      refine tz_if_ne (pc := 88) (tgt := 103) dX5_readRule_88 (by decide) (by omega) (fun h_88 => ?_) (fun h_88 => ?_)
      · exact tz_vret (pc := 103) dX5_readRule_103 rfl (Nat.le_of_ble_eq_true rfl) (Nat.le_of_ble_eq_true rfl) ⟨Nat.le_refl _, Nat.le_add_right _ _⟩ ⟨rfl, ⟨m_40, q_81⟩⟩
      · refine tz_aload_n (pc := 91) dX5_readRule_91 rfl rfl ?_
        refine tz_fR (pc := 92) dX5_readRule_92 fl_X5_38 r_163_1 ?_
        refine tz_fR (pc := 95) dX5_readRule_95 fl_X5_138 r_5_1 ?_
        refine tz_iload_n (pc := 98) dX5_readRule_98 rfl rfl ?_
        refine tz_iload_n (pc := 99) dX5_readRule_99 rfl rfl ?_
        have w_100 := (q_81).1.2.2.1.1
        refine tz_cV (pc := 100) (c_addRule hl n _ _ _ (by omega) (by omega) w_100.2.1) vl_X5_156 dX5_readRule_100 o_18 rfl rfl (Nat.le_of_ble_eq_true rfl) ⟨(Nat.le_of_ble_eq_true rfl), (Nat.le_of_ble_eq_true rfl)⟩ rfl rfl (Nat.le_of_ble_eq_true rfl) (Nat.le_of_ble_eq_true rfl) (fun r9 J_100 hq9 => ?_)
        obtain ⟨rfl, j_100⟩ := hq9
        have k_100 : zOf (zbut [19]) J_100 J_81 := by rw [← j_100]; exact zof_aR
        have q_100 := RQ.led q_81 k_100 (by rw [← j_100]; exact (q_81).1.2.2.1.aR (by omega) (by omega))
        exact tz_vret (pc := 103) dX5_readRule_103 rfl (Nat.le_of_ble_eq_true rfl) (Nat.le_of_ble_eq_true rfl) ⟨Nat.le_refl _, Nat.le_add_right _ _⟩ ⟨rfl, ⟨m_40, q_100⟩⟩
    · refine tz_aload_n (pc := 51) dX5_readRule_51 rfl rfl ?_
      refine tz_fI (pc := 52) (kz := 5) (v := (J_40 163 5)) dX5_readRule_52 fl_X5_15 i_163_5 rfl rfl (fun r_52 => ?_)
      refine tz_bipush (pc := 55) dX5_readRule_55 (by decide) ?_
      refine tz_icmp_ne (pc := 57) (tgt := 78) dX5_readRule_57 (by decide) (by omega) (by decide) (fun h_57 => ?_) (fun h_57 => ?_)
      · refine tz_aload_n (pc := 78) dX5_readRule_78 rfl rfl ?_
        refine tz_bipush (pc := 79) dX5_readRule_79 (by decide) ?_
        have b_81 := (q_40).1.2.2.2
        obtain ⟨⟨⟨b1_81, b2_81⟩, b3_81, b4_81⟩, b5_81⟩ := id b_81
        have t_81 := (q_40).1.1.told
        refine tz_cV (pc := 81) (c_pass hl n _ _ (by decide) b_81) vl_X5_116 dX5_readRule_81 o_163 rfl rfl (Nat.le_of_ble_eq_true rfl) ⟨(Nat.le_of_ble_eq_true rfl), (Nat.le_of_ble_eq_true rfl)⟩ rfl rfl (Nat.le_of_ble_eq_true rfl) (Nat.le_of_ble_eq_true rfl) (fun r9 J_81 hq9 => ?_)
        obtain ⟨rfl, g_81, d_81⟩ := hq9
        have q_81 := RQ.rn q_40 g_81 d_81
        have f_81 := g_81.2.2
        refine tz_aload_n (pc := 84) dX5_readRule_84 rfl rfl ?_
        refine tz_fI (pc := 85) (kz := 8) (v := (J_81 163 8)) dX5_readRule_85 fl_X5_24 i_163_8 rfl rfl (fun r_85 => ?_)
        refine tz_if_ne (pc := 88) (tgt := 103) dX5_readRule_88 (by decide) (by omega) (fun h_88 => ?_) (fun h_88 => ?_)
        · exact tz_vret (pc := 103) dX5_readRule_103 rfl (Nat.le_of_ble_eq_true rfl) (Nat.le_of_ble_eq_true rfl) ⟨Nat.le_refl _, Nat.le_add_right _ _⟩ ⟨rfl, ⟨m_40, q_81⟩⟩
        · refine tz_aload_n (pc := 91) dX5_readRule_91 rfl rfl ?_
          refine tz_fR (pc := 92) dX5_readRule_92 fl_X5_38 r_163_1 ?_
          refine tz_fR (pc := 95) dX5_readRule_95 fl_X5_138 r_5_1 ?_
          refine tz_iload_n (pc := 98) dX5_readRule_98 rfl rfl ?_
          refine tz_iload_n (pc := 99) dX5_readRule_99 rfl rfl ?_
          have w_100 := (q_81).1.2.2.1.1
          refine tz_cV (pc := 100) (c_addRule hl n _ _ _ (by omega) (by omega) w_100.2.1) vl_X5_156 dX5_readRule_100 o_18 rfl rfl (Nat.le_of_ble_eq_true rfl) ⟨(Nat.le_of_ble_eq_true rfl), (Nat.le_of_ble_eq_true rfl)⟩ rfl rfl (Nat.le_of_ble_eq_true rfl) (Nat.le_of_ble_eq_true rfl) (fun r9 J_100 hq9 => ?_)
          obtain ⟨rfl, j_100⟩ := hq9
          have k_100 : zOf (zbut [19]) J_100 J_81 := by rw [← j_100]; exact zof_aR
          have q_100 := RQ.led q_81 k_100 (by rw [← j_100]; exact (q_81).1.2.2.1.aR (by omega) (by omega))
          exact tz_vret (pc := 103) dX5_readRule_103 rfl (Nat.le_of_ble_eq_true rfl) (Nat.le_of_ble_eq_true rfl) ⟨Nat.le_refl _, Nat.le_add_right _ _⟩ ⟨rfl, ⟨m_40, q_100⟩⟩
      · refine tz_aload_n (pc := 60) dX5_readRule_60 rfl rfl ?_
        refine tz_fR (pc := 61) dX5_readRule_61 fl_X5_55 r_163_3 ?_
        refine tz_iload_n (pc := 64) dX5_readRule_64 rfl rfl ?_
        refine tz_iload_n (pc := 65) dX5_readRule_65 rfl rfl ?_
        refine tz_cV (pc := 66) (c_isRule hl n _ _ _ (by omega) (by omega) m_40 (q_40).1.1 (q_40).1.2.1) vl_X5_150 dX5_readRule_66 o_155 rfl rfl (Nat.le_of_ble_eq_true rfl) ⟨(Nat.le_of_ble_eq_true rfl), (Nat.le_of_ble_eq_true rfl)⟩ rfl rfl (Nat.le_of_ble_eq_true rfl) (Nat.le_of_ble_eq_true rfl) (fun r9 J_66 hq9 => ?_)
        obtain ⟨z_66, rfl, hz_66, i_66, r_66, -⟩ := hq9
        have q_66 := RQ.or q_40 r_66
        have x_66 := congrFun (r_66 163 rfl) 8
        refine tz_if_ne (pc := 69) (tgt := 78) dX5_readRule_69 (by decide) (by omega) (fun h_69 => ?_) (fun h_69 => ?_)
        · refine tz_aload_n (pc := 78) dX5_readRule_78 rfl rfl ?_
          refine tz_bipush (pc := 79) dX5_readRule_79 (by decide) ?_
          have b_81 := (q_66).1.2.2.2
          obtain ⟨⟨⟨b1_81, b2_81⟩, b3_81, b4_81⟩, b5_81⟩ := id b_81
          have t_81 := (q_66).1.1.told
          refine tz_cV (pc := 81) (c_pass hl n _ _ (by decide) b_81) vl_X5_116 dX5_readRule_81 o_163 rfl rfl (Nat.le_of_ble_eq_true rfl) ⟨(Nat.le_of_ble_eq_true rfl), (Nat.le_of_ble_eq_true rfl)⟩ rfl rfl (Nat.le_of_ble_eq_true rfl) (Nat.le_of_ble_eq_true rfl) (fun r9 J_81 hq9 => ?_)
          obtain ⟨rfl, g_81, d_81⟩ := hq9
          have q_81 := RQ.rn q_66 g_81 d_81
          have f_81 := g_81.2.2
          refine tz_aload_n (pc := 84) dX5_readRule_84 rfl rfl ?_
          refine tz_fI (pc := 85) (kz := 8) (v := (J_81 163 8)) dX5_readRule_85 fl_X5_24 i_163_8 rfl rfl (fun r_85 => ?_)
          refine tz_if_ne (pc := 88) (tgt := 103) dX5_readRule_88 (by decide) (by omega) (fun h_88 => ?_) (fun h_88 => ?_)
          · exact tz_vret (pc := 103) dX5_readRule_103 rfl (Nat.le_of_ble_eq_true rfl) (Nat.le_of_ble_eq_true rfl) ⟨Nat.le_refl _, Nat.le_add_right _ _⟩ ⟨rfl, ⟨m_40, q_81⟩⟩
          · refine tz_aload_n (pc := 91) dX5_readRule_91 rfl rfl ?_
            refine tz_fR (pc := 92) dX5_readRule_92 fl_X5_38 r_163_1 ?_
            refine tz_fR (pc := 95) dX5_readRule_95 fl_X5_138 r_5_1 ?_
            refine tz_iload_n (pc := 98) dX5_readRule_98 rfl rfl ?_
            refine tz_iload_n (pc := 99) dX5_readRule_99 rfl rfl ?_
            have w_100 := (q_81).1.2.2.1.1
            refine tz_cV (pc := 100) (c_addRule hl n _ _ _ (by omega) (by omega) w_100.2.1) vl_X5_156 dX5_readRule_100 o_18 rfl rfl (Nat.le_of_ble_eq_true rfl) ⟨(Nat.le_of_ble_eq_true rfl), (Nat.le_of_ble_eq_true rfl)⟩ rfl rfl (Nat.le_of_ble_eq_true rfl) (Nat.le_of_ble_eq_true rfl) (fun r9 J_100 hq9 => ?_)
            obtain ⟨rfl, j_100⟩ := hq9
            have k_100 : zOf (zbut [19]) J_100 J_81 := by rw [← j_100]; exact zof_aR
            have q_100 := RQ.led q_81 k_100 (by rw [← j_100]; exact (q_81).1.2.2.1.aR (by omega) (by omega))
            exact tz_vret (pc := 103) dX5_readRule_103 rfl (Nat.le_of_ble_eq_true rfl) (Nat.le_of_ble_eq_true rfl) ⟨Nat.le_refl _, Nat.le_add_right _ _⟩ ⟨rfl, ⟨m_40, q_100⟩⟩
        · refine tz_aload_n (pc := 72) dX5_readRule_72 rfl rfl ?_
          refine tz_iconst (pc := 73) dX5_readRule_73 ?_
          refine tz_cV (pc := 74) (c_fail hl n _ _ (by decide) (by decide)) vl_X5_97 dX5_readRule_74 o_163 rfl rfl (Nat.le_of_ble_eq_true rfl) ⟨(Nat.le_of_ble_eq_true rfl), (Nat.le_of_ble_eq_true rfl)⟩ rfl rfl (Nat.le_of_ble_eq_true rfl) (Nat.le_of_ble_eq_true rfl) (fun r9 J_74 hq9 => ?_)
          obtain ⟨z_74, rfl, hz_74, g_74, d_74, e_74, v_74⟩ := hq9
          have q_74 := RQ.rn q_66 g_74 (d_74 (q_66).1.2.2.2)
          have f_74 := g_74.2.2
          refine tz_pop (pc := 77) dX5_readRule_77 rfl ?_
          refine tz_aload_n (pc := 78) dX5_readRule_78 rfl rfl ?_
          refine tz_bipush (pc := 79) dX5_readRule_79 (by decide) ?_
          have b_81 := (q_74).1.2.2.2
          obtain ⟨⟨⟨b1_81, b2_81⟩, b3_81, b4_81⟩, b5_81⟩ := id b_81
          have t_81 := (q_74).1.1.told
          refine tz_cV (pc := 81) (c_pass hl n _ _ (by decide) b_81) vl_X5_116 dX5_readRule_81 o_163 rfl rfl (Nat.le_of_ble_eq_true rfl) ⟨(Nat.le_of_ble_eq_true rfl), (Nat.le_of_ble_eq_true rfl)⟩ rfl rfl (Nat.le_of_ble_eq_true rfl) (Nat.le_of_ble_eq_true rfl) (fun r9 J_81 hq9 => ?_)
          obtain ⟨rfl, g_81, d_81⟩ := hq9
          have q_81 := RQ.rn q_74 g_81 d_81
          have f_81 := g_81.2.2
          refine tz_aload_n (pc := 84) dX5_readRule_84 rfl rfl ?_
          refine tz_fI (pc := 85) (kz := 8) (v := (J_81 163 8)) dX5_readRule_85 fl_X5_24 i_163_8 rfl rfl (fun r_85 => ?_)
          refine tz_if_ne (pc := 88) (tgt := 103) dX5_readRule_88 (by decide) (by omega) (fun h_88 => ?_) (fun h_88 => ?_)
          · exact tz_vret (pc := 103) dX5_readRule_103 rfl (Nat.le_of_ble_eq_true rfl) (Nat.le_of_ble_eq_true rfl) ⟨Nat.le_refl _, Nat.le_add_right _ _⟩ ⟨rfl, ⟨m_40, q_81⟩⟩
          · refine tz_aload_n (pc := 91) dX5_readRule_91 rfl rfl ?_
            refine tz_fR (pc := 92) dX5_readRule_92 fl_X5_38 r_163_1 ?_
            refine tz_fR (pc := 95) dX5_readRule_95 fl_X5_138 r_5_1 ?_
            refine tz_iload_n (pc := 98) dX5_readRule_98 rfl rfl ?_
            refine tz_iload_n (pc := 99) dX5_readRule_99 rfl rfl ?_
            have w_100 := (q_81).1.2.2.1.1
            refine tz_cV (pc := 100) (c_addRule hl n _ _ _ (by omega) (by omega) w_100.2.1) vl_X5_156 dX5_readRule_100 o_18 rfl rfl (Nat.le_of_ble_eq_true rfl) ⟨(Nat.le_of_ble_eq_true rfl), (Nat.le_of_ble_eq_true rfl)⟩ rfl rfl (Nat.le_of_ble_eq_true rfl) (Nat.le_of_ble_eq_true rfl) (fun r9 J_100 hq9 => ?_)
            obtain ⟨rfl, j_100⟩ := hq9
            have k_100 : zOf (zbut [19]) J_100 J_81 := by rw [← j_100]; exact zof_aR
            have q_100 := RQ.led q_81 k_100 (by rw [← j_100]; exact (q_81).1.2.2.1.aR (by omega) (by omega))
            exact tz_vret (pc := 103) dX5_readRule_103 rfl (Nat.le_of_ble_eq_true rfl) (Nat.le_of_ble_eq_true rfl) ⟨Nat.le_refl _, Nat.le_add_right _ _⟩ ⟨rfl, ⟨m_40, q_100⟩⟩
  · refine tz_aload_n (pc := 17) dX5_readRule_17 rfl rfl ?_
    refine tz_iconst (pc := 18) dX5_readRule_18 ?_
    refine tz_cV (pc := 19) (c_fail hl n _ _ (by decide) (by decide)) vl_X5_97 dX5_readRule_19 o_163 rfl rfl (Nat.le_of_ble_eq_true rfl) ⟨(Nat.le_of_ble_eq_true rfl), (Nat.le_of_ble_eq_true rfl)⟩ rfl rfl (Nat.le_of_ble_eq_true rfl) (Nat.le_of_ble_eq_true rfl) (fun r9 J_19 hq9 => ?_)
    obtain ⟨z_19, rfl, hz_19, g_19, d_19, e_19, v_19⟩ := hq9
    have q_19 := RQ.rn g0 g_19 (d_19 (g0).1.2.2.2)
    have f_19 := g_19.2.2
    refine tz_pop (pc := 22) dX5_readRule_22 rfl ?_
    exact tz_vret (pc := 23) dX5_readRule_23 rfl (Nat.le_of_ble_eq_true rfl) (Nat.le_of_ble_eq_true rfl) ⟨Nat.le_refl _, Nat.le_add_right _ _⟩ ⟨rfl, ⟨m, q_19⟩⟩

set_option maxHeartbeats 4000000 in
set_option maxRecDepth 100000 in
theorem c_readEntry {l : Launch} {G : tb_G} (hl : l.stackTraces = false) (n : Nat) (J : zJ)   (m : Int) (hnb : n ≤ tb_sc) (C : CT J m) (hm : J 6 12 = m) (hL : LI (J 19) m) (hD : RD2 J) : tz_Ok l G M_X5_readEntry 32 0 0 [.ref 163] n J (zqv (fun J' => ∃ m', RQ J' J m m')) zN := by
  refine tz_Ok.of hl (by decide +kernel) rfl (tb_c1 rfl) (Nat.le_of_ble_eq_true rfl) ?_
  show tz_At l G M_X5_readEntry (tb_rm 32 0 0) none (tb_ZM G 0 0 (zQ n 0 (zqv (fun J' => ∃ m', RQ J' J m m'))) (zX n 0 zN)) 0 0 n J 0 [some (.ref 163), none] []
  have g0 : RQ J J m m := RQ.rf C hm hL hD
  have h5 := hL.1.2.2.1
  refine tz_aload_n (pc := 0) dX5_readEntry_0 rfl rfl ?_
  refine tz_fR (pc := 1) dX5_readEntry_1 fl_X5_38 r_163_1 ?_
  refine tz_fR (pc := 4) dX5_readEntry_4 fl_X5_138 r_5_1 ?_
  refine tz_fR (pc := 7) dX5_readEntry_7 fl_X5_142 r_18_0 ?_
  refine tz_iconst (pc := 10) dX5_readEntry_10 ?_
  refine tz_aL (pc := 11) (z := 5) (v := (J 19 5)) dX5_readEntry_11 a_19 rfl (by decide) rfl (fun r_11 => ?_)
  refine tz_bipush (pc := 12) dX5_readEntry_12 (by decide) ?_
  refine tz_icmp_lt (pc := 14) (tgt := 24) dX5_readEntry_14 (by decide) (by omega) (by decide) (fun h_14 => ?_) (fun h_14 => ?_)
  · refine tz_aload_n (pc := 24) dX5_readEntry_24 rfl rfl ?_
    have b_25 := (g0).1.2.2.2
    obtain ⟨⟨⟨b1_25, b2_25⟩, b3_25, b4_25⟩, b5_25⟩ := id b_25
    have t_25 := (g0).1.1.told
    refine tz_cV (pc := 25) (c_next hl n _ (by omega) (by omega)) vl_X5_65 dX5_readEntry_25 o_163 rfl rfl (Nat.le_of_ble_eq_true rfl) ⟨(Nat.le_of_ble_eq_true rfl), (Nat.le_of_ble_eq_true rfl)⟩ rfl rfl (Nat.le_of_ble_eq_true rfl) (Nat.le_of_ble_eq_true rfl) (fun r9 J_25 hq9 => ?_)
    obtain ⟨rfl, g_25, d_25, v_25⟩ := hq9
    have q_25 := RQ.rn g0 g_25 d_25
    have f_25 := g_25.2.2
    refine tz_aload_n (pc := 28) dX5_readEntry_28 rfl rfl ?_
    refine tz_iconst (pc := 29) dX5_readEntry_29 ?_
    refine tz_cV (pc := 30) (c_readTerm hl n _ m (q_25).1.1 (q_25).1.2.1 (q_25).1.2.2.2) vl_X5_113 dX5_readEntry_30 o_163 rfl rfl (Nat.le_of_ble_eq_true rfl) ⟨(Nat.le_of_ble_eq_true rfl), (Nat.le_of_ble_eq_true rfl)⟩ rfl rfl (Nat.le_of_ble_eq_true rfl) (Nat.le_of_ble_eq_true rfl) (fun r9 J_30 hq9 => ?_)
    obtain ⟨z_30, rfl, hz_30, m_30, g_30, u_30⟩ := hq9
    have q_30 := RQ.rt q_25 g_30
    have f_30 := g_30.2.2
    have l_30 := g_30.1.1
    refine tz_istore_n (pc := 33) (L2 := [_, _]) dX5_readEntry_33 rfl (by decide) rfl ?_
    refine tz_aload_n (pc := 34) dX5_readEntry_34 rfl rfl ?_
    refine tz_fI (pc := 35) (kz := 8) (v := (J_30 163 8)) dX5_readEntry_35 fl_X5_24 i_163_8 rfl rfl (fun r_35 => ?_)
    refine tz_if_ne (pc := 38) (tgt := 71) dX5_readEntry_38 (by decide) (by omega) (fun h_38 => ?_) (fun h_38 => ?_)
    · refine tz_aload_n (pc := 71) dX5_readEntry_71 rfl rfl ?_
      refine tz_bipush (pc := 72) dX5_readEntry_72 (by decide) ?_
      have b_74 := (q_30).1.2.2.2
      obtain ⟨⟨⟨b1_74, b2_74⟩, b3_74, b4_74⟩, b5_74⟩ := id b_74
      have t_74 := (q_30).1.1.told
      refine tz_cV (pc := 74) (c_pass hl n _ _ (by decide) b_74) vl_X5_116 dX5_readEntry_74 o_163 rfl rfl (Nat.le_of_ble_eq_true rfl) ⟨(Nat.le_of_ble_eq_true rfl), (Nat.le_of_ble_eq_true rfl)⟩ rfl rfl (Nat.le_of_ble_eq_true rfl) (Nat.le_of_ble_eq_true rfl) (fun r9 J_74 hq9 => ?_)
      obtain ⟨rfl, g_74, d_74⟩ := hq9
      have q_74 := RQ.rn q_30 g_74 d_74
      have f_74 := g_74.2.2
      refine tz_aload_n (pc := 77) dX5_readEntry_77 rfl rfl ?_
      refine tz_fI (pc := 78) (kz := 8) (v := (J_74 163 8)) dX5_readEntry_78 fl_X5_24 i_163_8 rfl rfl (fun r_78 => ?_)
      refine tz_if_ne (pc := 81) (tgt := 95) dX5_readEntry_81 (by decide) (by omega) (fun h_81 => ?_) (fun h_81 => ?_)
      · exact tz_vret (pc := 95) dX5_readEntry_95 rfl (Nat.le_of_ble_eq_true rfl) (Nat.le_of_ble_eq_true rfl) ⟨Nat.le_refl _, Nat.le_add_right _ _⟩ ⟨rfl, ⟨m_30, q_74⟩⟩
      · refine tz_aload_n (pc := 84) dX5_readEntry_84 rfl rfl ?_
        refine tz_fR (pc := 85) dX5_readEntry_85 fl_X5_38 r_163_1 ?_
        refine tz_fR (pc := 88) dX5_readEntry_88 fl_X5_138 r_5_1 ?_
        refine tz_iload_n (pc := 91) dX5_readEntry_91 rfl rfl ?_
        have w_92 := (q_74).1.2.2.1.1
        refine tz_cV (pc := 92) (c_addEntry hl n _ _ (by omega) w_92.2.2.1) vl_X5_165 dX5_readEntry_92 o_18 rfl rfl (Nat.le_of_ble_eq_true rfl) ⟨(Nat.le_of_ble_eq_true rfl), (Nat.le_of_ble_eq_true rfl)⟩ rfl rfl (Nat.le_of_ble_eq_true rfl) (Nat.le_of_ble_eq_true rfl) (fun r9 J_92 hq9 => ?_)
        obtain ⟨rfl, j_92⟩ := hq9
        have k_92 : zOf (zbut [19]) J_92 J_74 := by rw [← j_92]; exact zof_aE
        have q_92 := RQ.led q_74 k_92 (by rw [← j_92]; exact (q_74).1.2.2.1.aE (by omega))
        exact tz_vret (pc := 95) dX5_readEntry_95 rfl (Nat.le_of_ble_eq_true rfl) (Nat.le_of_ble_eq_true rfl) ⟨Nat.le_refl _, Nat.le_add_right _ _⟩ ⟨rfl, ⟨m_30, q_92⟩⟩
    · refine tz_aload_n (pc := 41) dX5_readEntry_41 rfl rfl ?_
      refine tz_fI (pc := 42) (kz := 5) (v := (J_30 163 5)) dX5_readEntry_42 fl_X5_15 i_163_5 rfl rfl (fun r_42 => ?_)
      refine tz_bipush (pc := 45) dX5_readEntry_45 (by decide) ?_
      refine tz_icmp_ne (pc := 47) (tgt := 71) dX5_readEntry_47 (by decide) (by omega) (by decide) (fun h_47 => ?_) (fun h_47 => ?_)
      · refine tz_aload_n (pc := 71) dX5_readEntry_71 rfl rfl ?_
        refine tz_bipush (pc := 72) dX5_readEntry_72 (by decide) ?_
        have b_74 := (q_30).1.2.2.2
        obtain ⟨⟨⟨b1_74, b2_74⟩, b3_74, b4_74⟩, b5_74⟩ := id b_74
        have t_74 := (q_30).1.1.told
        refine tz_cV (pc := 74) (c_pass hl n _ _ (by decide) b_74) vl_X5_116 dX5_readEntry_74 o_163 rfl rfl (Nat.le_of_ble_eq_true rfl) ⟨(Nat.le_of_ble_eq_true rfl), (Nat.le_of_ble_eq_true rfl)⟩ rfl rfl (Nat.le_of_ble_eq_true rfl) (Nat.le_of_ble_eq_true rfl) (fun r9 J_74 hq9 => ?_)
        obtain ⟨rfl, g_74, d_74⟩ := hq9
        have q_74 := RQ.rn q_30 g_74 d_74
        have f_74 := g_74.2.2
        refine tz_aload_n (pc := 77) dX5_readEntry_77 rfl rfl ?_
        refine tz_fI (pc := 78) (kz := 8) (v := (J_74 163 8)) dX5_readEntry_78 fl_X5_24 i_163_8 rfl rfl (fun r_78 => ?_)
        refine tz_if_ne (pc := 81) (tgt := 95) dX5_readEntry_81 (by decide) (by omega) (fun h_81 => ?_) (fun h_81 => ?_)
        · exact tz_vret (pc := 95) dX5_readEntry_95 rfl (Nat.le_of_ble_eq_true rfl) (Nat.le_of_ble_eq_true rfl) ⟨Nat.le_refl _, Nat.le_add_right _ _⟩ ⟨rfl, ⟨m_30, q_74⟩⟩
        · refine tz_aload_n (pc := 84) dX5_readEntry_84 rfl rfl ?_
          refine tz_fR (pc := 85) dX5_readEntry_85 fl_X5_38 r_163_1 ?_
          refine tz_fR (pc := 88) dX5_readEntry_88 fl_X5_138 r_5_1 ?_
          refine tz_iload_n (pc := 91) dX5_readEntry_91 rfl rfl ?_
          have w_92 := (q_74).1.2.2.1.1
          refine tz_cV (pc := 92) (c_addEntry hl n _ _ (by omega) w_92.2.2.1) vl_X5_165 dX5_readEntry_92 o_18 rfl rfl (Nat.le_of_ble_eq_true rfl) ⟨(Nat.le_of_ble_eq_true rfl), (Nat.le_of_ble_eq_true rfl)⟩ rfl rfl (Nat.le_of_ble_eq_true rfl) (Nat.le_of_ble_eq_true rfl) (fun r9 J_92 hq9 => ?_)
          obtain ⟨rfl, j_92⟩ := hq9
          have k_92 : zOf (zbut [19]) J_92 J_74 := by rw [← j_92]; exact zof_aE
          have q_92 := RQ.led q_74 k_92 (by rw [← j_92]; exact (q_74).1.2.2.1.aE (by omega))
          exact tz_vret (pc := 95) dX5_readEntry_95 rfl (Nat.le_of_ble_eq_true rfl) (Nat.le_of_ble_eq_true rfl) ⟨Nat.le_refl _, Nat.le_add_right _ _⟩ ⟨rfl, ⟨m_30, q_92⟩⟩
      · refine tz_aload_n (pc := 50) dX5_readEntry_50 rfl rfl ?_
        refine tz_fR (pc := 51) dX5_readEntry_51 fl_X5_38 r_163_1 ?_
        refine tz_fR (pc := 54) dX5_readEntry_54 fl_X5_138 r_5_1 ?_
        refine tz_iload_n (pc := 57) dX5_readEntry_57 rfl rfl ?_
        have w_58 := (q_30).1.2.2.1.1
        refine tz_cV (pc := 58) (c_entryOf hl n _ _ (by omega) w_58.2.2.1) vl_X5_162 dX5_readEntry_58 o_18 rfl rfl (Nat.le_of_ble_eq_true rfl) ⟨(Nat.le_of_ble_eq_true rfl), (Nat.le_of_ble_eq_true rfl)⟩ rfl rfl (Nat.le_of_ble_eq_true rfl) (Nat.le_of_ble_eq_true rfl) (fun r9 J_58 hq9 => ?_)
        obtain ⟨z_58, rfl, hz_58, rfl, -⟩ := hq9
        refine tz_iconst (pc := 61) dX5_readEntry_61 ?_
        refine tz_icmp_eq (pc := 62) (tgt := 71) dX5_readEntry_62 (by decide) (by omega) (by decide) (fun h_62 => ?_) (fun h_62 => ?_)
        · refine tz_aload_n (pc := 71) dX5_readEntry_71 rfl rfl ?_
          refine tz_bipush (pc := 72) dX5_readEntry_72 (by decide) ?_
          have b_74 := (q_30).1.2.2.2
          obtain ⟨⟨⟨b1_74, b2_74⟩, b3_74, b4_74⟩, b5_74⟩ := id b_74
          have t_74 := (q_30).1.1.told
          refine tz_cV (pc := 74) (c_pass hl n _ _ (by decide) b_74) vl_X5_116 dX5_readEntry_74 o_163 rfl rfl (Nat.le_of_ble_eq_true rfl) ⟨(Nat.le_of_ble_eq_true rfl), (Nat.le_of_ble_eq_true rfl)⟩ rfl rfl (Nat.le_of_ble_eq_true rfl) (Nat.le_of_ble_eq_true rfl) (fun r9 J_74 hq9 => ?_)
          obtain ⟨rfl, g_74, d_74⟩ := hq9
          have q_74 := RQ.rn q_30 g_74 d_74
          have f_74 := g_74.2.2
          refine tz_aload_n (pc := 77) dX5_readEntry_77 rfl rfl ?_
          refine tz_fI (pc := 78) (kz := 8) (v := (J_74 163 8)) dX5_readEntry_78 fl_X5_24 i_163_8 rfl rfl (fun r_78 => ?_)
          refine tz_if_ne (pc := 81) (tgt := 95) dX5_readEntry_81 (by decide) (by omega) (fun h_81 => ?_) (fun h_81 => ?_)
          · exact tz_vret (pc := 95) dX5_readEntry_95 rfl (Nat.le_of_ble_eq_true rfl) (Nat.le_of_ble_eq_true rfl) ⟨Nat.le_refl _, Nat.le_add_right _ _⟩ ⟨rfl, ⟨m_30, q_74⟩⟩
          · refine tz_aload_n (pc := 84) dX5_readEntry_84 rfl rfl ?_
            refine tz_fR (pc := 85) dX5_readEntry_85 fl_X5_38 r_163_1 ?_
            refine tz_fR (pc := 88) dX5_readEntry_88 fl_X5_138 r_5_1 ?_
            refine tz_iload_n (pc := 91) dX5_readEntry_91 rfl rfl ?_
            have w_92 := (q_74).1.2.2.1.1
            refine tz_cV (pc := 92) (c_addEntry hl n _ _ (by omega) w_92.2.2.1) vl_X5_165 dX5_readEntry_92 o_18 rfl rfl (Nat.le_of_ble_eq_true rfl) ⟨(Nat.le_of_ble_eq_true rfl), (Nat.le_of_ble_eq_true rfl)⟩ rfl rfl (Nat.le_of_ble_eq_true rfl) (Nat.le_of_ble_eq_true rfl) (fun r9 J_92 hq9 => ?_)
            obtain ⟨rfl, j_92⟩ := hq9
            have k_92 : zOf (zbut [19]) J_92 J_74 := by rw [← j_92]; exact zof_aE
            have q_92 := RQ.led q_74 k_92 (by rw [← j_92]; exact (q_74).1.2.2.1.aE (by omega))
            exact tz_vret (pc := 95) dX5_readEntry_95 rfl (Nat.le_of_ble_eq_true rfl) (Nat.le_of_ble_eq_true rfl) ⟨Nat.le_refl _, Nat.le_add_right _ _⟩ ⟨rfl, ⟨m_30, q_92⟩⟩
        · refine tz_aload_n (pc := 65) dX5_readEntry_65 rfl rfl ?_
          refine tz_iconst (pc := 66) dX5_readEntry_66 ?_
          refine tz_cV (pc := 67) (c_fail hl n _ _ (by decide) (by decide)) vl_X5_97 dX5_readEntry_67 o_163 rfl rfl (Nat.le_of_ble_eq_true rfl) ⟨(Nat.le_of_ble_eq_true rfl), (Nat.le_of_ble_eq_true rfl)⟩ rfl rfl (Nat.le_of_ble_eq_true rfl) (Nat.le_of_ble_eq_true rfl) (fun r9 J_67 hq9 => ?_)
          obtain ⟨z_67, rfl, hz_67, g_67, d_67, e_67, v_67⟩ := hq9
          have q_67 := RQ.rn q_30 g_67 (d_67 (q_30).1.2.2.2)
          have f_67 := g_67.2.2
          refine tz_pop (pc := 70) dX5_readEntry_70 rfl ?_
          refine tz_aload_n (pc := 71) dX5_readEntry_71 rfl rfl ?_
          refine tz_bipush (pc := 72) dX5_readEntry_72 (by decide) ?_
          have b_74 := (q_67).1.2.2.2
          obtain ⟨⟨⟨b1_74, b2_74⟩, b3_74, b4_74⟩, b5_74⟩ := id b_74
          have t_74 := (q_67).1.1.told
          refine tz_cV (pc := 74) (c_pass hl n _ _ (by decide) b_74) vl_X5_116 dX5_readEntry_74 o_163 rfl rfl (Nat.le_of_ble_eq_true rfl) ⟨(Nat.le_of_ble_eq_true rfl), (Nat.le_of_ble_eq_true rfl)⟩ rfl rfl (Nat.le_of_ble_eq_true rfl) (Nat.le_of_ble_eq_true rfl) (fun r9 J_74 hq9 => ?_)
          obtain ⟨rfl, g_74, d_74⟩ := hq9
          have q_74 := RQ.rn q_67 g_74 d_74
          have f_74 := g_74.2.2
          refine tz_aload_n (pc := 77) dX5_readEntry_77 rfl rfl ?_
          refine tz_fI (pc := 78) (kz := 8) (v := (J_74 163 8)) dX5_readEntry_78 fl_X5_24 i_163_8 rfl rfl (fun r_78 => ?_)
          refine tz_if_ne (pc := 81) (tgt := 95) dX5_readEntry_81 (by decide) (by omega) (fun h_81 => ?_) (fun h_81 => ?_)
          · exact tz_vret (pc := 95) dX5_readEntry_95 rfl (Nat.le_of_ble_eq_true rfl) (Nat.le_of_ble_eq_true rfl) ⟨Nat.le_refl _, Nat.le_add_right _ _⟩ ⟨rfl, ⟨m_30, q_74⟩⟩
          · refine tz_aload_n (pc := 84) dX5_readEntry_84 rfl rfl ?_
            refine tz_fR (pc := 85) dX5_readEntry_85 fl_X5_38 r_163_1 ?_
            refine tz_fR (pc := 88) dX5_readEntry_88 fl_X5_138 r_5_1 ?_
            refine tz_iload_n (pc := 91) dX5_readEntry_91 rfl rfl ?_
            have w_92 := (q_74).1.2.2.1.1
            refine tz_cV (pc := 92) (c_addEntry hl n _ _ (by omega) w_92.2.2.1) vl_X5_165 dX5_readEntry_92 o_18 rfl rfl (Nat.le_of_ble_eq_true rfl) ⟨(Nat.le_of_ble_eq_true rfl), (Nat.le_of_ble_eq_true rfl)⟩ rfl rfl (Nat.le_of_ble_eq_true rfl) (Nat.le_of_ble_eq_true rfl) (fun r9 J_92 hq9 => ?_)
            obtain ⟨rfl, j_92⟩ := hq9
            have k_92 : zOf (zbut [19]) J_92 J_74 := by rw [← j_92]; exact zof_aE
            have q_92 := RQ.led q_74 k_92 (by rw [← j_92]; exact (q_74).1.2.2.1.aE (by omega))
            exact tz_vret (pc := 95) dX5_readEntry_95 rfl (Nat.le_of_ble_eq_true rfl) (Nat.le_of_ble_eq_true rfl) ⟨Nat.le_refl _, Nat.le_add_right _ _⟩ ⟨rfl, ⟨m_30, q_92⟩⟩
  · refine tz_aload_n (pc := 17) dX5_readEntry_17 rfl rfl ?_
    refine tz_iconst (pc := 18) dX5_readEntry_18 ?_
    refine tz_cV (pc := 19) (c_fail hl n _ _ (by decide) (by decide)) vl_X5_97 dX5_readEntry_19 o_163 rfl rfl (Nat.le_of_ble_eq_true rfl) ⟨(Nat.le_of_ble_eq_true rfl), (Nat.le_of_ble_eq_true rfl)⟩ rfl rfl (Nat.le_of_ble_eq_true rfl) (Nat.le_of_ble_eq_true rfl) (fun r9 J_19 hq9 => ?_)
    obtain ⟨z_19, rfl, hz_19, g_19, d_19, e_19, v_19⟩ := hq9
    have q_19 := RQ.rn g0 g_19 (d_19 (g0).1.2.2.2)
    have f_19 := g_19.2.2
    refine tz_pop (pc := 22) dX5_readEntry_22 rfl ?_
    exact tz_vret (pc := 23) dX5_readEntry_23 rfl (Nat.le_of_ble_eq_true rfl) (Nat.le_of_ble_eq_true rfl) ⟨Nat.le_refl _, Nat.le_add_right _ _⟩ ⟨rfl, ⟨m, q_19⟩⟩

set_option maxHeartbeats 4000000 in
set_option maxRecDepth 100000 in
theorem c_readRoom {l : Launch} {G : tb_G} (hl : l.stackTraces = false) (n : Nat) (J : zJ)   (m : Int) (hnb : n ≤ tb_sc) (C : CT J m) (hm : J 6 12 = m) (hL : LI (J 19) m) (hD : RD2 J) : tz_Ok l G M_X5_readRoom 3 0 0 [.ref 163] n J (zqv (fun J' => ∃ m', RQ J' J m m')) zN := by
  refine tz_Ok.of hl (by decide +kernel) rfl (tb_c1 rfl) (Nat.le_of_ble_eq_true rfl) ?_
  show tz_At l G M_X5_readRoom (tb_rm 3 0 0) none (tb_ZM G 0 0 (zQ n 0 (zqv (fun J' => ∃ m', RQ J' J m m'))) (zX n 0 zN)) 0 0 n J 0 [some (.ref 163), none] []
  have g0 : RQ J J m m := RQ.rf C hm hL hD
  refine tz_aload_n (pc := 0) dX5_readRoom_0 rfl rfl ?_
  refine tz_fI (pc := 1) (kz := 10) (v := (J 163 10)) dX5_readRoom_1 fl_X5_30 i_163_10 rfl rfl (fun r_1 => ?_)
  refine tz_if_eq (pc := 4) (tgt := 14) dX5_readRoom_4 (by decide) (by omega) (fun h_4 => ?_) (fun h_4 => ?_)
  · refine tz_aload_n (pc := 14) dX5_readRoom_14 rfl rfl ?_
    have b_15 := (g0).1.2.2.2
    obtain ⟨⟨⟨b1_15, b2_15⟩, b3_15, b4_15⟩, b5_15⟩ := id b_15
    have t_15 := (g0).1.1.told
    refine tz_cV (pc := 15) (c_next hl n _ (by omega) (by omega)) vl_X5_65 dX5_readRoom_15 o_163 rfl rfl (Nat.le_of_ble_eq_true rfl) ⟨(Nat.le_of_ble_eq_true rfl), (Nat.le_of_ble_eq_true rfl)⟩ rfl rfl (Nat.le_of_ble_eq_true rfl) (Nat.le_of_ble_eq_true rfl) (fun r9 J_15 hq9 => ?_)
    obtain ⟨rfl, g_15, d_15, v_15⟩ := hq9
    have q_15 := RQ.rn g0 g_15 d_15
    have f_15 := g_15.2.2
    refine tz_aload_n (pc := 18) dX5_readRoom_18 rfl rfl ?_
    refine tz_iconst (pc := 19) dX5_readRoom_19 ?_
    refine tz_bipush (pc := 20) dX5_readRoom_20 (by decide) ?_
    have b_22 := (q_15).1.2.2.2
    obtain ⟨⟨⟨b1_22, b2_22⟩, b3_22, b4_22⟩, b5_22⟩ := id b_22
    have t_22 := (q_15).1.1.told
    refine tz_cV (pc := 22) (c_readNum hl n _ _ _ (by decide) (by decide) b_22 (Or.inl rfl) (by decide)) vl_X5_128 dX5_readRoom_22 o_163 rfl rfl (Nat.le_of_ble_eq_true rfl) ⟨(Nat.le_of_ble_eq_true rfl), (Nat.le_of_ble_eq_true rfl)⟩ rfl rfl (Nat.le_of_ble_eq_true rfl) (Nat.le_of_ble_eq_true rfl) (fun r9 J_22 hq9 => ?_)
    obtain ⟨z_22, rfl, hz_22, g_22, d_22, u_22⟩ := hq9
    have q_22 := RQ.rn q_15 g_22 d_22
    have f_22 := g_22.2.2
    refine tz_istore_n (pc := 25) (L2 := [_, _]) dX5_readRoom_25 rfl (by decide) rfl ?_
    refine tz_aload_n (pc := 26) dX5_readRoom_26 rfl rfl ?_
    refine tz_bipush (pc := 27) dX5_readRoom_27 (by decide) ?_
    have b_29 := (q_22).1.2.2.2
    obtain ⟨⟨⟨b1_29, b2_29⟩, b3_29, b4_29⟩, b5_29⟩ := id b_29
    have t_29 := (q_22).1.1.told
    refine tz_cV (pc := 29) (c_pass hl n _ _ (by decide) b_29) vl_X5_116 dX5_readRoom_29 o_163 rfl rfl (Nat.le_of_ble_eq_true rfl) ⟨(Nat.le_of_ble_eq_true rfl), (Nat.le_of_ble_eq_true rfl)⟩ rfl rfl (Nat.le_of_ble_eq_true rfl) (Nat.le_of_ble_eq_true rfl) (fun r9 J_29 hq9 => ?_)
    obtain ⟨rfl, g_29, d_29⟩ := hq9
    have q_29 := RQ.rn q_22 g_29 d_29
    have f_29 := g_29.2.2
    refine tz_aload_n (pc := 32) dX5_readRoom_32 rfl rfl ?_
    refine tz_fI (pc := 33) (kz := 8) (v := (J_29 163 8)) dX5_readRoom_33 fl_X5_24 i_163_8 rfl rfl (fun r_33 => ?_)
    refine tz_if_ne (pc := 36) (tgt := 55) dX5_readRoom_36 (by decide) (by omega) (fun h_36 => ?_) (fun h_36 => ?_)
    · exact tz_vret (pc := 55) dX5_readRoom_55 rfl (Nat.le_of_ble_eq_true rfl) (Nat.le_of_ble_eq_true rfl) ⟨Nat.le_refl _, Nat.le_add_right _ _⟩ ⟨rfl, ⟨m, q_29⟩⟩
    · refine tz_aload_n (pc := 39) dX5_readRoom_39 rfl rfl ?_
      refine tz_fR (pc := 40) dX5_readRoom_40 fl_X5_38 r_163_1 ?_
      refine tz_fR (pc := 43) dX5_readRoom_43 fl_X5_138 r_5_1 ?_
      refine tz_iload_n (pc := 46) dX5_readRoom_46 rfl rfl ?_
      have w_47 := (q_29).1.2.2.1.1
      refine tz_cV (pc := 47) (c_tellRoom hl n _ _ (by omega)) vl_X5_168 dX5_readRoom_47 o_18 rfl rfl (Nat.le_of_ble_eq_true rfl) ⟨(Nat.le_of_ble_eq_true rfl), (Nat.le_of_ble_eq_true rfl)⟩ rfl rfl (Nat.le_of_ble_eq_true rfl) (Nat.le_of_ble_eq_true rfl) (fun r9 J_47 hq9 => ?_)
      obtain ⟨rfl, j_47⟩ := hq9
      have k_47 : zOf (zbut [19]) J_47 J_29 := by rw [← j_47]; exact zOf.up rfl (zOf.up rfl zOf.rf)
      have q_47 := RQ.led q_29 k_47 (by rw [← j_47]; exact (q_29).1.2.2.1.room (by omega))
      refine tz_aload_n (pc := 50) dX5_readRoom_50 rfl rfl ?_
      refine tz_iconst (pc := 51) dX5_readRoom_51 ?_
      refine tz_pZ (pc := 52) (kz := 10) dX5_readRoom_52 fl_X5_30 i_163_10 rfl rfl (Or.inr rfl) ?_
      exact tz_vret (pc := 55) dX5_readRoom_55 rfl (Nat.le_of_ble_eq_true rfl) (Nat.le_of_ble_eq_true rfl) ⟨Nat.le_refl _, Nat.le_add_right _ _⟩ ⟨rfl, ⟨m, (q_47).rn ⟨zOf.up rfl zOf.rf, rfl, id⟩ (q_47).1.2.2.2⟩⟩
  · refine tz_aload_n (pc := 7) dX5_readRoom_7 rfl rfl ?_
    refine tz_iconst (pc := 8) dX5_readRoom_8 ?_
    refine tz_cV (pc := 9) (c_fail hl n _ _ (by decide) (by decide)) vl_X5_97 dX5_readRoom_9 o_163 rfl rfl (Nat.le_of_ble_eq_true rfl) ⟨(Nat.le_of_ble_eq_true rfl), (Nat.le_of_ble_eq_true rfl)⟩ rfl rfl (Nat.le_of_ble_eq_true rfl) (Nat.le_of_ble_eq_true rfl) (fun r9 J_9 hq9 => ?_)
    obtain ⟨z_9, rfl, hz_9, g_9, d_9, e_9, v_9⟩ := hq9
    have q_9 := RQ.rn g0 g_9 (d_9 (g0).1.2.2.2)
    have f_9 := g_9.2.2
    refine tz_pop (pc := 12) dX5_readRoom_12 rfl ?_
    exact tz_vret (pc := 13) dX5_readRoom_13 rfl (Nat.le_of_ble_eq_true rfl) (Nat.le_of_ble_eq_true rfl) ⟨Nat.le_refl _, Nat.le_add_right _ _⟩ ⟨rfl, ⟨m, q_9⟩⟩

set_option maxHeartbeats 4000000 in
set_option maxRecDepth 100000 in
theorem c_readBank {l : Launch} {G : tb_G} (hl : l.stackTraces = false) (n : Nat) (J : zJ) (q : Int) (hr_q : -2147483648 ≤ q ∧ q < 2147483648) (m : Int) (hnb : n ≤ tb_sc) (C : CT J m) (hm : J 6 12 = m) (hL : LI (J 19) m) (hq : 0 ≤ q) : tz_Ok l G M_X5_readBank 33 0 0 [.ref 163, zi q] n J (zqi (fun z J' => ∃ m', RQ J' J m m' ∧ J' 163 8 = z)) zN := by
  refine tz_Ok.of hl (by decide +kernel) rfl (tb_c1 rfl) (Nat.le_of_ble_eq_true rfl) ?_
  show tz_At l G M_X5_readBank (tb_rm 33 0 0) none (tb_ZM G 0 0 (zQ n 0 (zqi (fun z J' => ∃ m', RQ J' J m m' ∧ J' 163 8 = z))) (zX n 0 zN)) 0 0 n J 0 [some (.ref 163), some (zi q), none] []
  have hmn := zmn_le q 700
  refine tz_aload_n (pc := 0) dX5_readBank_0 rfl rfl ?_
  refine tz_iload_n (pc := 1) dX5_readBank_1 rfl rfl ?_
  refine tz_aload_n (pc := 2) dX5_readBank_2 rfl rfl ?_
  refine tz_fR (pc := 3) dX5_readBank_3 fl_X5_34 r_163_0 ?_
  refine tz_aN (pc := 6) (lz := 700) dX5_readBank_6 a_162 rfl ?_
  refine tz_mn (pc := 7) (v := zmn q 700) dX5_readBank_7 ml_X5_59 (Nat.le_of_ble_eq_true rfl) (Nat.le_of_ble_eq_true rfl) (Nat.le_of_ble_eq_true rfl) (Nat.le_of_ble_eq_true rfl) (by omega) (by decide) rfl ?_
  refine tz_pI (pc := 10) (kz := 4) dX5_readBank_10 fl_X5_9 i_163_4 rfl rfl (by omega) ?_
  refine tz_aload_n (pc := 13) dX5_readBank_13 rfl rfl ?_
  refine tz_iconst (pc := 14) dX5_readBank_14 ?_
  refine tz_pI (pc := 15) (kz := 7) dX5_readBank_15 fl_X5_21 i_163_7 rfl rfl (by decide) ?_
  refine tz_aload_n (pc := 18) dX5_readBank_18 rfl rfl ?_
  refine tz_iconst (pc := 19) dX5_readBank_19 ?_
  refine tz_pI (pc := 20) (kz := 8) dX5_readBank_20 fl_X5_24 i_163_8 rfl rfl (by decide) ?_
  refine tz_aload_n (pc := 23) dX5_readBank_23 rfl rfl ?_
  refine tz_iconst (pc := 24) dX5_readBank_24 ?_
  refine tz_pI (pc := 25) (kz := 9) dX5_readBank_25 fl_X5_27 i_163_9 rfl rfl (by decide) ?_
  refine tz_aload_n (pc := 28) dX5_readBank_28 rfl rfl ?_
  refine tz_iconst (pc := 29) dX5_readBank_29 ?_
  refine tz_pZ (pc := 30) (kz := 10) dX5_readBank_30 fl_X5_30 i_163_10 rfl rfl (Or.inl rfl) ?_
  refine tz_aload_n (pc := 33) dX5_readBank_33 rfl rfl ?_
  refine tz_cV (pc := 34) (c_next hl n _ ⟨Int.le_refl 0, by show (0 : Int) ≤ zmn q 700; omega⟩ (by show zmn q 700 ≤ 700; omega)) vl_X5_65 dX5_readBank_34 o_163 rfl rfl (Nat.le_of_ble_eq_true rfl) ⟨(Nat.le_of_ble_eq_true rfl), (Nat.le_of_ble_eq_true rfl)⟩ rfl rfl (Nat.le_of_ble_eq_true rfl) (Nat.le_of_ble_eq_true rfl) (fun r9 J9 hq9 => ?_)
  obtain ⟨rfl, g9, d9, v9⟩ := hq9
  have q9 : RQ J9 J m m := ⟨⟨C.of (fun c hc => (g9.1 c (by simp [zbut]; omega)).trans (by rw [zup_nc (by omega), zup_nc (by omega), zup_nc (by omega), zup_nc (by omega), zup_nc (by omega)])), by rw [g9.1 6 rfl]; exact hm, by rw [g9.1 19 rfl]; exact hL, d9⟩, (g9.1.mono (zbut_sub (fun c hc => by simp at hc ⊢; omega))).tr (zOf.up rfl (zOf.up rfl (zOf.up rfl (zOf.up rfl (zOf.up rfl zOf.rf)))))⟩
  refine tz_iconst (pc := 37) dX5_readBank_37 ?_
  refine tz_istore_n (pc := 38) (L2 := [_, _, _]) dX5_readBank_38 rfl (by decide) rfl ?_
  have loop39 : ∀ (f9 : Nat) (k : Int) (J1 : zJ) (m1 : Int), ((700 - k).toNat) < f9 → (0 ≤ k ∧ k ≤ 700) → (RQ J1 J m m1) → tz_At l G M_X5_readBank (tb_rm 33 0 0) none (tb_ZM G 0 0 (zQ n 0 (zqi (fun z J' => ∃ m', RQ J' J m m' ∧ J' 163 8 = z))) (zX n 0 zN)) 0 0 n J1 39 [some (.ref 163), some (zi q), some (zi k)] [] := by
    intro f9
    induction f9 with
    | zero => intro k J1 m1 hm9; exact absurd hm9 (Nat.not_lt_zero _)
    | succ f9 ih39 =>
      intro k J1 m1 hm39 hk g1
      refine tz_iload_n (pc := 39) dX5_readBank_39 rfl rfl ?_
      refine tz_sipush (pc := 40) dX5_readBank_40 (by decide) ?_
      refine tz_icmp_ge (pc := 43) (tgt := 152) dX5_readBank_43 (by decide) (by omega) (by decide) (fun h_43 => ?_) (fun h_43 => ?_)
      · refine tz_aload_n (pc := 152) dX5_readBank_152 rfl rfl ?_
        refine tz_fI (pc := 153) (kz := 8) (v := (J1 163 8)) dX5_readBank_153 fl_X5_24 i_163_8 rfl rfl (fun r_153 => ?_)
        exact tz_iret (pc := 156) (z := (J1 163 8)) dX5_readBank_156 rfl (Nat.le_of_ble_eq_true rfl) (Nat.le_of_ble_eq_true rfl) ⟨Nat.le_refl _, Nat.le_add_right _ _⟩ ⟨_, rfl, (by omega), ⟨m1, g1, rfl⟩⟩
      · refine tz_aload_n (pc := 46) dX5_readBank_46 rfl rfl ?_
        refine tz_fI (pc := 47) (kz := 5) (v := (J1 163 5)) dX5_readBank_47 fl_X5_15 i_163_5 rfl rfl (fun r_47 => ?_)
        refine tz_if_eq (pc := 50) (tgt := 152) dX5_readBank_50 (by decide) (by omega) (fun h_50 => ?_) (fun h_50 => ?_)
        · refine tz_aload_n (pc := 152) dX5_readBank_152 rfl rfl ?_
          refine tz_fI (pc := 153) (kz := 8) (v := (J1 163 8)) dX5_readBank_153 fl_X5_24 i_163_8 rfl rfl (fun r_153 => ?_)
          exact tz_iret (pc := 156) (z := (J1 163 8)) dX5_readBank_156 rfl (Nat.le_of_ble_eq_true rfl) (Nat.le_of_ble_eq_true rfl) ⟨Nat.le_refl _, Nat.le_add_right _ _⟩ ⟨_, rfl, (by omega), ⟨m1, g1, rfl⟩⟩
        · refine tz_aload_n (pc := 53) dX5_readBank_53 rfl rfl ?_
          refine tz_fI (pc := 54) (kz := 8) (v := (J1 163 8)) dX5_readBank_54 fl_X5_24 i_163_8 rfl rfl (fun r_54 => ?_)
          refine tz_if_ne (pc := 57) (tgt := 152) dX5_readBank_57 (by decide) (by omega) (fun h_57 => ?_) (fun h_57 => ?_)
          · refine tz_aload_n (pc := 152) dX5_readBank_152 rfl rfl ?_
            refine tz_fI (pc := 153) (kz := 8) (v := (J1 163 8)) dX5_readBank_153 fl_X5_24 i_163_8 rfl rfl (fun r_153 => ?_)
            exact tz_iret (pc := 156) (z := (J1 163 8)) dX5_readBank_156 rfl (Nat.le_of_ble_eq_true rfl) (Nat.le_of_ble_eq_true rfl) ⟨Nat.le_refl _, Nat.le_add_right _ _⟩ ⟨_, rfl, (by omega), ⟨m1, g1, rfl⟩⟩
          · refine tz_aload_n (pc := 60) dX5_readBank_60 rfl rfl ?_
            refine tz_word (pc := 61) (ik := 68) (tx := "symbol") (bs := [115, 121, 109, 98, 111, 108]) (by decide) rfl (c_isWord hl n _ [115, 121, 109, 98, 111, 108] (by decide) hnb g1.1.2.2.2.1) hnb vl_X5_70 rfl dX5_readBank_61 dX5_readBank_63 (Nat.le_of_ble_eq_true rfl) ⟨(Nat.le_of_ble_eq_true rfl), (Nat.le_of_ble_eq_true rfl)⟩ (Nat.le_of_ble_eq_true rfl) (Nat.le_of_ble_eq_true rfl) (fun z_61 J9 hz_61 hq9 => ?_)
            obtain ⟨rfl, hw_61, -⟩ := hq9
            refine tz_if_eq (pc := 66) (tgt := 76) dX5_readBank_66 (by decide) (by omega) (fun h_66 => ?_) (fun h_66 => ?_)
            · refine tz_aload_n (pc := 76) dX5_readBank_76 rfl rfl ?_
              refine tz_word (pc := 77) (ik := 77) (tx := "term") (bs := [116, 101, 114, 109]) (by decide) rfl (c_isWord hl n _ [116, 101, 114, 109] (by decide) hnb g1.1.2.2.2.1) hnb vl_X5_70 rfl dX5_readBank_77 dX5_readBank_79 (Nat.le_of_ble_eq_true rfl) ⟨(Nat.le_of_ble_eq_true rfl), (Nat.le_of_ble_eq_true rfl)⟩ (Nat.le_of_ble_eq_true rfl) (Nat.le_of_ble_eq_true rfl) (fun z_77 J9 hz_77 hq9 => ?_)
              obtain ⟨rfl, hw_77, -⟩ := hq9
              refine tz_if_eq (pc := 82) (tgt := 92) dX5_readBank_82 (by decide) (by omega) (fun h_82 => ?_) (fun h_82 => ?_)
              · refine tz_aload_n (pc := 92) dX5_readBank_92 rfl rfl ?_
                refine tz_word (pc := 93) (ik := 82) (tx := "rule") (bs := [114, 117, 108, 101]) (by decide) rfl (c_isWord hl n _ [114, 117, 108, 101] (by decide) hnb g1.1.2.2.2.1) hnb vl_X5_70 rfl dX5_readBank_93 dX5_readBank_95 (Nat.le_of_ble_eq_true rfl) ⟨(Nat.le_of_ble_eq_true rfl), (Nat.le_of_ble_eq_true rfl)⟩ (Nat.le_of_ble_eq_true rfl) (Nat.le_of_ble_eq_true rfl) (fun z_93 J9 hz_93 hq9 => ?_)
                obtain ⟨rfl, hw_93, -⟩ := hq9
                refine tz_if_eq (pc := 98) (tgt := 108) dX5_readBank_98 (by decide) (by omega) (fun h_98 => ?_) (fun h_98 => ?_)
                · refine tz_aload_n (pc := 108) dX5_readBank_108 rfl rfl ?_
                  refine tz_word (pc := 109) (ik := 87) (tx := "entry") (bs := [101, 110, 116, 114, 121]) (by decide) rfl (c_isWord hl n _ [101, 110, 116, 114, 121] (by decide) hnb g1.1.2.2.2.1) hnb vl_X5_70 rfl dX5_readBank_109 dX5_readBank_111 (Nat.le_of_ble_eq_true rfl) ⟨(Nat.le_of_ble_eq_true rfl), (Nat.le_of_ble_eq_true rfl)⟩ (Nat.le_of_ble_eq_true rfl) (Nat.le_of_ble_eq_true rfl) (fun z_109 J9 hz_109 hq9 => ?_)
                  obtain ⟨rfl, hw_109, -⟩ := hq9
                  refine tz_if_eq (pc := 114) (tgt := 124) dX5_readBank_114 (by decide) (by omega) (fun h_114 => ?_) (fun h_114 => ?_)
                  · refine tz_aload_n (pc := 124) dX5_readBank_124 rfl rfl ?_
                    refine tz_word (pc := 125) (ik := 92) (tx := "room") (bs := [114, 111, 111, 109]) (by decide) rfl (c_isWord hl n _ [114, 111, 111, 109] (by decide) hnb g1.1.2.2.2.1) hnb vl_X5_70 rfl dX5_readBank_125 dX5_readBank_127 (Nat.le_of_ble_eq_true rfl) ⟨(Nat.le_of_ble_eq_true rfl), (Nat.le_of_ble_eq_true rfl)⟩ (Nat.le_of_ble_eq_true rfl) (Nat.le_of_ble_eq_true rfl) (fun z_125 J9 hz_125 hq9 => ?_)
                    obtain ⟨rfl, hw_125, -⟩ := hq9
                    refine tz_if_eq (pc := 130) (tgt := 140) dX5_readBank_130 (by decide) (by omega) (fun h_130 => ?_) (fun h_130 => ?_)
                    · refine tz_aload_n (pc := 140) dX5_readBank_140 rfl rfl ?_
                      refine tz_iconst (pc := 141) dX5_readBank_141 ?_
                      refine tz_cV (pc := 142) (c_fail hl n _ _ (by decide) (by decide)) vl_X5_97 dX5_readBank_142 o_163 rfl rfl (Nat.le_of_ble_eq_true rfl) ⟨(Nat.le_of_ble_eq_true rfl), (Nat.le_of_ble_eq_true rfl)⟩ rfl rfl (Nat.le_of_ble_eq_true rfl) (Nat.le_of_ble_eq_true rfl) (fun r9 J_142 hq9 => ?_)
                      obtain ⟨z_142, rfl, hz_142, g_142, d_142, e_142, v_142⟩ := hq9
                      have q_142 := RQ.rn g1 g_142 (d_142 g1.1.2.2.2)
                      refine tz_pop (pc := 145) dX5_readBank_145 rfl ?_
                      refine tz_iinc (pc := 146) (z := k + 1) (L2 := [_, _, _]) dX5_readBank_146 rfl (by omega) rfl ?_
                      refine tz_goto (pc := 149) (tgt := 39) dX5_readBank_149 (by decide) ?_
                      exact ih39 (k + 1) _ m1 (by omega) (by omega) q_142
                    · refine tz_aload_n (pc := 133) dX5_readBank_133 rfl rfl ?_
                      refine tz_cV (pc := 134) (c_readRoom hl n _ m1 hnb g1.1.1 g1.1.2.1 g1.1.2.2.1 g1.1.2.2.2) vl_X5_94 dX5_readBank_134 o_163 rfl rfl (Nat.le_of_ble_eq_true rfl) ⟨(Nat.le_of_ble_eq_true rfl), (Nat.le_of_ble_eq_true rfl)⟩ rfl rfl (Nat.le_of_ble_eq_true rfl) (Nat.le_of_ble_eq_true rfl) (fun r9 J_134 hq9 => ?_)
                      obtain ⟨rfl, m_134, x_134⟩ := hq9
                      have q_134 := g1.tr x_134
                      refine tz_goto (pc := 137) (tgt := 146) dX5_readBank_137 (by decide) ?_
                      refine tz_iinc (pc := 146) (z := k + 1) (L2 := [_, _, _]) dX5_readBank_146 rfl (by omega) rfl ?_
                      refine tz_goto (pc := 149) (tgt := 39) dX5_readBank_149 (by decide) ?_
                      exact ih39 (k + 1) _ m_134 (by omega) (by omega) q_134
                  · refine tz_aload_n (pc := 117) dX5_readBank_117 rfl rfl ?_
                    refine tz_cV (pc := 118) (c_readEntry hl n _ m1 hnb g1.1.1 g1.1.2.1 g1.1.2.2.1 g1.1.2.2.2) vl_X5_89 dX5_readBank_118 o_163 rfl rfl (Nat.le_of_ble_eq_true rfl) ⟨(Nat.le_of_ble_eq_true rfl), (Nat.le_of_ble_eq_true rfl)⟩ rfl rfl (Nat.le_of_ble_eq_true rfl) (Nat.le_of_ble_eq_true rfl) (fun r9 J_118 hq9 => ?_)
                    obtain ⟨rfl, m_118, x_118⟩ := hq9
                    have q_118 := g1.tr x_118
                    refine tz_goto (pc := 121) (tgt := 146) dX5_readBank_121 (by decide) ?_
                    refine tz_iinc (pc := 146) (z := k + 1) (L2 := [_, _, _]) dX5_readBank_146 rfl (by omega) rfl ?_
                    refine tz_goto (pc := 149) (tgt := 39) dX5_readBank_149 (by decide) ?_
                    exact ih39 (k + 1) _ m_118 (by omega) (by omega) q_118
                · refine tz_aload_n (pc := 101) dX5_readBank_101 rfl rfl ?_
                  refine tz_cV (pc := 102) (c_readRule hl n _ m1 hnb g1.1.1 g1.1.2.1 g1.1.2.2.1 g1.1.2.2.2) vl_X5_84 dX5_readBank_102 o_163 rfl rfl (Nat.le_of_ble_eq_true rfl) ⟨(Nat.le_of_ble_eq_true rfl), (Nat.le_of_ble_eq_true rfl)⟩ rfl rfl (Nat.le_of_ble_eq_true rfl) (Nat.le_of_ble_eq_true rfl) (fun r9 J_102 hq9 => ?_)
                  obtain ⟨rfl, m_102, x_102⟩ := hq9
                  have q_102 := g1.tr x_102
                  refine tz_goto (pc := 105) (tgt := 146) dX5_readBank_105 (by decide) ?_
                  refine tz_iinc (pc := 146) (z := k + 1) (L2 := [_, _, _]) dX5_readBank_146 rfl (by omega) rfl ?_
                  refine tz_goto (pc := 149) (tgt := 39) dX5_readBank_149 (by decide) ?_
                  exact ih39 (k + 1) _ m_102 (by omega) (by omega) q_102
              · refine tz_aload_n (pc := 85) dX5_readBank_85 rfl rfl ?_
                refine tz_cV (pc := 86) (c_readLone hl n _ m1 hnb g1.1.1 g1.1.2.1 g1.1.2.2.1 g1.1.2.2.2) vl_X5_79 dX5_readBank_86 o_163 rfl rfl (Nat.le_of_ble_eq_true rfl) ⟨(Nat.le_of_ble_eq_true rfl), (Nat.le_of_ble_eq_true rfl)⟩ rfl rfl (Nat.le_of_ble_eq_true rfl) (Nat.le_of_ble_eq_true rfl) (fun r9 J_86 hq9 => ?_)
                obtain ⟨rfl, m_86, x_86⟩ := hq9
                have q_86 := g1.tr x_86
                refine tz_goto (pc := 89) (tgt := 146) dX5_readBank_89 (by decide) ?_
                refine tz_iinc (pc := 146) (z := k + 1) (L2 := [_, _, _]) dX5_readBank_146 rfl (by omega) rfl ?_
                refine tz_goto (pc := 149) (tgt := 39) dX5_readBank_149 (by decide) ?_
                exact ih39 (k + 1) _ m_86 (by omega) (by omega) q_86
            · refine tz_aload_n (pc := 69) dX5_readBank_69 rfl rfl ?_
              refine tz_cV (pc := 70) (c_readSym hl n _ m1 hnb g1.1.1 g1.1.2.1 g1.1.2.2.1 g1.1.2.2.2) vl_X5_74 dX5_readBank_70 o_163 rfl rfl (Nat.le_of_ble_eq_true rfl) ⟨(Nat.le_of_ble_eq_true rfl), (Nat.le_of_ble_eq_true rfl)⟩ rfl rfl (Nat.le_of_ble_eq_true rfl) (Nat.le_of_ble_eq_true rfl) (fun r9 J_70 hq9 => ?_)
              obtain ⟨rfl, m_70, x_70⟩ := hq9
              have q_70 := g1.tr x_70
              refine tz_goto (pc := 73) (tgt := 146) dX5_readBank_73 (by decide) ?_
              refine tz_iinc (pc := 146) (z := k + 1) (L2 := [_, _, _]) dX5_readBank_146 rfl (by omega) rfl ?_
              refine tz_goto (pc := 149) (tgt := 39) dX5_readBank_149 (by decide) ?_
              exact ih39 (k + 1) _ m_70 (by omega) (by omega) q_70
  exact loop39 _ 0 _ m (Nat.lt_succ_self _) (by omega) q9

