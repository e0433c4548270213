/-! ===== the class follows the reading: symbols ===== -/
theorem pSy_1 {g : zJ} {z1 z2 z3 : Int} (h : g 164 44 < 10) (nx9 : pNx g = pN g) (v1 : VQ z1 (pNm (pNx g))) (v2 : VQ z2 (pU (pNm (pNx g)).1 0 3)) (v3 : VQ z3 (pU (pU (pNm (pNx g)).1 0 3).1 1 9)) : pSy g = if (pU (pU (pNm (pNx g)).1 0 3).1 1 9).1 0 4 = 0 then pSm (pU (pU (pNm (pNx g)).1 0 3).1 1 9).1 z1 z2 z3 else (pU (pU (pNm (pNx g)).1 0 3).1 1 9).1 := by
  unfold pSy pS3 pS2 pS1
  rw [if_pos h, ← nx9]
  split
  · next q =>
    have q2 := pU_0 q
    have q1 := pU_0 q2
    rw [v1 q1, v2 q2, v3 q]
  · rfl
theorem pSy_2 {g : zJ} (h : ¬ g 164 44 < 10) (h9 : g 0 4 = 0) : pP (pSy g) 59 = pFx g 2 := by
  unfold pSy pFx
  rw [if_neg h, if_pos h9, pP_f (by show ¬ (2 : Int) = 0; decide)]
theorem ET.symb {J S : zJ} {x y w : Int} (E : ET J S) : ET (zup (zup (zup (zup J 2 (J 1 3) x) 3 (J 1 3) y) 4 (J 1 3) w) 1 3 (J 1 3 + 1)) (pSm S x y w) := by
  obtain ⟨⟨E1, E0⟩, E2⟩ := E
  refine ⟨⟨?_, fun k a b => ?_⟩, E2⟩
  · show J 1 3 + 1 = S 164 44 + 1
    omega
  · have b' : k < S 164 44 + 1 := b
    show (if k = J 1 3 then x else J 2 k) = (if 10 + k = 10 + S 164 44 then x else S 169 (10 + k)) ∧ (if k = J 1 3 then y else J 3 k) = (if 10 + k = 10 + S 164 44 then y else S 170 (10 + k)) ∧ (if k = J 1 3 then w else J 4 k) = (if 10 + k = 10 + S 164 44 then w else S 171 (10 + k))
    by_cases e : k = J 1 3
    · rw [if_pos e, if_pos e, if_pos e, if_pos (by omega), if_pos (by omega), if_pos (by omega)]
      exact ⟨rfl, rfl, rfl⟩
    · rw [if_neg e, if_neg e, if_neg e, if_neg (by omega), if_neg (by omega), if_neg (by omega)]
      exact E0 k a (by omega)
set_option maxHeartbeats 4000000 in
set_option maxRecDepth 100000 in
theorem w_readSym {l : Launch} {G : tb_G} (hl : l.stackTraces = false) (n : Nat) (J : zJ)   (m : Int) (g : zJ) (hnb : n ≤ tb_sc) (C : CT J m) (hm : J 6 12 = m) (hL : LI (J 19) m) (hD : RD2 J) (hX : XC J g) (hS : SI g) (h9 : g 0 4 = 0) : tz_Ok l G M_X5_readSymbol 3 0 0 [.ref 163] n J (zqv (fun J' => ∃ m', RQ6 J' J m m' ∧ XC J' (pP (pSy g) 59))) zN := by
  refine tz_Ok.of hl (by decide +kernel) rfl (tb_c1 rfl) (Nat.le_of_ble_eq_true rfl) ?_
  show tz_At l G M_X5_readSymbol (tb_rm 3 0 0) none (tb_ZM G 0 0 (zQ n 0 (zqv (fun J' => ∃ m', RQ6 J' J m m' ∧ XC J' (pP (pSy g) 59)))) (zX n 0 zN)) 0 0 n J 0 [some (.ref 163), none, none, none] []
  have g0 : RQ6 J J m m := RQ6.rf C hm hL hD
  have h8 := hX.z h9
  have nx9 : pNx g = pN g := by unfold pNx; rw [if_pos h9]
  have hb := C.told
  refine tz_aload_n (pc := 0) dX5_readSymbol_0 rfl rfl ?_
  refine tz_fR (pc := 1) dX5_readSymbol_1 fl_X5_54 r_163_2 ?_
  refine tz_fI (pc := 4) (kz := 3) (v := (J 1 3)) dX5_readSymbol_4 fl_X5_120 i_1_3 rfl rfl (fun r_4 => ?_)
  refine tz_bipush (pc := 7) dX5_readSymbol_7 (by decide) ?_
  refine tz_icmp_lt (pc := 9) (tgt := 19) dX5_readSymbol_9 (by decide) (by omega) (by decide) (fun h_9 => ?_) (fun h_9 => ?_)
  · refine tz_aload_n (pc := 19) dX5_readSymbol_19 rfl rfl ?_
    have b_20 := (g0).1.2.2.2
    obtain ⟨⟨⟨b1_20, b2_20⟩, b3_20, b4_20⟩, b5_20⟩ := id b_20
    have t_20 := (g0).1.1.told
    refine tz_cV (pc := 20) (w_next hl n _ g b_20 hX (by omega)) vl_X5_65 dX5_readSymbol_20 o_163 rfl rfl (Nat.le_of_ble_eq_true rfl) ⟨(Nat.le_of_ble_eq_true rfl), (Nat.le_of_ble_eq_true rfl)⟩ rfl rfl (Nat.le_of_ble_eq_true rfl) (Nat.le_of_ble_eq_true rfl) (fun r9 J_20 hq9 => ?_)
    obtain ⟨rfl, g_20, d_20, v_20, x_20⟩ := hq9
    have q_20 := RQ6.rn g0 g_20 d_20
    have f_20 := g_20.2.2
    refine tz_aload_n (pc := 23) dX5_readSymbol_23 rfl rfl ?_
    have b_24 := (q_20).1.2.2.2
    obtain ⟨⟨⟨b1_24, b2_24⟩, b3_24, b4_24⟩, b5_24⟩ := id b_24
    have t_24 := (q_20).1.1.told
    refine tz_cV (pc := 24) (w_newName hl n _ (pNx g) b_24 x_20 (SI.nx hS) (pNx_4.trans h9) (by omega) t_24.1) vl_X5_125 dX5_readSymbol_24 o_163 rfl rfl (Nat.le_of_ble_eq_true rfl) ⟨(Nat.le_of_ble_eq_true rfl), (Nat.le_of_ble_eq_true rfl)⟩ rfl rfl (Nat.le_of_ble_eq_true rfl) (Nat.le_of_ble_eq_true rfl) (fun r9 J_24 hq9 => ?_)
    obtain ⟨z_24, rfl, hz_24, g_24, d_24, x_24, y_24⟩ := hq9
    have q_24 := RQ6.rn q_20 g_24 d_24
    have f_24 := g_24.2.2
    refine tz_istore_n (pc := 27) (L2 := [_, _, _, _]) dX5_readSymbol_27 rfl (by decide) rfl ?_
    refine tz_aload_n (pc := 28) dX5_readSymbol_28 rfl rfl ?_
    refine tz_iconst (pc := 29) dX5_readSymbol_29 ?_
    refine tz_iconst (pc := 30) dX5_readSymbol_30 ?_
    have b_31 := (q_24).1.2.2.2
    obtain ⟨⟨⟨b1_31, b2_31⟩, b3_31, b4_31⟩, b5_31⟩ := id b_31
    have t_31 := (q_24).1.1.told
    refine tz_cV (pc := 31) (w_readNum hl n _ _ _ (by decide) (by decide) (pNm (pNx g)).1 b_31 x_24 (SI.nm (SI.nx hS)) (Or.inl rfl) (by decide)) vl_X5_128 dX5_readSymbol_31 o_163 rfl rfl (Nat.le_of_ble_eq_true rfl) ⟨(Nat.le_of_ble_eq_true rfl), (Nat.le_of_ble_eq_true rfl)⟩ rfl rfl (Nat.le_of_ble_eq_true rfl) (Nat.le_of_ble_eq_true rfl) (fun r9 J_31 hq9 => ?_)
    obtain ⟨z_31, rfl, hz_31, g_31, d_31, u_31, x_31, y_31⟩ := hq9
    have q_31 := RQ6.rn q_24 g_31 d_31
    have f_31 := g_31.2.2
    refine tz_istore_n (pc := 34) (L2 := [_, _, _, _]) dX5_readSymbol_34 rfl (by decide) rfl ?_
    refine tz_aload_n (pc := 35) dX5_readSymbol_35 rfl rfl ?_
    refine tz_iconst (pc := 36) dX5_readSymbol_36 ?_
    refine tz_bipush (pc := 37) dX5_readSymbol_37 (by decide) ?_
    have b_39 := (q_31).1.2.2.2
    obtain ⟨⟨⟨b1_39, b2_39⟩, b3_39, b4_39⟩, b5_39⟩ := id b_39
    have t_39 := (q_31).1.1.told
    refine tz_cV (pc := 39) (w_readNum hl n _ _ _ (by decide) (by decide) (pU (pNm (pNx g)).1 0 3).1 b_39 x_31 (SI.u (SI.nm (SI.nx hS))) (Or.inr rfl) (by decide)) vl_X5_128 dX5_readSymbol_39 o_163 rfl rfl (Nat.le_of_ble_eq_true rfl) ⟨(Nat.le_of_ble_eq_true rfl), (Nat.le_of_ble_eq_true rfl)⟩ rfl rfl (Nat.le_of_ble_eq_true rfl) (Nat.le_of_ble_eq_true rfl) (fun r9 J_39 hq9 => ?_)
    obtain ⟨z_39, rfl, hz_39, g_39, d_39, u_39, x_39, y_39⟩ := hq9
    have q_39 := RQ6.rn q_31 g_39 d_39
    have f_39 := g_39.2.2
    refine tz_istore_n (pc := 42) (L2 := [_, _, _, _]) dX5_readSymbol_42 rfl (by decide) rfl ?_
    refine tz_aload_n (pc := 43) dX5_readSymbol_43 rfl rfl ?_
    refine tz_bipush (pc := 44) dX5_readSymbol_44 (by decide) ?_
    have b_46 := (q_39).1.2.2.2
    obtain ⟨⟨⟨b1_46, b2_46⟩, b3_46, b4_46⟩, b5_46⟩ := id b_46
    have t_46 := (q_39).1.1.told
    refine tz_cV (pc := 46) (w_pass hl n _ _ (by decide) (pU (pU (pNm (pNx g)).1 0 3).1 1 9).1 b_46 x_39 (SI.u (SI.u (SI.nm (SI.nx hS))))) vl_X5_116 dX5_readSymbol_46 o_163 rfl rfl (Nat.le_of_ble_eq_true rfl) ⟨(Nat.le_of_ble_eq_true rfl), (Nat.le_of_ble_eq_true rfl)⟩ rfl rfl (Nat.le_of_ble_eq_true rfl) (Nat.le_of_ble_eq_true rfl) (fun r9 J_46 hq9 => ?_)
    obtain ⟨rfl, g_46, d_46, x_46⟩ := hq9
    have q_46 := RQ6.rn q_39 g_46 d_46
    have f_46 := g_46.2.2
    refine tz_aload_n (pc := 49) dX5_readSymbol_49 rfl rfl ?_
    refine tz_fI (pc := 50) (kz := 8) (v := (J_46 163 8)) dX5_readSymbol_50 fl_X5_24 i_163_8 rfl rfl (fun r_50 => ?_)
    refine tz_if_ne (pc := 53) (tgt := 66) dX5_readSymbol_53 (by decide) (by omega) (fun h_53 => ?_) (fun h_53 => ?_)
    · exact tz_vret (pc := 66) dX5_readSymbol_66 rfl (Nat.le_of_ble_eq_true rfl) (Nat.le_of_ble_eq_true rfl) ⟨Nat.le_refl _, Nat.le_add_right _ _⟩ ⟨rfl, ⟨m, q_46, by rw [pSy_1 (by have := (hX.e h9).2.2.2.1.1; omega) nx9 y_24 y_31 y_39]; exact XC.addf x_46 (by omega) rfl⟩⟩
    · refine tz_aload_n (pc := 56) dX5_readSymbol_56 rfl rfl ?_
      refine tz_fR (pc := 57) dX5_readSymbol_57 fl_X5_54 r_163_2 ?_
      refine tz_iload_n (pc := 60) dX5_readSymbol_60 rfl rfl ?_
      refine tz_iload_n (pc := 61) dX5_readSymbol_61 rfl rfl ?_
      refine tz_iload_n (pc := 62) dX5_readSymbol_62 rfl rfl ?_
      have w_63 := (q_46).1.1.told
      have s_63 : J_46 1 = J 1 := (g_46.1 1 rfl).trans ((g_39.1 1 rfl).trans ((g_31.1 1 rfl).trans ((g_24.1 1 rfl).trans (g_20.1 1 rfl))))
      refine tz_cV (pc := 63) (c_syAdd hl n _ _ _ _ (by omega) (by omega) (by omega) (by rw [s_63]; omega)) vl_X5_131 dX5_readSymbol_63 o_1 rfl rfl (Nat.le_of_ble_eq_true rfl) ⟨(Nat.le_of_ble_eq_true rfl), (Nat.le_of_ble_eq_true rfl)⟩ rfl rfl (Nat.le_of_ble_eq_true rfl) (Nat.le_of_ble_eq_true rfl) (fun r9 J_63 hq9 => ?_)
      obtain ⟨rfl, j_63⟩ := hq9
      have q_63 : RQ6 J_63 J m m := by
        rw [← j_63]
        exact ⟨⟨(q_46).1.1.sym (by rw [s_63]; omega) (by omega) (by omega), (q_46).1.2.1, (q_46).1.2.2.1, (q_46).1.2.2.2⟩, zOf.up rfl (zOf.up rfl (zOf.up rfl (zOf.up rfl (q_46).2.1))), (q_46).2.2⟩
      exact tz_vret (pc := 66) dX5_readSymbol_66 rfl (Nat.le_of_ble_eq_true rfl) (Nat.le_of_ble_eq_true rfl) ⟨Nat.le_refl _, Nat.le_add_right _ _⟩ ⟨rfl, ⟨m, q_63, by rw [pSy_1 (by have := (hX.e h9).2.2.2.1.1; omega) nx9 y_24 y_31 y_39, ← j_63]; exact XC.addz x_46 (by omega) rfl rfl (fun k hk => rfl) rfl (fun _ r E => ⟨r, E.symb⟩)⟩⟩
  · refine tz_aload_n (pc := 12) dX5_readSymbol_12 rfl rfl ?_
    refine tz_iconst (pc := 13) dX5_readSymbol_13 ?_
    refine tz_cV (pc := 14) (w_fail hl n _ _ (by decide) g (by decide) hX) vl_X5_97 dX5_readSymbol_14 o_163 rfl rfl (Nat.le_of_ble_eq_true rfl) ⟨(Nat.le_of_ble_eq_true rfl), (Nat.le_of_ble_eq_true rfl)⟩ rfl rfl (Nat.le_of_ble_eq_true rfl) (Nat.le_of_ble_eq_true rfl) (fun r9 J_14 hq9 => ?_)
    obtain ⟨z_14, rfl, hz_14, g_14, d_14, e_14, v_14, x_14⟩ := hq9
    have q_14 := RQ6.rn g0 g_14 (d_14 (g0).1.2.2.2)
    refine tz_pop (pc := 17) dX5_readSymbol_17 rfl ?_
    exact tz_vret (pc := 18) dX5_readSymbol_18 rfl (Nat.le_of_ble_eq_true rfl) (Nat.le_of_ble_eq_true rfl) ⟨Nat.le_refl _, Nat.le_add_right _ _⟩ ⟨rfl, ⟨m, q_14, by rw [pSy_2 (by have := (hX.e h9).2.2.2.1.1; omega) h9]; exact x_14⟩⟩

