section
/-! ===== the class follows the reading: symbols ===== -/
theorem pSy_1 {g : zJ} {z1 z2 z3 : Int} (h : g 164 44 < 10) (nx9 : pNx g = pN g) (v1 : VQ z1 (pNm (pNx g))) (v2 : VQ z2 (pU (pNm (pNx g)).1 0 3)) (v3 : VQ z3 (pU (pU (pNm (pNx g)).1 0 3).1 1 9)) : pSy g = if (pU (pU (pNm (pNx g)).1 0 3).1 1 9).1 0 4 = 0 then pSm (pU (pU (pNm (pNx g)).1 0 3).1 1 9).1 z1 z2 z3 else (pU (pU (pNm (pNx g)).1 0 3).1 1 9).1 := by
  unfold pSy pS3 pS2 pS1
  rw [if_pos h, ← nx9]
  split
  · next q =>
    have q2 := pU_0 q
    have q1 := pU_0 q2
    rw [v1 q1, v2 q2, v3 q]
  · rfl
theorem pSy_2 {g : zJ} (h : ¬ g 164 44 < 10) (h9 : g 0 4 = 0) : pP (pSy g) 59 = pFx g 2 := by
  unfold pSy pFx
  rw [if_neg h, if_pos h9, pP_f (by show ¬ (2 : Int) = 0; decide)]
theorem ET.symb {J S : zJ} {x y w : Int} (E : ET J S) : ET (zup (zup (zup (zup J 2 (J 1 3) x) 3 (J 1 3) y) 4 (J 1 3) w) 1 3 (J 1 3 + 1)) (pSm S x y w) := by
  obtain ⟨⟨E1, E0⟩, E2⟩ := E
  refine ⟨⟨?_, fun k a b => ?_⟩, E2⟩
  · show J 1 3 + 1 = S 164 44 + 1
    omega
  · have b' : k < S 164 44 + 1 := b
    show (if k = J 1 3 then x else J 2 k) = (if 10 + k = 10 + S 164 44 then x else S 169 (10 + k)) ∧ (if k = J 1 3 then y else J 3 k) = (if 10 + k = 10 + S 164 44 then y else S 170 (10 + k)) ∧ (if k = J 1 3 then w else J 4 k) = (if 10 + k = 10 + S 164 44 then w else S 171 (10 + k))
    by_cases e : k = J 1 3
    · rw [if_pos e, if_pos e, if_pos e, if_pos (by omega), if_pos (by omega), if_pos (by omega)]
      exact ⟨rfl, rfl, rfl⟩
    · rw [if_neg e, if_neg e, if_neg e, if_neg (by omega), if_neg (by omega), if_neg (by omega)]
      exact E0 k a (by omega)
set_option maxHeartbeats 4000000 in
set_option maxRecDepth 100000 in
theorem w_readSym {l : Launch} {G : tb_G} (hl : l.stackTraces = false) (n : Nat) (J : zJ)   (m : Int) (g : zJ) (hnb : n ≤ tb_sc) (C : CT J m) (hm : J 6 12 = m) (hL : LI (J 19) m) (hD : RD2 J) (hX : XC J g) (hS : SI g) (h9 : g 0 4 = 0) : tz_Ok l G M_X5_readSymbol 3 0 0 [.ref 163] n J (zqv (fun J' => ∃ m', RQ6 J' J m m' ∧ XC J' (pP (pSy g) 59))) zN := by
  refine tz_Ok.of hl (by decide +kernel) rfl (tb_c1 rfl) (Nat.le_of_ble_eq_true rfl) ?_
  show tz_At l G M_X5_readSymbol (tb_rm 3 0 0) none (tb_ZM G 0 0 (zQ n 0 (zqv (fun J' => ∃ m', RQ6 J' J m m' ∧ XC J' (pP (pSy g) 59)))) (zX n 0 zN)) 0 0 n J 0 [some (.ref 163), none, none, none] []
  have g0 : RQ6 J J m m := RQ6.rf C hm hL hD
  have h8 := hX.z h9
  have nx9 : pNx g = pN g := by unfold pNx; rw [if_pos h9]
  have hb := C.told
  refine tz_aload_n (pc := 0) dX5_readSymbol_0 rfl rfl ?_
  refine tz_fR (pc := 1) dX5_readSymbol_1 fl_X5_54 r_163_2 ?_
  refine tz_fI (pc := 4) (kz := 3) (v := (J 1 3)) dX5_readSymbol_4 fl_X5_120 i_1_3 rfl rfl (fun r_4 => ?_)
  refine tz_bipush (pc := 7) dX5_readSymbol_7 (by decide) ?_
  refine tz_icmp_lt (pc := 9) (tgt := 19) dX5_readSymbol_9 (by decide) (by omega) (by decide) (fun h_9 => ?_) (fun h_9 => ?_)
  · refine tz_aload_n (pc := 19) dX5_readSymbol_19 rfl rfl ?_
    have b_20 := (g0).1.2.2.2
    obtain ⟨⟨⟨b1_20, b2_20⟩, b3_20, b4_20⟩, b5_20⟩ := id b_20
    have t_20 := (g0).1.1.told
    refine tz_cV (pc := 20) (w_next hl n _ g b_20 hX (by omega)) vl_X5_65 dX5_readSymbol_20 o_163 rfl rfl (Nat.le_of_ble_eq_true rfl) ⟨(Nat.le_of_ble_eq_true rfl), (Nat.le_of_ble_eq_true rfl)⟩ rfl rfl (Nat.le_of_ble_eq_true rfl) (Nat.le_of_ble_eq_true rfl) (fun r9 J_20 hq9 => ?_)
    obtain ⟨rfl, g_20, d_20, v_20, x_20⟩ := hq9
    have q_20 := RQ6.rn g0 g_20 d_20
    have f_20 := g_20.2.2
    refine tz_aload_n (pc := 23) dX5_readSymbol_23 rfl rfl ?_
    have b_24 := (q_20).1.2.2.2
    obtain ⟨⟨⟨b1_24, b2_24⟩, b3_24, b4_24⟩, b5_24⟩ := id b_24
    have t_24 := (q_20).1.1.told
    refine tz_cV (pc := 24) (w_newName hl n _ (pNx g) b_24 x_20 (SI.nx hS) (pNx_4.trans h9) (by omega) t_24.1) vl_X5_125 dX5_readSymbol_24 o_163 rfl rfl (Nat.le_of_ble_eq_true rfl) ⟨(Nat.le_of_ble_eq_true rfl), (Nat.le_of_ble_eq_true rfl)⟩ rfl rfl (Nat.le_of_ble_eq_true rfl) (Nat.le_of_ble_eq_true rfl) (fun r9 J_24 hq9 => ?_)
    obtain ⟨z_24, rfl, hz_24, g_24, d_24, x_24, y_24⟩ := hq9
    have q_24 := RQ6.rn q_20 g_24 d_24
    have f_24 := g_24.2.2
    refine tz_istore_n (pc := 27) (L2 := [_, _, _, _]) dX5_readSymbol_27 rfl (by decide) rfl ?_
    refine tz_aload_n (pc := 28) dX5_readSymbol_28 rfl rfl ?_
    refine tz_iconst (pc := 29) dX5_readSymbol_29 ?_
    refine tz_iconst (pc := 30) dX5_readSymbol_30 ?_
    have b_31 := (q_24).1.2.2.2
    obtain ⟨⟨⟨b1_31, b2_31⟩, b3_31, b4_31⟩, b5_31⟩ := id b_31
    have t_31 := (q_24).1.1.told
    refine tz_cV (pc := 31) (w_readNum hl n _ _ _ (by decide) (by decide) (pNm (pNx g)).1 b_31 x_24 (SI.nm (SI.nx hS)) (Or.inl rfl) (by decide)) vl_X5_128 dX5_readSymbol_31 o_163 rfl rfl (Nat.le_of_ble_eq_true rfl) ⟨(Nat.le_of_ble_eq_true rfl), (Nat.le_of_ble_eq_true rfl)⟩ rfl rfl (Nat.le_of_ble_eq_true rfl) (Nat.le_of_ble_eq_true rfl) (fun r9 J_31 hq9 => ?_)
    obtain ⟨z_31, rfl, hz_31, g_31, d_31, u_31, x_31, y_31⟩ := hq9
    have q_31 := RQ6.rn q_24 g_31 d_31
    have f_31 := g_31.2.2
    refine tz_istore_n (pc := 34) (L2 := [_, _, _, _]) dX5_readSymbol_34 rfl (by decide) rfl ?_
    refine tz_aload_n (pc := 35) dX5_readSymbol_35 rfl rfl ?_
    refine tz_iconst (pc := 36) dX5_readSymbol_36 ?_
    refine tz_bipush (pc := 37) dX5_readSymbol_37 (by decide) ?_
    have b_39 := (q_31).1.2.2.2
    obtain ⟨⟨⟨b1_39, b2_39⟩, b3_39, b4_39⟩, b5_39⟩ := id b_39
    have t_39 := (q_31).1.1.told
    refine tz_cV (pc := 39) (w_readNum hl n _ _ _ (by decide) (by decide) (pU (pNm (pNx g)).1 0 3).1 b_39 x_31 (SI.u (SI.nm (SI.nx hS))) (Or.inr rfl) (by decide)) vl_X5_128 dX5_readSymbol_39 o_163 rfl rfl (Nat.le_of_ble_eq_true rfl) ⟨(Nat.le_of_ble_eq_true rfl), (Nat.le_of_ble_eq_true rfl)⟩ rfl rfl (Nat.le_of_ble_eq_true rfl) (Nat.le_of_ble_eq_true rfl) (fun r9 J_39 hq9 => ?_)
    obtain ⟨z_39, rfl, hz_39, g_39, d_39, u_39, x_39, y_39⟩ := hq9
    have q_39 := RQ6.rn q_31 g_39 d_39
    have f_39 := g_39.2.2
    refine tz_istore_n (pc := 42) (L2 := [_, _, _, _]) dX5_readSymbol_42 rfl (by decide) rfl ?_
    refine tz_aload_n (pc := 43) dX5_readSymbol_43 rfl rfl ?_
    refine tz_bipush (pc := 44) dX5_readSymbol_44 (by decide) ?_
    have b_46 := (q_39).1.2.2.2
    obtain ⟨⟨⟨b1_46, b2_46⟩, b3_46, b4_46⟩, b5_46⟩ := id b_46
    have t_46 := (q_39).1.1.told
    refine tz_cV (pc := 46) (w_pass hl n _ _ (by decide) (pU (pU (pNm (pNx g)).1 0 3).1 1 9).1 b_46 x_39 (SI.u (SI.u (SI.nm (SI.nx hS))))) vl_X5_116 dX5_readSymbol_46 o_163 rfl rfl (Nat.le_of_ble_eq_true rfl) ⟨(Nat.le_of_ble_eq_true rfl), (Nat.le_of_ble_eq_true rfl)⟩ rfl rfl (Nat.le_of_ble_eq_true rfl) (Nat.le_of_ble_eq_true rfl) (fun r9 J_46 hq9 => ?_)
    obtain ⟨rfl, g_46, d_46, x_46⟩ := hq9
    have q_46 := RQ6.rn q_39 g_46 d_46
    have f_46 := g_46.2.2
    refine tz_aload_n (pc := 49) dX5_readSymbol_49 rfl rfl ?_
    refine tz_fI (pc := 50) (kz := 8) (v := (J_46 163 8)) dX5_readSymbol_50 fl_X5_24 i_163_8 rfl rfl (fun r_50 => ?_)
    refine tz_if_ne (pc := 53) (tgt := 66) dX5_readSymbol_53 (by decide) (by omega) (fun h_53 => ?_) (fun h_53 => ?_)
    · exact tz_vret (pc := 66) dX5_readSymbol_66 rfl (Nat.le_of_ble_eq_true rfl) (Nat.le_of_ble_eq_true rfl) ⟨Nat.le_refl _, Nat.le_add_right _ _⟩ ⟨rfl, ⟨m, q_46, by rw [pSy_1 (by have := (hX.e h9).2.2.2.1.1; omega) nx9 y_24 y_31 y_39]; exact XC.addf x_46 (by omega) rfl⟩⟩
    · refine tz_aload_n (pc := 56) dX5_readSymbol_56 rfl rfl ?_
      refine tz_fR (pc := 57) dX5_readSymbol_57 fl_X5_54 r_163_2 ?_
      refine tz_iload_n (pc := 60) dX5_readSymbol_60 rfl rfl ?_
      refine tz_iload_n (pc := 61) dX5_readSymbol_61 rfl rfl ?_
      refine tz_iload_n (pc := 62) dX5_readSymbol_62 rfl rfl ?_
      have w_63 := (q_46).1.1.told
      have s_63 : J_46 1 = J 1 := (g_46.1 1 rfl).trans ((g_39.1 1 rfl).trans ((g_31.1 1 rfl).trans ((g_24.1 1 rfl).trans (g_20.1 1 rfl))))
      refine tz_cV (pc := 63) (c_syAdd hl n _ _ _ _ (by omega) (by omega) (by omega) (by rw [s_63]; omega)) vl_X5_131 dX5_readSymbol_63 o_1 rfl rfl (Nat.le_of_ble_eq_true rfl) ⟨(Nat.le_of_ble_eq_true rfl), (Nat.le_of_ble_eq_true rfl)⟩ rfl rfl (Nat.le_of_ble_eq_true rfl) (Nat.le_of_ble_eq_true rfl) (fun r9 J_63 hq9 => ?_)
      obtain ⟨rfl, j_63⟩ := hq9
      have q_63 : RQ6 J_63 J m m := by
        rw [← j_63]
        exact ⟨⟨(q_46).1.1.sym (by rw [s_63]; omega) (by omega) (by omega), (q_46).1.2.1, (q_46).1.2.2.1, (q_46).1.2.2.2⟩, zOf.up rfl (zOf.up rfl (zOf.up rfl (zOf.up rfl (q_46).2.1))), (q_46).2.2⟩
      exact tz_vret (pc := 66) dX5_readSymbol_66 rfl (Nat.le_of_ble_eq_true rfl) (Nat.le_of_ble_eq_true rfl) ⟨Nat.le_refl _, Nat.le_add_right _ _⟩ ⟨rfl, ⟨m, q_63, by rw [pSy_1 (by have := (hX.e h9).2.2.2.1.1; omega) nx9 y_24 y_31 y_39, ← j_63]; exact XC.addz x_46 (by omega) rfl rfl (fun k hk => rfl) rfl (fun _ r E => ⟨r, E.symb⟩)⟩⟩
  · refine tz_aload_n (pc := 12) dX5_readSymbol_12 rfl rfl ?_
    refine tz_iconst (pc := 13) dX5_readSymbol_13 ?_
    refine tz_cV (pc := 14) (w_fail hl n _ _ (by decide) g (by decide) hX) vl_X5_97 dX5_readSymbol_14 o_163 rfl rfl (Nat.le_of_ble_eq_true rfl) ⟨(Nat.le_of_ble_eq_true rfl), (Nat.le_of_ble_eq_true rfl)⟩ rfl rfl (Nat.le_of_ble_eq_true rfl) (Nat.le_of_ble_eq_true rfl) (fun r9 J_14 hq9 => ?_)
    obtain ⟨z_14, rfl, hz_14, g_14, d_14, e_14, v_14, x_14⟩ := hq9
    have q_14 := RQ6.rn g0 g_14 (d_14 (g0).1.2.2.2)
    refine tz_pop (pc := 17) dX5_readSymbol_17 rfl ?_
    exact tz_vret (pc := 18) dX5_readSymbol_18 rfl (Nat.le_of_ble_eq_true rfl) (Nat.le_of_ble_eq_true rfl) ⟨Nat.le_refl _, Nat.le_add_right _ _⟩ ⟨rfl, ⟨m, q_14, by rw [pSy_2 (by have := (hX.e h9).2.2.2.1.1; omega) h9]; exact x_14⟩⟩

end
section
/-! ===== the class follows the reading: entries ===== -/
theorem ET.ey {J g : zJ} {t z : Int} (E : ET J g) (h1 : 0 ≤ J 19 5) (d : (0 ≤ z ∧ z < J 19 5 ∧ J 19 (31 + z) = t ∧ ∀ i, 0 ≤ i → i < z → ¬ J 19 (31 + i) = t) ∨ (z = -1 ∧ ∀ i, 0 ≤ i → i < J 19 5 → ¬ J 19 (31 + i) = t)) : (0 ≤ z ∧ z < g 165 152 ∧ pey g t = z) ∨ (z = -1 ∧ pey g t = g 165 152) := by
  obtain ⟨_, _, _, ⟨e3, e2⟩, _⟩ := E
  rcases d with ⟨a, b, c, d⟩ | ⟨a, d⟩
  · refine Or.inl ⟨a, by omega, fnB_eq a (by omega) (fun q u v => decide_eq_true ?_) (Or.inr (decide_eq_false (fun k => k ?_)))⟩
    · rw [← e2 q u (by omega)]; exact d q u v
    · rw [← e2 z a (by omega)]; exact c
  · refine Or.inr ⟨a, fnB_eq (by omega) (Int.le_refl _) (fun q u v => decide_eq_true ?_) (Or.inl rfl)⟩
    rw [← e2 q u (by omega)]; exact d q u (by omega)
theorem pEn_2 {g : zJ} (h : ¬ g 165 152 < 12) (h9 : g 0 4 = 0) : pP (pEn g) 59 = pFx g 2 := by
  unfold pEn pFx
  rw [if_neg h, if_pos h9, pP_f (by show ¬ (2 : Int) = 0; decide)]
theorem pEn_0 {g : zJ} (h : g 165 152 < 12) (nx9 : pNx g = pN g) (q : ¬ (pT 8 (pNx g) 1).1 0 4 = 0) : pEn g = (pT 8 (pNx g) 1).1 := by
  unfold pEn pR1
  rw [if_pos h, ← nx9, if_neg q]
theorem pEn_1 {g : zJ} (h : g 165 152 < 12) (nx9 : pNx g = pN g) (q : (pT 8 (pNx g) 1).1 0 4 = 0) (k : ¬ (pT 8 (pNx g) 1).1 0 3 = 59) : pP (pEn g) 59 = pP (pT 8 (pNx g) 1).1 59 := by
  unfold pEn pR1
  rw [if_pos h, ← nx9, if_pos q, if_neg k, pP_e q k, pP_f (by show ¬ (1 : Int) = 0; decide)]
theorem pEn_3 {g : zJ} (h : g 165 152 < 12) (nx9 : pNx g = pN g) (q : (pT 8 (pNx g) 1).1 0 4 = 0) (k : (pT 8 (pNx g) 1).1 0 3 = 59) : pEn g = if pey (pT 8 (pNx g) 1).1 (pT 8 (pNx g) 1).2 < (pT 8 (pNx g) 1).1 165 152 then pF (pT 8 (pNx g) 1).1 5 else zen (pT 8 (pNx g) 1).1 126 (pT 8 (pNx g) 1).2 := by
  unfold pEn pR1
  rw [if_pos h, ← nx9, if_pos q, if_pos k]
theorem ET.entr {J S : zJ} {x : Int} (E : ET J S) (h4 : 0 ≤ J 19 4 ∧ J 19 4 ≤ 8) (h5 : 0 ≤ J 19 5 ∧ J 19 5 < 12) : ET (zaE J x) (zen S 126 x) := by
  obtain ⟨E1, E2, ⟨E4, E5⟩, ⟨E6, E7⟩, E8⟩ := E
  unfold zaE
  rw [if_pos h5.2]
  have e : ∀ k, zup (zup J 19 (31 + J 19 5) x) 19 5 (J 19 5 + 1) 19 k = if k = 5 then J 19 5 + 1 else if k = 31 + J 19 5 then x else J 19 k := fun _ => rfl
  have e' : ∀ k, zen S 126 x 165 k = if k = 152 then S 165 152 + 1 else if k = 153 + S 165 152 then x else S 165 k := fun _ => rfl
  refine ⟨E1, ?_, ⟨?_, fun i p q => ?_⟩, ⟨?_, fun i p q => ?_⟩, ?_⟩
  · rw [e' 126, if_neg (by decide), if_neg (by omega)]
    exact E2
  · rw [e, e', if_neg (by omega), if_neg (by omega), if_neg (by omega), if_neg (by omega)]
    exact E4
  · rw [e', if_neg (by omega), if_neg (by omega)] at q
    rw [e, e, e', e', if_neg (by omega), if_neg (by omega), if_neg (by omega), if_neg (by omega), if_neg (by omega), if_neg (by omega), if_neg (by omega), if_neg (by omega)]
    exact E5 i p q
  · rw [e, e', if_pos rfl, if_pos rfl]
    omega
  · rw [e', if_pos rfl] at q
    rw [e, e']
    by_cases c : i = J 19 5
    · rw [if_neg (by omega), if_pos (by omega), if_neg (by omega), if_pos (by omega)]
    · rw [if_neg (by omega), if_neg (by omega), if_neg (by omega), if_neg (by omega)]
      exact E7 i p (by omega)
  · exact ⟨by rw [e, e', if_neg (by omega), if_neg (by omega), if_neg (by omega), if_neg (by omega)]; exact E8.1, ⟨by rw [e, e', if_neg (by omega), if_neg (by omega), if_neg (by omega), if_neg (by omega)]; exact E8.2.1.1, by rw [e, e', if_neg (by omega), if_neg (by omega), if_neg (by omega), if_neg (by omega)]; exact E8.2.1.2.1, by rw [e, if_neg (by omega), if_neg (by omega)]; exact E8.2.1.2.2⟩, fun v a b => by rw [e, e', if_neg (by omega), if_neg (by omega), if_neg (by omega), if_neg (by omega)]; exact E8.2.2 v a b⟩
theorem EN12 {Jt g : zJ} (h : g 165 152 < 12) (nx9 : pNx g = pN g) (x : XC Jt (pT 8 (pNx g) 1).1) (hp : ¬ Jt 163 8 = 0 ∨ ¬ Jt 163 5 = 59) : pP (pEn g) 59 = pP (pT 8 (pNx g) 1).1 59 := by
  by_cases q : (pT 8 (pNx g) 1).1 0 4 = 0
  · have z := x.z q
    rcases x.k z with p | ⟨_, e3, _⟩
    · omega
    · exact pEn_1 h nx9 q (by omega)
  · rw [pEn_0 h nx9 q]
theorem XC.p59 {J'' Jp Jt S : zJ} (x : XC Jt S) (hp : ¬ Jt 163 8 = 0 ∨ ¬ Jt 163 5 = 59) (y : XC Jp (pP S 59)) (h0 : Jp 163 8 = 0) (f : Jp 163 8 = 0 → Jt 163 8 = 0) : XC J'' (pP S 59) := by
  have z := f h0
  rcases x.k z with p | ⟨q, e3, _⟩
  · rw [pP_f (by omega)]
    exact Or.inl p
  · rw [pP_e q (by omega)] at y
    rcases y with k | ⟨k1, _⟩
    · exact absurd k (by show ¬ (1 : Int) = 99; decide)
    · exact absurd (k1.symm.trans h0) (by show ¬ (1 : Int) = 0; decide)
theorem EN34 {Jt g : zJ} {z t : Int} (h : g 165 152 < 12) (nx9 : pNx g = pN g) (x : XC Jt (pT 8 (pNx g) 1).1) (v : VQ t (pT 8 (pNx g) 1)) (h8 : Jt 163 8 = 0) (h5 : Jt 163 5 = 59) (h1 : 0 ≤ Jt 19 5) (d : (0 ≤ z ∧ z < Jt 19 5 ∧ Jt 19 (31 + z) = t ∧ ∀ i, 0 ≤ i → i < z → ¬ Jt 19 (31 + i) = t) ∨ (z = -1 ∧ ∀ i, 0 ≤ i → i < Jt 19 5 → ¬ Jt 19 (31 + i) = t)) : (¬ z = -1 → pP (pEn g) 59 = pP (pFx (pT 8 (pNx g) 1).1 5) 59) ∧ (z = -1 → pEn g = if (pT 8 (pNx g) 1).1 0 4 = 0 then zen (pT 8 (pNx g) 1).1 126 t else (pT 8 (pNx g) 1).1) := by
  rcases x.k h8 with p | ⟨q, e3, _, _, _, E⟩
  · have q : ¬ (pT 8 (pNx g) 1).1 0 4 = 0 := by omega
    unfold pFx
    rw [pEn_0 h nx9 q, if_neg q, if_neg q]
    exact ⟨fun _ => rfl, fun _ => rfl⟩
  · have s := E.2.2.2.ey h1 d
    unfold pFx
    rw [pEn_3 h nx9 q (by omega), if_pos q, if_pos q, ← v q]
    refine ⟨fun k => ?_, fun k => ?_⟩
    · rw [if_pos (by omega)]
    · rw [if_neg (by omega)]
set_option maxHeartbeats 4000000 in
set_option maxRecDepth 100000 in
theorem w_readEntry {l : Launch} {G : tb_G} (hl : l.stackTraces = false) (n : Nat) (J : zJ)   (m : Int) (g : zJ) (hnb : n ≤ tb_sc) (C : CT J m) (hm : J 6 12 = m) (hL : LI (J 19) m) (hD : RD2 J) (hX : XC J g) (hS : SI g) (h9 : g 0 4 = 0) : tz_Ok l G M_X5_readEntry 35 0 0 [.ref 163] n J (zqv (fun J' => ∃ m', RQ6 J' J m m' ∧ XC J' (pP (pEn g) 59))) zN := by
  refine tz_Ok.of hl (by decide +kernel) rfl (tb_c1 rfl) (Nat.le_of_ble_eq_true rfl) ?_
  show tz_At l G M_X5_readEntry (tb_rm 35 0 0) none (tb_ZM G 0 0 (zQ n 0 (zqv (fun J' => ∃ m', RQ6 J' J m m' ∧ XC J' (pP (pEn g) 59)))) (zX n 0 zN)) 0 0 n J 0 [some (.ref 163), none] []
  have g0 : RQ6 J J m m := RQ6.rf C hm hL hD
  have h8 := hX.z h9
  have nx9 : pNx g = pN g := by unfold pNx; rw [if_pos h9]
  have h5 := hL.1.2.2.1
  refine tz_aload_n (pc := 0) dX5_readEntry_0 rfl rfl ?_
  refine tz_fR (pc := 1) dX5_readEntry_1 fl_X5_38 r_163_1 ?_
  refine tz_fR (pc := 4) dX5_readEntry_4 fl_X5_138 r_5_1 ?_
  refine tz_fR (pc := 7) dX5_readEntry_7 fl_X5_142 r_18_0 ?_
  refine tz_iconst (pc := 10) dX5_readEntry_10 ?_
  refine tz_aL (pc := 11) (z := 5) (v := (J 19 5)) dX5_readEntry_11 a_19 rfl (by decide) rfl (fun r_11 => ?_)
  refine tz_bipush (pc := 12) dX5_readEntry_12 (by decide) ?_
  refine tz_icmp_lt (pc := 14) (tgt := 24) dX5_readEntry_14 (by decide) (by omega) (by decide) (fun h_14 => ?_) (fun h_14 => ?_)
  · refine tz_aload_n (pc := 24) dX5_readEntry_24 rfl rfl ?_
    have b_25 := (g0).1.2.2.2
    obtain ⟨⟨⟨b1_25, b2_25⟩, b3_25, b4_25⟩, b5_25⟩ := id b_25
    have t_25 := (g0).1.1.told
    refine tz_cV (pc := 25) (w_next hl n _ g b_25 hX (by omega)) vl_X5_65 dX5_readEntry_25 o_163 rfl rfl (Nat.le_of_ble_eq_true rfl) ⟨(Nat.le_of_ble_eq_true rfl), (Nat.le_of_ble_eq_true rfl)⟩ rfl rfl (Nat.le_of_ble_eq_true rfl) (Nat.le_of_ble_eq_true rfl) (fun r9 J_25 hq9 => ?_)
    obtain ⟨rfl, g_25, d_25, v_25, x_25⟩ := hq9
    have q_25 := RQ6.rn g0 g_25 d_25
    have f_25 := g_25.2.2
    refine tz_aload_n (pc := 28) dX5_readEntry_28 rfl rfl ?_
    refine tz_iconst (pc := 29) dX5_readEntry_29 ?_
    refine tz_cV (pc := 30) (w_readTerm hl n _ m (pNx g) (q_25).1.1 (q_25).1.2.1 (q_25).1.2.2.2 x_25 (SI.nx hS)) vl_X5_113 dX5_readEntry_30 o_163 rfl rfl (Nat.le_of_ble_eq_true rfl) ⟨(Nat.le_of_ble_eq_true rfl), (Nat.le_of_ble_eq_true rfl)⟩ rfl rfl (Nat.le_of_ble_eq_true rfl) (Nat.le_of_ble_eq_true rfl) (fun r9 J_30 hq9 => ?_)
    obtain ⟨z_30, rfl, hz_30, m_30, g_30, u_30, x_30, y_30⟩ := hq9
    have q_30 := RQ6.rt q_25 g_30
    have f_30 := g_30.2.2
    have l_30 := g_30.1.1
    refine tz_istore_n (pc := 33) (L2 := [_, _]) dX5_readEntry_33 rfl (by decide) rfl ?_
    refine tz_aload_n (pc := 34) dX5_readEntry_34 rfl rfl ?_
    refine tz_fI (pc := 35) (kz := 8) (v := (J_30 163 8)) dX5_readEntry_35 fl_X5_24 i_163_8 rfl rfl (fun r_35 => ?_)
    refine tz_if_ne (pc := 38) (tgt := 71) dX5_readEntry_38 (by decide) (by omega) (fun h_38 => ?_) (fun h_38 => ?_)
    · refine tz_aload_n (pc := 71) dX5_readEntry_71 rfl rfl ?_
      refine tz_bipush (pc := 72) dX5_readEntry_72 (by decide) ?_
      have b_74 := (q_30).1.2.2.2
      obtain ⟨⟨⟨b1_74, b2_74⟩, b3_74, b4_74⟩, b5_74⟩ := id b_74
      have t_74 := (q_30).1.1.told
      refine tz_cV (pc := 74) (w_pass hl n _ _ (by decide) (pT 8 (pNx g) 1).1 b_74 x_30 (SI.t 8 _ 1 (SI.nx hS))) vl_X5_116 dX5_readEntry_74 o_163 rfl rfl (Nat.le_of_ble_eq_true rfl) ⟨(Nat.le_of_ble_eq_true rfl), (Nat.le_of_ble_eq_true rfl)⟩ rfl rfl (Nat.le_of_ble_eq_true rfl) (Nat.le_of_ble_eq_true rfl) (fun r9 J_74 hq9 => ?_)
      obtain ⟨rfl, g_74, d_74, x_74⟩ := hq9
      have q_74 := RQ6.rn q_30 g_74 d_74
      have f_74 := g_74.2.2
      refine tz_aload_n (pc := 77) dX5_readEntry_77 rfl rfl ?_
      refine tz_fI (pc := 78) (kz := 8) (v := (J_74 163 8)) dX5_readEntry_78 fl_X5_24 i_163_8 rfl rfl (fun r_78 => ?_)
      refine tz_if_ne (pc := 81) (tgt := 95) dX5_readEntry_81 (by decide) (by omega) (fun h_81 => ?_) (fun h_81 => ?_)
      · exact tz_vret (pc := 95) dX5_readEntry_95 rfl (Nat.le_of_ble_eq_true rfl) (Nat.le_of_ble_eq_true rfl) ⟨Nat.le_refl _, Nat.le_add_right _ _⟩ ⟨rfl, ⟨m_30, q_74, by rw [EN12 (by have := (hX.e h9).2.2.2.2.2.2.1.1; omega) nx9 x_30 (by omega)]; exact x_74⟩⟩
      · refine tz_aload_n (pc := 84) dX5_readEntry_84 rfl rfl ?_
        refine tz_fR (pc := 85) dX5_readEntry_85 fl_X5_38 r_163_1 ?_
        refine tz_fR (pc := 88) dX5_readEntry_88 fl_X5_138 r_5_1 ?_
        refine tz_iload_n (pc := 91) dX5_readEntry_91 rfl rfl ?_
        have w_92 := (q_74).1.2.2.1.1
        refine tz_cV (pc := 92) (c_addEntry hl n _ _ (by omega) w_92.2.2.1) vl_X5_165 dX5_readEntry_92 o_18 rfl rfl (Nat.le_of_ble_eq_true rfl) ⟨(Nat.le_of_ble_eq_true rfl), (Nat.le_of_ble_eq_true rfl)⟩ rfl rfl (Nat.le_of_ble_eq_true rfl) (Nat.le_of_ble_eq_true rfl) (fun r9 J_92 hq9 => ?_)
        obtain ⟨rfl, j_92⟩ := hq9
        have k_92 : zOf (zbut [19]) J_92 J_74 := by rw [← j_92]; exact zof_aE
        have q_92 := RQ6.led q_74 k_92 (by rw [← j_92]; exact (q_74).1.2.2.1.aE (by omega))
        exact tz_vret (pc := 95) dX5_readEntry_95 rfl (Nat.le_of_ble_eq_true rfl) (Nat.le_of_ble_eq_true rfl) ⟨Nat.le_refl _, Nat.le_add_right _ _⟩ ⟨rfl, ⟨m_30, q_92, by rw [EN12 (by have := (hX.e h9).2.2.2.2.2.2.1.1; omega) nx9 x_30 (by omega)]; exact XC.p59 x_30 (by omega) x_74 (by omega) f_74⟩⟩
    · refine tz_aload_n (pc := 41) dX5_readEntry_41 rfl rfl ?_
      refine tz_fI (pc := 42) (kz := 5) (v := (J_30 163 5)) dX5_readEntry_42 fl_X5_15 i_163_5 rfl rfl (fun r_42 => ?_)
      refine tz_bipush (pc := 45) dX5_readEntry_45 (by decide) ?_
      refine tz_icmp_ne (pc := 47) (tgt := 71) dX5_readEntry_47 (by decide) (by omega) (by decide) (fun h_47 => ?_) (fun h_47 => ?_)
      · refine tz_aload_n (pc := 71) dX5_readEntry_71 rfl rfl ?_
        refine tz_bipush (pc := 72) dX5_readEntry_72 (by decide) ?_
        have b_74 := (q_30).1.2.2.2
        obtain ⟨⟨⟨b1_74, b2_74⟩, b3_74, b4_74⟩, b5_74⟩ := id b_74
        have t_74 := (q_30).1.1.told
        refine tz_cV (pc := 74) (w_pass hl n _ _ (by decide) (pT 8 (pNx g) 1).1 b_74 x_30 (SI.t 8 _ 1 (SI.nx hS))) vl_X5_116 dX5_readEntry_74 o_163 rfl rfl (Nat.le_of_ble_eq_true rfl) ⟨(Nat.le_of_ble_eq_true rfl), (Nat.le_of_ble_eq_true rfl)⟩ rfl rfl (Nat.le_of_ble_eq_true rfl) (Nat.le_of_ble_eq_true rfl) (fun r9 J_74 hq9 => ?_)
        obtain ⟨rfl, g_74, d_74, x_74⟩ := hq9
        have q_74 := RQ6.rn q_30 g_74 d_74
        have f_74 := g_74.2.2
        refine tz_aload_n (pc := 77) dX5_readEntry_77 rfl rfl ?_
        refine tz_fI (pc := 78) (kz := 8) (v := (J_74 163 8)) dX5_readEntry_78 fl_X5_24 i_163_8 rfl rfl (fun r_78 => ?_)
        refine tz_if_ne (pc := 81) (tgt := 95) dX5_readEntry_81 (by decide) (by omega) (fun h_81 => ?_) (fun h_81 => ?_)
        · exact tz_vret (pc := 95) dX5_readEntry_95 rfl (Nat.le_of_ble_eq_true rfl) (Nat.le_of_ble_eq_true rfl) ⟨Nat.le_refl _, Nat.le_add_right _ _⟩ ⟨rfl, ⟨m_30, q_74, by rw [EN12 (by have := (hX.e h9).2.2.2.2.2.2.1.1; omega) nx9 x_30 (by omega)]; exact x_74⟩⟩
        · refine tz_aload_n (pc := 84) dX5_readEntry_84 rfl rfl ?_
          refine tz_fR (pc := 85) dX5_readEntry_85 fl_X5_38 r_163_1 ?_
          refine tz_fR (pc := 88) dX5_readEntry_88 fl_X5_138 r_5_1 ?_
          refine tz_iload_n (pc := 91) dX5_readEntry_91 rfl rfl ?_
          have w_92 := (q_74).1.2.2.1.1
          refine tz_cV (pc := 92) (c_addEntry hl n _ _ (by omega) w_92.2.2.1) vl_X5_165 dX5_readEntry_92 o_18 rfl rfl (Nat.le_of_ble_eq_true rfl) ⟨(Nat.le_of_ble_eq_true rfl), (Nat.le_of_ble_eq_true rfl)⟩ rfl rfl (Nat.le_of_ble_eq_true rfl) (Nat.le_of_ble_eq_true rfl) (fun r9 J_92 hq9 => ?_)
          obtain ⟨rfl, j_92⟩ := hq9
          have k_92 : zOf (zbut [19]) J_92 J_74 := by rw [← j_92]; exact zof_aE
          have q_92 := RQ6.led q_74 k_92 (by rw [← j_92]; exact (q_74).1.2.2.1.aE (by omega))
          exact tz_vret (pc := 95) dX5_readEntry_95 rfl (Nat.le_of_ble_eq_true rfl) (Nat.le_of_ble_eq_true rfl) ⟨Nat.le_refl _, Nat.le_add_right _ _⟩ ⟨rfl, ⟨m_30, q_92, by rw [EN12 (by have := (hX.e h9).2.2.2.2.2.2.1.1; omega) nx9 x_30 (by omega)]; exact XC.p59 x_30 (by omega) x_74 (by omega) f_74⟩⟩
      · refine tz_aload_n (pc := 50) dX5_readEntry_50 rfl rfl ?_
        refine tz_fR (pc := 51) dX5_readEntry_51 fl_X5_38 r_163_1 ?_
        refine tz_fR (pc := 54) dX5_readEntry_54 fl_X5_138 r_5_1 ?_
        refine tz_iload_n (pc := 57) dX5_readEntry_57 rfl rfl ?_
        have w_58 := (q_30).1.2.2.1.1
        refine tz_cV (pc := 58) (c_entryOf hl n _ _ (by omega) w_58.2.2.1) vl_X5_162 dX5_readEntry_58 o_18 rfl rfl (Nat.le_of_ble_eq_true rfl) ⟨(Nat.le_of_ble_eq_true rfl), (Nat.le_of_ble_eq_true rfl)⟩ rfl rfl (Nat.le_of_ble_eq_true rfl) (Nat.le_of_ble_eq_true rfl) (fun r9 J_58 hq9 => ?_)
        obtain ⟨z_58, rfl, hz_58, rfl, hey⟩ := hq9
        refine tz_iconst (pc := 61) dX5_readEntry_61 ?_
        refine tz_icmp_eq (pc := 62) (tgt := 71) dX5_readEntry_62 (by decide) (by omega) (by decide) (fun h_62 => ?_) (fun h_62 => ?_)
        · refine tz_aload_n (pc := 71) dX5_readEntry_71 rfl rfl ?_
          refine tz_bipush (pc := 72) dX5_readEntry_72 (by decide) ?_
          have b_74 := (q_30).1.2.2.2
          obtain ⟨⟨⟨b1_74, b2_74⟩, b3_74, b4_74⟩, b5_74⟩ := id b_74
          have t_74 := (q_30).1.1.told
          refine tz_cV (pc := 74) (w_pass hl n _ _ (by decide) (pT 8 (pNx g) 1).1 b_74 x_30 (id (SI.t 8 _ 1 (SI.nx hS)))) vl_X5_116 dX5_readEntry_74 o_163 rfl rfl (Nat.le_of_ble_eq_true rfl) ⟨(Nat.le_of_ble_eq_true rfl), (Nat.le_of_ble_eq_true rfl)⟩ rfl rfl (Nat.le_of_ble_eq_true rfl) (Nat.le_of_ble_eq_true rfl) (fun r9 J_74 hq9 => ?_)
          obtain ⟨rfl, g_74, d_74, x_74⟩ := hq9
          have q_74 := RQ6.rn q_30 g_74 d_74
          have f_74 := g_74.2.2
          refine tz_aload_n (pc := 77) dX5_readEntry_77 rfl rfl ?_
          refine tz_fI (pc := 78) (kz := 8) (v := (J_74 163 8)) dX5_readEntry_78 fl_X5_24 i_163_8 rfl rfl (fun r_78 => ?_)
          refine tz_if_ne (pc := 81) (tgt := 95) dX5_readEntry_81 (by decide) (by omega) (fun h_81 => ?_) (fun h_81 => ?_)
          · exact tz_vret (pc := 95) dX5_readEntry_95 rfl (Nat.le_of_ble_eq_true rfl) (Nat.le_of_ble_eq_true rfl) ⟨Nat.le_refl _, Nat.le_add_right _ _⟩ ⟨rfl, ⟨m_30, q_74, by rw [(EN34 (by have := (hX.e h9).2.2.2.2.2.2.1.1; omega) nx9 x_30 y_30 (by omega) (by omega) w_58.2.2.1.1 hey).2 (by omega)]; exact XC.addf x_74 (by omega) rfl⟩⟩
          · refine tz_aload_n (pc := 84) dX5_readEntry_84 rfl rfl ?_
            refine tz_fR (pc := 85) dX5_readEntry_85 fl_X5_38 r_163_1 ?_
            refine tz_fR (pc := 88) dX5_readEntry_88 fl_X5_138 r_5_1 ?_
            refine tz_iload_n (pc := 91) dX5_readEntry_91 rfl rfl ?_
            have w_92 := (q_74).1.2.2.1.1
            refine tz_cV (pc := 92) (c_addEntry hl n _ _ (by omega) w_92.2.2.1) vl_X5_165 dX5_readEntry_92 o_18 rfl rfl (Nat.le_of_ble_eq_true rfl) ⟨(Nat.le_of_ble_eq_true rfl), (Nat.le_of_ble_eq_true rfl)⟩ rfl rfl (Nat.le_of_ble_eq_true rfl) (Nat.le_of_ble_eq_true rfl) (fun r9 J_92 hq9 => ?_)
            obtain ⟨rfl, j_92⟩ := hq9
            have k_92 : zOf (zbut [19]) J_92 J_74 := by rw [← j_92]; exact zof_aE
            have q_92 := RQ6.led q_74 k_92 (by rw [← j_92]; exact (q_74).1.2.2.1.aE (by omega))
            exact tz_vret (pc := 95) dX5_readEntry_95 rfl (Nat.le_of_ble_eq_true rfl) (Nat.le_of_ble_eq_true rfl) ⟨Nat.le_refl _, Nat.le_add_right _ _⟩ ⟨rfl, ⟨m_30, q_92, by rw [(EN34 (by have := (hX.e h9).2.2.2.2.2.2.1.1; omega) nx9 x_30 y_30 (by omega) (by omega) w_58.2.2.1.1 hey).2 (by omega), ← j_92]; exact XC.addz x_74 (by omega) rfl rfl (fun k _ => congrFun (zof_aE (J := J_74) (x := z_30) 163 rfl) k) (zof_aE 162 rfl) (fun _ r E => ⟨(congrFun (zof_aE (J := J_74) (x := z_30) 163 rfl) 10).trans r, E.entr w_92.2.1 (by have e1 := congrFun ((g_74.1 19 rfl).trans ((g_30.1.2.2.2.2 19 rfl).trans (g_25.1 19 rfl))) 5; omega)⟩)⟩⟩
        · refine tz_aload_n (pc := 65) dX5_readEntry_65 rfl rfl ?_
          refine tz_iconst (pc := 66) dX5_readEntry_66 ?_
          refine tz_cV (pc := 67) (w_fail hl n _ _ (by decide) (pT 8 (pNx g) 1).1 (by decide) x_30) vl_X5_97 dX5_readEntry_67 o_163 rfl rfl (Nat.le_of_ble_eq_true rfl) ⟨(Nat.le_of_ble_eq_true rfl), (Nat.le_of_ble_eq_true rfl)⟩ rfl rfl (Nat.le_of_ble_eq_true rfl) (Nat.le_of_ble_eq_true rfl) (fun r9 J_67 hq9 => ?_)
          obtain ⟨z_67, rfl, hz_67, g_67, d_67, e_67, v_67, x_67⟩ := hq9
          have q_67 := RQ6.rn q_30 g_67 (d_67 (q_30).1.2.2.2)
          have f_67 := g_67.2.2
          refine tz_pop (pc := 70) dX5_readEntry_70 rfl ?_
          refine tz_aload_n (pc := 71) dX5_readEntry_71 rfl rfl ?_
          refine tz_bipush (pc := 72) dX5_readEntry_72 (by decide) ?_
          have b_74 := (q_67).1.2.2.2
          obtain ⟨⟨⟨b1_74, b2_74⟩, b3_74, b4_74⟩, b5_74⟩ := id b_74
          have t_74 := (q_67).1.1.told
          refine tz_cV (pc := 74) (w_pass hl n _ _ (by decide) (pFx (pT 8 (pNx g) 1).1 5) b_74 x_67 (SI.fx (id (SI.t 8 _ 1 (SI.nx hS))))) vl_X5_116 dX5_readEntry_74 o_163 rfl rfl (Nat.le_of_ble_eq_true rfl) ⟨(Nat.le_of_ble_eq_true rfl), (Nat.le_of_ble_eq_true rfl)⟩ rfl rfl (Nat.le_of_ble_eq_true rfl) (Nat.le_of_ble_eq_true rfl) (fun r9 J_74 hq9 => ?_)
          obtain ⟨rfl, g_74, d_74, x_74⟩ := hq9
          have q_74 := RQ6.rn q_67 g_74 d_74
          have f_74 := g_74.2.2
          refine tz_aload_n (pc := 77) dX5_readEntry_77 rfl rfl ?_
          refine tz_fI (pc := 78) (kz := 8) (v := (J_74 163 8)) dX5_readEntry_78 fl_X5_24 i_163_8 rfl rfl (fun r_78 => ?_)
          refine tz_if_ne (pc := 81) (tgt := 95) dX5_readEntry_81 (by decide) (by omega) (fun h_81 => ?_) (fun h_81 => ?_)
          · exact tz_vret (pc := 95) dX5_readEntry_95 rfl (Nat.le_of_ble_eq_true rfl) (Nat.le_of_ble_eq_true rfl) ⟨Nat.le_refl _, Nat.le_add_right _ _⟩ ⟨rfl, ⟨m_30, q_74, by rw [(EN34 (by have := (hX.e h9).2.2.2.2.2.2.1.1; omega) nx9 x_30 y_30 (by omega) (by omega) w_58.2.2.1.1 hey).1 (by omega)]; exact x_74⟩⟩
          · refine tz_aload_n (pc := 84) dX5_readEntry_84 rfl rfl ?_
            refine tz_fR (pc := 85) dX5_readEntry_85 fl_X5_38 r_163_1 ?_
            refine tz_fR (pc := 88) dX5_readEntry_88 fl_X5_138 r_5_1 ?_
            refine tz_iload_n (pc := 91) dX5_readEntry_91 rfl rfl ?_
            have w_92 := (q_74).1.2.2.1.1
            refine tz_cV (pc := 92) (c_addEntry hl n _ _ (by omega) w_92.2.2.1) vl_X5_165 dX5_readEntry_92 o_18 rfl rfl (Nat.le_of_ble_eq_true rfl) ⟨(Nat.le_of_ble_eq_true rfl), (Nat.le_of_ble_eq_true rfl)⟩ rfl rfl (Nat.le_of_ble_eq_true rfl) (Nat.le_of_ble_eq_true rfl) (fun r9 J_92 hq9 => ?_)
            obtain ⟨rfl, j_92⟩ := hq9
            have k_92 : zOf (zbut [19]) J_92 J_74 := by rw [← j_92]; exact zof_aE
            have q_92 := RQ6.led q_74 k_92 (by rw [← j_92]; exact (q_74).1.2.2.1.aE (by omega))
            exact tz_vret (pc := 95) dX5_readEntry_95 rfl (Nat.le_of_ble_eq_true rfl) (Nat.le_of_ble_eq_true rfl) ⟨Nat.le_refl _, Nat.le_add_right _ _⟩ ⟨rfl, (False.elim (by omega))⟩
  · refine tz_aload_n (pc := 17) dX5_readEntry_17 rfl rfl ?_
    refine tz_iconst (pc := 18) dX5_readEntry_18 ?_
    refine tz_cV (pc := 19) (w_fail hl n _ _ (by decide) g (by decide) hX) vl_X5_97 dX5_readEntry_19 o_163 rfl rfl (Nat.le_of_ble_eq_true rfl) ⟨(Nat.le_of_ble_eq_true rfl), (Nat.le_of_ble_eq_true rfl)⟩ rfl rfl (Nat.le_of_ble_eq_true rfl) (Nat.le_of_ble_eq_true rfl) (fun r9 J_19 hq9 => ?_)
    obtain ⟨z_19, rfl, hz_19, g_19, d_19, e_19, v_19, x_19⟩ := hq9
    have q_19 := RQ6.rn g0 g_19 (d_19 (g0).1.2.2.2)
    refine tz_pop (pc := 22) dX5_readEntry_22 rfl ?_
    exact tz_vret (pc := 23) dX5_readEntry_23 rfl (Nat.le_of_ble_eq_true rfl) (Nat.le_of_ble_eq_true rfl) ⟨Nat.le_refl _, Nat.le_add_right _ _⟩ ⟨rfl, ⟨m, q_19, by rw [pEn_2 (by have := (hX.e h9).2.2.2.2.2.2.1.1; omega) h9]; exact x_19⟩⟩

end
section
/-! ===== the class follows the reading: rules (lemmas) ===== -/
theorem pRu_2 {g : zJ} (h : ¬ g 165 135 < 8) (h9 : g 0 4 = 0) : pP (pRu g) 59 = pFx g 2 := by
  unfold pRu pFx
  rw [if_neg h, if_pos h9, pP_f (by show ¬ (2 : Int) = 0; decide)]
theorem ET.rul {J S : zJ} {x y : Int} (E : ET J S) (h4 : 0 ≤ J 19 4 ∧ J 19 4 < 8) (h5 : 0 ≤ J 19 5 ∧ J 19 5 ≤ 12) : ET (zaR J x y) (zrl S 126 x y) := by
  obtain ⟨E1, E2, ⟨E4, E5⟩, ⟨E6, E7⟩, E8⟩ := E
  unfold zaR
  rw [if_pos h4.2]
  have e : ∀ k, zup (zup (zup (zup J 19 (15 + J 19 4) x) 19 (23 + J 19 4) y) 19 4 (J 19 4 + 1)) 19 6 0 19 k = if k = 6 then 0 else if k = 4 then J 19 4 + 1 else if k = 23 + J 19 4 then y else if k = 15 + J 19 4 then x else J 19 k := fun _ => rfl
  have e' : ∀ k, zrl S 126 x y 165 k = if k = 135 then S 165 135 + 1 else if k = 136 + 2 * S 165 135 + 1 then y else if k = 136 + 2 * S 165 135 then x else S 165 k := fun _ => rfl
  refine ⟨E1, ?_, ⟨?_, fun i p q => ?_⟩, ⟨?_, fun i p q => ?_⟩, ?_⟩
  · rw [e' 126, if_neg (by decide), if_neg (by omega), if_neg (by omega)]
    exact E2
  · rw [e, e', if_neg (by omega), if_pos rfl, if_pos rfl]
    omega
  · rw [e', if_pos rfl] at q
    rw [e, e, e', e']
    by_cases c : i = J 19 4
    · refine ⟨?_, ?_⟩
      · rw [if_neg (by omega), if_neg (by omega), if_neg (by omega), if_pos (by omega), if_neg (by omega), if_neg (by omega), if_pos (by omega)]
      · rw [if_neg (by omega), if_neg (by omega), if_pos (by omega), if_neg (by omega), if_pos (by omega)]
    · have q5 := E5 i p (by omega)
      rw [if_neg (by omega), if_neg (by omega), if_neg (by omega), if_neg (by omega), if_neg (by omega), if_neg (by omega), if_neg (by omega), if_neg (by omega), if_neg (by omega), if_neg (by omega), if_neg (by omega), if_neg (by omega), if_neg (by omega), if_neg (by omega)]
      exact q5
  · rw [e, e', if_neg (by omega), if_neg (by omega), if_neg (by omega), if_neg (by omega), if_neg (by omega), if_neg (by omega), if_neg (by omega)]
    exact E6
  · rw [e', if_neg (by omega), if_neg (by omega), if_neg (by omega)] at q
    rw [e, e', if_neg (by omega), if_neg (by omega), if_neg (by omega), if_neg (by omega), if_neg (by omega), if_neg (by omega), if_neg (by omega)]
    exact E7 i p q
  · exact ⟨by rw [e, e', if_neg (by omega), if_neg (by omega), if_neg (by omega), if_neg (by omega), if_neg (by omega), if_neg (by omega), if_neg (by omega)]; exact E8.1, ⟨by rw [e, e', if_neg (by omega), if_neg (by omega), if_neg (by omega), if_neg (by omega), if_neg (by omega), if_neg (by omega), if_neg (by omega)]; exact E8.2.1.1, by rw [e, e', if_neg (by omega), if_neg (by omega), if_neg (by omega), if_neg (by omega), if_neg (by omega), if_neg (by omega), if_neg (by omega)]; exact E8.2.1.2.1, by rw [e, if_pos rfl]⟩, fun v a b => by rw [e, e', if_neg (by omega), if_neg (by omega), if_neg (by omega), if_neg (by omega), if_neg (by omega), if_neg (by omega), if_neg (by omega)]; exact E8.2.2 v a b⟩
theorem cru_et {J S : zJ} {m u t : Int} (E : ET J S) (C : CT J m) (hm : J 6 12 = m) (hu : 0 ≤ u ∧ u < m) (ht : 0 ≤ t ∧ t < m) : mru S 800 10 u t ↔ cru J u t := by
  obtain ⟨⟨e1, e0⟩, ⟨e6, E2, E3⟩, _⟩ := E
  have h6 : ∀ t, 0 ≤ t → t < m → S 166 (800 + t) = J 7 t := fun t a c => (E2 t a (by omega)).1.symm
  have ha : ∀ t, 0 ≤ t → t < m → mar S 800 10 t = J 8 t := fun t a c => by
    have h7 := (C.ar a c).2.2
    unfold mar
    rw [h6 t a c, (C.2.1 t a c).1.1]
    exact arh_cg (fun q => ((e0 _ q (by omega)).2.1).symm)
  have hg : ∀ t, 0 ≤ t → t < m → ∀ i, 0 ≤ i → i < J 8 t → mag S 800 t i = cag J t i := fun t a c i x y => (E3 t i a (by omega) x y).symm
  have hgw : ∀ t, 0 ≤ t → t < m → mgw S 800 10 t = cgw J t := fun t a c => by
    have h7 := (C.ar a c).2.2
    unfold mgw cgw
    rw [h6 t a c]
    split
    · rfl
    · exact ((e0 _ (by omega) (by omega)).2.2).symm
  have hgc : ∀ v t, 0 ≤ t → t < m → mgc S 800 v t = cgc J v t := fun v t a c => by
    unfold mgc cgc
    rw [h6 t a c]
  have hw : ∀ t, 0 ≤ t → t < m → mwt S 800 10 t = cwt J t := fun t a c => sV_cg C.td hgw ha hg 6 t ⟨a, c⟩
  have hc : ∀ v t, 0 ≤ v → v < 8 → 0 ≤ t → t < m → mcn S 800 10 v t = ccn J v t := fun v t _ _ a c => sV_cg C.td (hgc v) ha hg 6 t ⟨a, c⟩
  have td' : TD m (mar S 800 10) (mag S 800) (J 12) := fun t x y => by
    obtain ⟨a, b, c⟩ := C.td t x y
    refine ⟨by rw [ha t x y]; exact a, b, fun i p q => ?_⟩
    rw [ha t x y] at q
    rw [hg t x y i p q]
    exact c i p q
  have hz : ∀ t, 0 ≤ t → t < m → msz S 800 10 t = J 10 t := fun t a c => by
    have h12 := (C.td t a c).2.1
    rw [C.sz ⟨a, c⟩]
    exact (tsz_sS td' 6 t ⟨a, c⟩ (by omega)).trans (sV_cg C.td (fun _ _ _ => rfl) ha hg 6 t ⟨a, c⟩)
  have hx : ∀ s t, 0 ≤ s → s < m → 0 ≤ t → t < m → J 7 s = J 7 t → J 8 s = J 8 t := fun s t a b c d e => by rw [(C.2.1 s a b).1.1, (C.2.1 t c d).1.1, e]
  have hgt := gtP_cg (cn := ccn J) (cn' := mcn S 800 10) (wt := cwt J) (wt' := mwt S 800 10) (hd := J 7) (hd' := fun t => S 166 (800 + t)) C.td hc hw h6 ha hg hx 6 u t hu ht
  unfold mru mgt cru cgt
  rw [h6 u hu.1 hu.2, hz u hu.1 hu.2, hz t ht.1 ht.2]
  exact ⟨fun ⟨a, b, c⟩ => ⟨a, hgt.1 b, c⟩, fun ⟨a, b, c⟩ => ⟨a, hgt.2 b, c⟩⟩
end
section
/-! ===== the class follows the reading: rules ===== -/
theorem XC.or {J' J g : zJ} (h : XC J g) (f : zOf (zbut [156, 157]) J' J) : XC J' g := by
  unfold XC RelC EC ET
  rw [f 163 rfl, f 162 rfl, f 1 rfl, f 2 rfl, f 3 rfl, f 4 rfl, f 6 rfl, f 7 rfl, f 8 rfl, f 12 rfl, f 9 rfl, f 19 rfl]
  exact h
theorem pT_z {k : Nat} {g : zJ} {d : Int} (h : (pT k g d).1 0 4 = 0) : g 0 4 = 0 := Classical.byContradiction (fun q => by rw [pT_f q] at h; exact q h)
theorem pTo_z {g : zJ} (h : (pTo g) 0 4 = 0) : g 0 4 = 0 := Classical.byContradiction (fun q => by rw [pTo_f q] at h; exact q h)
theorem pR2_z {g : zJ} (h : (pR2 g).1 0 4 = 0) : (pR1 g).1 0 4 = 0 := pTo_z (pT_z h)
theorem pR2_x {g : zJ} (nx9 : pNx g = pN g) : pT 8 (pTo (pT 8 (pNx g) 1).1) 1 = pR2 g := by rw [nx9]; rfl
theorem RU12 {Jt g : zJ} (h : g 165 135 < 8) (nx9 : pNx g = pN g) (x : XC Jt (pT 8 (pTo (pT 8 (pNx g) 1).1) 1).1) (hp : ¬ Jt 163 8 = 0 ∨ ¬ Jt 163 5 = 59) : pP (pRu g) 59 = pP (pT 8 (pTo (pT 8 (pNx g) 1).1) 1).1 59 := by
  rw [pR2_x nx9] at x ⊢
  unfold pRu
  rw [if_pos h]
  by_cases q : (pR2 g).1 0 4 = 0
  · have z := x.z q
    rcases x.k z with p | ⟨_, e3, _⟩
    · omega
    · rw [if_pos q, if_neg (by omega), pP_e q (by omega), pP_f (by show ¬ (1 : Int) = 0; decide)]
  · rw [if_neg q]
theorem RU34 {Jt g : zJ} {m u t : Int} (h : g 165 135 < 8) (nx9 : pNx g = pN g) (x : XC Jt (pT 8 (pTo (pT 8 (pNx g) 1).1) 1).1) (v1 : VQ u (pT 8 (pNx g) 1)) (v2 : VQ t (pT 8 (pTo (pT 8 (pNx g) 1).1) 1)) (h8 : Jt 163 8 = 0) (h5 : Jt 163 5 = 59) (C : CT Jt m) (hm : Jt 6 12 = m) (hu : 0 ≤ u ∧ u < m) (ht : 0 ≤ t ∧ t < m) : (¬ cru Jt u t → pP (pRu g) 59 = pP (pFx (pT 8 (pTo (pT 8 (pNx g) 1).1) 1).1 5) 59) ∧ (cru Jt u t → pRu g = if (pT 8 (pTo (pT 8 (pNx g) 1).1) 1).1 0 4 = 0 then zrl (pT 8 (pTo (pT 8 (pNx g) 1).1) 1).1 126 u t else (pT 8 (pTo (pT 8 (pNx g) 1).1) 1).1) := by
  rw [pR2_x nx9] at x v2 ⊢
  have v1 : VQ u (pR1 g) := by unfold pR1; rw [← nx9]; exact v1
  have hk := x.k h8
  unfold pRu pFx
  rw [if_pos h]
  rcases hk with p | ⟨q, e3, _, _, _, E⟩
  · have q : ¬ (pR2 g).1 0 4 = 0 := by omega
    rw [if_neg q, if_neg q, if_neg q]
    exact ⟨fun _ => rfl, fun _ => rfl⟩
  · have w := cru_et E.2.2.2 C hm hu ht
    rw [if_pos q, if_pos q, if_pos q, if_pos (by omega), ← v2 q, ← v1 (pR2_z q)]
    exact ⟨fun k => by rw [cif_neg (fun y => k (w.1 y))], fun k => by rw [cif_pos (w.2 k)]⟩
set_option maxHeartbeats 4000000 in
set_option maxRecDepth 100000 in
theorem w_readRule {l : Launch} {G : tb_G} (hl : l.stackTraces = false) (n : Nat) (J : zJ)   (m : Int) (g : zJ) (hnb : n ≤ tb_sc) (C : CT J m) (hm : J 6 12 = m) (hL : LI (J 19) m) (hD : RD2 J) (hX : XC J g) (hS : SI g) (h9 : g 0 4 = 0) (h3 : J 156 3 = -1) : tz_Ok l G M_X5_readRule 35 0 0 [.ref 163] n J (zqv (fun J' => ∃ m', RQ6 J' J m m' ∧ XC J' (pP (pRu g) 59))) zN := by
  refine tz_Ok.of hl (by decide +kernel) rfl (tb_c1 rfl) (Nat.le_of_ble_eq_true rfl) ?_
  show tz_At l G M_X5_readRule (tb_rm 35 0 0) none (tb_ZM G 0 0 (zQ n 0 (zqv (fun J' => ∃ m', RQ6 J' J m m' ∧ XC J' (pP (pRu g) 59)))) (zX n 0 zN)) 0 0 n J 0 [some (.ref 163), none, none] []
  have g0 : RQ6 J J m m := RQ6.rf C hm hL hD
  have h8 := hX.z h9
  have nx9 : pNx g = pN g := by unfold pNx; rw [if_pos h9]
  have h4 := hL.1.2.1
  refine tz_aload_n (pc := 0) dX5_readRule_0 rfl rfl ?_
  refine tz_fR (pc := 1) dX5_readRule_1 fl_X5_38 r_163_1 ?_
  refine tz_fR (pc := 4) dX5_readRule_4 fl_X5_138 r_5_1 ?_
  refine tz_fR (pc := 7) dX5_readRule_7 fl_X5_142 r_18_0 ?_
  refine tz_iconst (pc := 10) dX5_readRule_10 ?_
  refine tz_aL (pc := 11) (z := 4) (v := (J 19 4)) dX5_readRule_11 a_19 rfl (by decide) rfl (fun r_11 => ?_)
  refine tz_bipush (pc := 12) dX5_readRule_12 (by decide) ?_
  refine tz_icmp_lt (pc := 14) (tgt := 24) dX5_readRule_14 (by decide) (by omega) (by decide) (fun h_14 => ?_) (fun h_14 => ?_)
  · refine tz_aload_n (pc := 24) dX5_readRule_24 rfl rfl ?_
    have b_25 := (g0).1.2.2.2
    obtain ⟨⟨⟨b1_25, b2_25⟩, b3_25, b4_25⟩, b5_25⟩ := id b_25
    have t_25 := (g0).1.1.told
    refine tz_cV (pc := 25) (w_next hl n _ g b_25 hX (by omega)) vl_X5_65 dX5_readRule_25 o_163 rfl rfl (Nat.le_of_ble_eq_true rfl) ⟨(Nat.le_of_ble_eq_true rfl), (Nat.le_of_ble_eq_true rfl)⟩ rfl rfl (Nat.le_of_ble_eq_true rfl) (Nat.le_of_ble_eq_true rfl) (fun r9 J_25 hq9 => ?_)
    obtain ⟨rfl, g_25, d_25, v_25, x_25⟩ := hq9
    have q_25 := RQ6.rn g0 g_25 d_25
    have f_25 := g_25.2.2
    refine tz_aload_n (pc := 28) dX5_readRule_28 rfl rfl ?_
    refine tz_iconst (pc := 29) dX5_readRule_29 ?_
    refine tz_cV (pc := 30) (w_readTerm hl n _ m (pNx g) (q_25).1.1 (q_25).1.2.1 (q_25).1.2.2.2 x_25 (SI.nx hS)) vl_X5_113 dX5_readRule_30 o_163 rfl rfl (Nat.le_of_ble_eq_true rfl) ⟨(Nat.le_of_ble_eq_true rfl), (Nat.le_of_ble_eq_true rfl)⟩ rfl rfl (Nat.le_of_ble_eq_true rfl) (Nat.le_of_ble_eq_true rfl) (fun r9 J_30 hq9 => ?_)
    obtain ⟨z_30, rfl, hz_30, m_30, g_30, u_30, x_30, y_30⟩ := hq9
    have q_30 := RQ6.rt q_25 g_30
    have f_30 := g_30.2.2
    have l_30 := g_30.1.1
    refine tz_istore_n (pc := 33) (L2 := [_, _, _]) dX5_readRule_33 rfl (by decide) rfl ?_
    refine tz_aload_n (pc := 34) dX5_readRule_34 rfl rfl ?_
    have b_35 := (q_30).1.2.2.2
    obtain ⟨⟨⟨b1_35, b2_35⟩, b3_35, b4_35⟩, b5_35⟩ := id b_35
    have t_35 := (q_30).1.1.told
    refine tz_cV (pc := 35) (w_passTo hl n _ (pT 8 (pNx g) 1).1 hnb b_35 x_30 (SI.t 8 _ 1 (SI.nx hS))) vl_X5_147 dX5_readRule_35 o_163 rfl rfl (Nat.le_of_ble_eq_true rfl) ⟨(Nat.le_of_ble_eq_true rfl), (Nat.le_of_ble_eq_true rfl)⟩ rfl rfl (Nat.le_of_ble_eq_true rfl) (Nat.le_of_ble_eq_true rfl) (fun r9 J_35 hq9 => ?_)
    obtain ⟨rfl, g_35, d_35, x_35⟩ := hq9
    have q_35 := RQ6.rn q_30 g_35 d_35
    have f_35 := g_35.2.2
    refine tz_aload_n (pc := 38) dX5_readRule_38 rfl rfl ?_
    refine tz_iconst (pc := 39) dX5_readRule_39 ?_
    refine tz_cV (pc := 40) (w_readTerm hl n _ m_30 (pTo (pT 8 (pNx g) 1).1) (q_35).1.1 (q_35).1.2.1 (q_35).1.2.2.2 x_35 (SI.to (SI.t 8 _ 1 (SI.nx hS)))) vl_X5_113 dX5_readRule_40 o_163 rfl rfl (Nat.le_of_ble_eq_true rfl) ⟨(Nat.le_of_ble_eq_true rfl), (Nat.le_of_ble_eq_true rfl)⟩ rfl rfl (Nat.le_of_ble_eq_true rfl) (Nat.le_of_ble_eq_true rfl) (fun r9 J_40 hq9 => ?_)
    obtain ⟨z_40, rfl, hz_40, m_40, g_40, u_40, x_40, y_40⟩ := hq9
    have q_40 := RQ6.rt q_35 g_40
    have f_40 := g_40.2.2
    have l_40 := g_40.1.1
    refine tz_istore_n (pc := 43) (L2 := [_, _, _]) dX5_readRule_43 rfl (by decide) rfl ?_
    refine tz_aload_n (pc := 44) dX5_readRule_44 rfl rfl ?_
    refine tz_fI (pc := 45) (kz := 8) (v := (J_40 163 8)) dX5_readRule_45 fl_X5_24 i_163_8 rfl rfl (fun r_45 => ?_)
    refine tz_if_ne (pc := 48) (tgt := 78) dX5_readRule_48 (by decide) (by omega) (fun h_48 => ?_) (fun h_48 => ?_)
    · refine tz_aload_n (pc := 78) dX5_readRule_78 rfl rfl ?_
      refine tz_bipush (pc := 79) dX5_readRule_79 (by decide) ?_
      have b_81 := (q_40).1.2.2.2
      obtain ⟨⟨⟨b1_81, b2_81⟩, b3_81, b4_81⟩, b5_81⟩ := id b_81
      have t_81 := (q_40).1.1.told
      refine tz_cV (pc := 81) (w_pass hl n _ _ (by decide) (pT 8 (pTo (pT 8 (pNx g) 1).1) 1).1 b_81 x_40 (SI.t 8 _ 1 (SI.to (SI.t 8 _ 1 (SI.nx hS))))) vl_X5_116 dX5_readRule_81 o_163 rfl rfl (Nat.le_of_ble_eq_true rfl) ⟨(Nat.le_of_ble_eq_true rfl), (Nat.le_of_ble_eq_true rfl)⟩ rfl rfl (Nat.le_of_ble_eq_true rfl) (Nat.le_of_ble_eq_true rfl) (fun r9 J_81 hq9 => ?_)
      obtain ⟨rfl, g_81, d_81, x_81⟩ := hq9
      have q_81 := RQ6.rn q_40 g_81 d_81
      have f_81 := g_81.2.2
      refine tz_aload_n (pc := 84) dX5_readRule_84 rfl rfl ?_
      refine tz_fI (pc := 85) (kz := 8) (v := (J_81 163 8)) dX5_readRule_85 fl_X5_24 i_163_8 rfl rfl (fun r_85 => ?_)
      refine tz_if_ne (pc := 88) (tgt := 103) dX5_readRule_88 (by decide) (by omega) (fun h_88 => ?_) (fun h_88 => ?_)
      · exact tz_vret (pc := 103) dX5_readRule_103 rfl (Nat.le_of_ble_eq_true rfl) (Nat.le_of_ble_eq_true rfl) ⟨Nat.le_refl _, Nat.le_add_right _ _⟩ ⟨rfl, ⟨m_40, q_81, by rw [RU12 (by have := (hX.e h9).2.2.2.2.2.1.1; omega) nx9 x_40 (by omega)]; exact x_81⟩⟩
      · refine tz_aload_n (pc := 91) dX5_readRule_91 rfl rfl ?_
        refine tz_fR (pc := 92) dX5_readRule_92 fl_X5_38 r_163_1 ?_
        refine tz_fR (pc := 95) dX5_readRule_95 fl_X5_138 r_5_1 ?_
        refine tz_iload_n (pc := 98) dX5_readRule_98 rfl rfl ?_
        refine tz_iload_n (pc := 99) dX5_readRule_99 rfl rfl ?_
        have w_100 := (q_81).1.2.2.1.1
        refine tz_cV (pc := 100) (c_addRule hl n _ _ _ (by omega) (by omega) w_100.2.1) vl_X5_156 dX5_readRule_100 o_18 rfl rfl (Nat.le_of_ble_eq_true rfl) ⟨(Nat.le_of_ble_eq_true rfl), (Nat.le_of_ble_eq_true rfl)⟩ rfl rfl (Nat.le_of_ble_eq_true rfl) (Nat.le_of_ble_eq_true rfl) (fun r9 J_100 hq9 => ?_)
        obtain ⟨rfl, j_100⟩ := hq9
        have k_100 : zOf (zbut [19]) J_100 J_81 := by rw [← j_100]; exact zof_aR
        have q_100 := RQ6.led q_81 k_100 (by rw [← j_100]; exact (q_81).1.2.2.1.aR (by omega) (by omega))
        exact tz_vret (pc := 103) dX5_readRule_103 rfl (Nat.le_of_ble_eq_true rfl) (Nat.le_of_ble_eq_true rfl) ⟨Nat.le_refl _, Nat.le_add_right _ _⟩ ⟨rfl, ⟨m_40, q_100, by rw [RU12 (by have := (hX.e h9).2.2.2.2.2.1.1; omega) nx9 x_40 (by omega)]; exact XC.p59 x_40 (by omega) x_81 (by omega) f_81⟩⟩
    · refine tz_aload_n (pc := 51) dX5_readRule_51 rfl rfl ?_
      refine tz_fI (pc := 52) (kz := 5) (v := (J_40 163 5)) dX5_readRule_52 fl_X5_15 i_163_5 rfl rfl (fun r_52 => ?_)
      refine tz_bipush (pc := 55) dX5_readRule_55 (by decide) ?_
      refine tz_icmp_ne (pc := 57) (tgt := 78) dX5_readRule_57 (by decide) (by omega) (by decide) (fun h_57 => ?_) (fun h_57 => ?_)
      · refine tz_aload_n (pc := 78) dX5_readRule_78 rfl rfl ?_
        refine tz_bipush (pc := 79) dX5_readRule_79 (by decide) ?_
        have b_81 := (q_40).1.2.2.2
        obtain ⟨⟨⟨b1_81, b2_81⟩, b3_81, b4_81⟩, b5_81⟩ := id b_81
        have t_81 := (q_40).1.1.told
        refine tz_cV (pc := 81) (w_pass hl n _ _ (by decide) (pT 8 (pTo (pT 8 (pNx g) 1).1) 1).1 b_81 x_40 (SI.t 8 _ 1 (SI.to (SI.t 8 _ 1 (SI.nx hS))))) vl_X5_116 dX5_readRule_81 o_163 rfl rfl (Nat.le_of_ble_eq_true rfl) ⟨(Nat.le_of_ble_eq_true rfl), (Nat.le_of_ble_eq_true rfl)⟩ rfl rfl (Nat.le_of_ble_eq_true rfl) (Nat.le_of_ble_eq_true rfl) (fun r9 J_81 hq9 => ?_)
        obtain ⟨rfl, g_81, d_81, x_81⟩ := hq9
        have q_81 := RQ6.rn q_40 g_81 d_81
        have f_81 := g_81.2.2
        refine tz_aload_n (pc := 84) dX5_readRule_84 rfl rfl ?_
        refine tz_fI (pc := 85) (kz := 8) (v := (J_81 163 8)) dX5_readRule_85 fl_X5_24 i_163_8 rfl rfl (fun r_85 => ?_)
        refine tz_if_ne (pc := 88) (tgt := 103) dX5_readRule_88 (by decide) (by omega) (fun h_88 => ?_) (fun h_88 => ?_)
        · exact tz_vret (pc := 103) dX5_readRule_103 rfl (Nat.le_of_ble_eq_true rfl) (Nat.le_of_ble_eq_true rfl) ⟨Nat.le_refl _, Nat.le_add_right _ _⟩ ⟨rfl, ⟨m_40, q_81, by rw [RU12 (by have := (hX.e h9).2.2.2.2.2.1.1; omega) nx9 x_40 (by omega)]; exact x_81⟩⟩
        · refine tz_aload_n (pc := 91) dX5_readRule_91 rfl rfl ?_
          refine tz_fR (pc := 92) dX5_readRule_92 fl_X5_38 r_163_1 ?_
          refine tz_fR (pc := 95) dX5_readRule_95 fl_X5_138 r_5_1 ?_
          refine tz_iload_n (pc := 98) dX5_readRule_98 rfl rfl ?_
          refine tz_iload_n (pc := 99) dX5_readRule_99 rfl rfl ?_
          have w_100 := (q_81).1.2.2.1.1
          refine tz_cV (pc := 100) (c_addRule hl n _ _ _ (by omega) (by omega) w_100.2.1) vl_X5_156 dX5_readRule_100 o_18 rfl rfl (Nat.le_of_ble_eq_true rfl) ⟨(Nat.le_of_ble_eq_true rfl), (Nat.le_of_ble_eq_true rfl)⟩ rfl rfl (Nat.le_of_ble_eq_true rfl) (Nat.le_of_ble_eq_true rfl) (fun r9 J_100 hq9 => ?_)
          obtain ⟨rfl, j_100⟩ := hq9
          have k_100 : zOf (zbut [19]) J_100 J_81 := by rw [← j_100]; exact zof_aR
          have q_100 := RQ6.led q_81 k_100 (by rw [← j_100]; exact (q_81).1.2.2.1.aR (by omega) (by omega))
          exact tz_vret (pc := 103) dX5_readRule_103 rfl (Nat.le_of_ble_eq_true rfl) (Nat.le_of_ble_eq_true rfl) ⟨Nat.le_refl _, Nat.le_add_right _ _⟩ ⟨rfl, ⟨m_40, q_100, by rw [RU12 (by have := (hX.e h9).2.2.2.2.2.1.1; omega) nx9 x_40 (by omega)]; exact XC.p59 x_40 (by omega) x_81 (by omega) f_81⟩⟩
      · refine tz_aload_n (pc := 60) dX5_readRule_60 rfl rfl ?_
        refine tz_fR (pc := 61) dX5_readRule_61 fl_X5_55 r_163_3 ?_
        refine tz_iload_n (pc := 64) dX5_readRule_64 rfl rfl ?_
        refine tz_iload_n (pc := 65) dX5_readRule_65 rfl rfl ?_
        have v_66 : (0 ≤ z_30 ∧ z_30 < m_40) ∧ (0 ≤ z_40 ∧ z_40 < m_40) := by omega
        refine tz_cV (pc := 66) (x_isRule9 hl n _ _ _ (by omega) (by omega) m_40 (q_40).1.1 (q_40).1.2.1 v_66.1 v_66.2 ((q_40).2.2.trans h3)) vl_X5_150 dX5_readRule_66 o_155 rfl rfl (Nat.le_of_ble_eq_true rfl) ⟨(Nat.le_of_ble_eq_true rfl), (Nat.le_of_ble_eq_true rfl)⟩ rfl rfl (Nat.le_of_ble_eq_true rfl) (Nat.le_of_ble_eq_true rfl) (fun r9 J_66 hq9 => ?_)
        obtain ⟨z_66, rfl, hz_66, i_66, r_66, s_66⟩ := hq9
        have q_66 := RQ6.or q_40 r_66 (s_66 3 (by decide))
        have x_66 := XC.or x_40 r_66
        have e_66 := congrFun (r_66 163 rfl) 8
        refine tz_if_ne (pc := 69) (tgt := 78) dX5_readRule_69 (by decide) (by omega) (fun h_69 => ?_) (fun h_69 => ?_)
        · refine tz_aload_n (pc := 78) dX5_readRule_78 rfl rfl ?_
          refine tz_bipush (pc := 79) dX5_readRule_79 (by decide) ?_
          have b_81 := (q_66).1.2.2.2
          obtain ⟨⟨⟨b1_81, b2_81⟩, b3_81, b4_81⟩, b5_81⟩ := id b_81
          have t_81 := (q_66).1.1.told
          refine tz_cV (pc := 81) (w_pass hl n _ _ (by decide) (pT 8 (pTo (pT 8 (pNx g) 1).1) 1).1 b_81 x_66 (id (SI.t 8 _ 1 (SI.to (SI.t 8 _ 1 (SI.nx hS)))))) vl_X5_116 dX5_readRule_81 o_163 rfl rfl (Nat.le_of_ble_eq_true rfl) ⟨(Nat.le_of_ble_eq_true rfl), (Nat.le_of_ble_eq_true rfl)⟩ rfl rfl (Nat.le_of_ble_eq_true rfl) (Nat.le_of_ble_eq_true rfl) (fun r9 J_81 hq9 => ?_)
          obtain ⟨rfl, g_81, d_81, x_81⟩ := hq9
          have q_81 := RQ6.rn q_66 g_81 d_81
          have f_81 := g_81.2.2
          refine tz_aload_n (pc := 84) dX5_readRule_84 rfl rfl ?_
          refine tz_fI (pc := 85) (kz := 8) (v := (J_81 163 8)) dX5_readRule_85 fl_X5_24 i_163_8 rfl rfl (fun r_85 => ?_)
          refine tz_if_ne (pc := 88) (tgt := 103) dX5_readRule_88 (by decide) (by omega) (fun h_88 => ?_) (fun h_88 => ?_)
          · exact tz_vret (pc := 103) dX5_readRule_103 rfl (Nat.le_of_ble_eq_true rfl) (Nat.le_of_ble_eq_true rfl) ⟨Nat.le_refl _, Nat.le_add_right _ _⟩ ⟨rfl, ⟨m_40, q_81, by rw [(RU34 (by have := (hX.e h9).2.2.2.2.2.1.1; omega) nx9 x_40 y_30 y_40 (by omega) (by omega) (q_40).1.1 (q_40).1.2.1 v_66.1 v_66.2).2 ((i_66.resolve_right (fun p => by have := p.1; omega)).2)]; exact XC.addf x_81 (by omega) rfl⟩⟩
          · refine tz_aload_n (pc := 91) dX5_readRule_91 rfl rfl ?_
            refine tz_fR (pc := 92) dX5_readRule_92 fl_X5_38 r_163_1 ?_
            refine tz_fR (pc := 95) dX5_readRule_95 fl_X5_138 r_5_1 ?_
            refine tz_iload_n (pc := 98) dX5_readRule_98 rfl rfl ?_
            refine tz_iload_n (pc := 99) dX5_readRule_99 rfl rfl ?_
            have w_100 := (q_81).1.2.2.1.1
            refine tz_cV (pc := 100) (c_addRule hl n _ _ _ (by omega) (by omega) w_100.2.1) vl_X5_156 dX5_readRule_100 o_18 rfl rfl (Nat.le_of_ble_eq_true rfl) ⟨(Nat.le_of_ble_eq_true rfl), (Nat.le_of_ble_eq_true rfl)⟩ rfl rfl (Nat.le_of_ble_eq_true rfl) (Nat.le_of_ble_eq_true rfl) (fun r9 J_100 hq9 => ?_)
            obtain ⟨rfl, j_100⟩ := hq9
            have k_100 : zOf (zbut [19]) J_100 J_81 := by rw [← j_100]; exact zof_aR
            have q_100 := RQ6.led q_81 k_100 (by rw [← j_100]; exact (q_81).1.2.2.1.aR (by omega) (by omega))
            exact tz_vret (pc := 103) dX5_readRule_103 rfl (Nat.le_of_ble_eq_true rfl) (Nat.le_of_ble_eq_true rfl) ⟨Nat.le_refl _, Nat.le_add_right _ _⟩ ⟨rfl, ⟨m_40, q_100, by rw [(RU34 (by have := (hX.e h9).2.2.2.2.2.1.1; omega) nx9 x_40 y_30 y_40 (by omega) (by omega) (q_40).1.1 (q_40).1.2.1 v_66.1 v_66.2).2 ((i_66.resolve_right (fun p => by have := p.1; omega)).2), ← j_100]; exact XC.addz x_81 (by omega) rfl rfl (fun k _ => congrFun (zof_aR (J := J_81) (x := z_30) (y := z_40) 163 rfl) k) (zof_aR 162 rfl) (fun _ r E => ⟨(congrFun (zof_aR (J := J_81) (x := z_30) (y := z_40) 163 rfl) 10).trans r, E.rul ⟨w_100.2.1.1, by have e1 := congrFun ((g_81.1 19 rfl).trans ((r_66 19 rfl).trans ((g_40.1.2.2.2.2 19 rfl).trans ((g_35.1 19 rfl).trans ((g_30.1.2.2.2.2 19 rfl).trans (g_25.1 19 rfl)))))) 4; omega⟩ w_100.2.2.1⟩)⟩⟩
        · refine tz_aload_n (pc := 72) dX5_readRule_72 rfl rfl ?_
          refine tz_iconst (pc := 73) dX5_readRule_73 ?_
          refine tz_cV (pc := 74) (w_fail hl n _ _ (by decide) (pT 8 (pTo (pT 8 (pNx g) 1).1) 1).1 (by decide) x_66) vl_X5_97 dX5_readRule_74 o_163 rfl rfl (Nat.le_of_ble_eq_true rfl) ⟨(Nat.le_of_ble_eq_true rfl), (Nat.le_of_ble_eq_true rfl)⟩ rfl rfl (Nat.le_of_ble_eq_true rfl) (Nat.le_of_ble_eq_true rfl) (fun r9 J_74 hq9 => ?_)
          obtain ⟨z_74, rfl, hz_74, g_74, d_74, e_74, v_74, x_74⟩ := hq9
          have q_74 := RQ6.rn q_66 g_74 (d_74 (q_66).1.2.2.2)
          have f_74 := g_74.2.2
          refine tz_pop (pc := 77) dX5_readRule_77 rfl ?_
          refine tz_aload_n (pc := 78) dX5_readRule_78 rfl rfl ?_
          refine tz_bipush (pc := 79) dX5_readRule_79 (by decide) ?_
          have b_81 := (q_74).1.2.2.2
          obtain ⟨⟨⟨b1_81, b2_81⟩, b3_81, b4_81⟩, b5_81⟩ := id b_81
          have t_81 := (q_74).1.1.told
          refine tz_cV (pc := 81) (w_pass hl n _ _ (by decide) (pFx (pT 8 (pTo (pT 8 (pNx g) 1).1) 1).1 5) b_81 x_74 (SI.fx (id (SI.t 8 _ 1 (SI.to (SI.t 8 _ 1 (SI.nx hS))))))) vl_X5_116 dX5_readRule_81 o_163 rfl rfl (Nat.le_of_ble_eq_true rfl) ⟨(Nat.le_of_ble_eq_true rfl), (Nat.le_of_ble_eq_true rfl)⟩ rfl rfl (Nat.le_of_ble_eq_true rfl) (Nat.le_of_ble_eq_true rfl) (fun r9 J_81 hq9 => ?_)
          obtain ⟨rfl, g_81, d_81, x_81⟩ := hq9
          have q_81 := RQ6.rn q_74 g_81 d_81
          have f_81 := g_81.2.2
          refine tz_aload_n (pc := 84) dX5_readRule_84 rfl rfl ?_
          refine tz_fI (pc := 85) (kz := 8) (v := (J_81 163 8)) dX5_readRule_85 fl_X5_24 i_163_8 rfl rfl (fun r_85 => ?_)
          refine tz_if_ne (pc := 88) (tgt := 103) dX5_readRule_88 (by decide) (by omega) (fun h_88 => ?_) (fun h_88 => ?_)
          · exact tz_vret (pc := 103) dX5_readRule_103 rfl (Nat.le_of_ble_eq_true rfl) (Nat.le_of_ble_eq_true rfl) ⟨Nat.le_refl _, Nat.le_add_right _ _⟩ ⟨rfl, ⟨m_40, q_81, by rw [(RU34 (by have := (hX.e h9).2.2.2.2.2.1.1; omega) nx9 x_40 y_30 y_40 (by omega) (by omega) (q_40).1.1 (q_40).1.2.1 v_66.1 v_66.2).1 ((i_66.resolve_left (fun p => by have := p.1; omega)).2)]; exact x_81⟩⟩
          · refine tz_aload_n (pc := 91) dX5_readRule_91 rfl rfl ?_
            refine tz_fR (pc := 92) dX5_readRule_92 fl_X5_38 r_163_1 ?_
            refine tz_fR (pc := 95) dX5_readRule_95 fl_X5_138 r_5_1 ?_
            refine tz_iload_n (pc := 98) dX5_readRule_98 rfl rfl ?_
            refine tz_iload_n (pc := 99) dX5_readRule_99 rfl rfl ?_
            have w_100 := (q_81).1.2.2.1.1
            refine tz_cV (pc := 100) (c_addRule hl n _ _ _ (by omega) (by omega) w_100.2.1) vl_X5_156 dX5_readRule_100 o_18 rfl rfl (Nat.le_of_ble_eq_true rfl) ⟨(Nat.le_of_ble_eq_true rfl), (Nat.le_of_ble_eq_true rfl)⟩ rfl rfl (Nat.le_of_ble_eq_true rfl) (Nat.le_of_ble_eq_true rfl) (fun r9 J_100 hq9 => ?_)
            obtain ⟨rfl, j_100⟩ := hq9
            have k_100 : zOf (zbut [19]) J_100 J_81 := by rw [← j_100]; exact zof_aR
            have q_100 := RQ6.led q_81 k_100 (by rw [← j_100]; exact (q_81).1.2.2.1.aR (by omega) (by omega))
            exact tz_vret (pc := 103) dX5_readRule_103 rfl (Nat.le_of_ble_eq_true rfl) (Nat.le_of_ble_eq_true rfl) ⟨Nat.le_refl _, Nat.le_add_right _ _⟩ ⟨rfl, (False.elim (by omega))⟩
  · refine tz_aload_n (pc := 17) dX5_readRule_17 rfl rfl ?_
    refine tz_iconst (pc := 18) dX5_readRule_18 ?_
    refine tz_cV (pc := 19) (w_fail hl n _ _ (by decide) g (by decide) hX) vl_X5_97 dX5_readRule_19 o_163 rfl rfl (Nat.le_of_ble_eq_true rfl) ⟨(Nat.le_of_ble_eq_true rfl), (Nat.le_of_ble_eq_true rfl)⟩ rfl rfl (Nat.le_of_ble_eq_true rfl) (Nat.le_of_ble_eq_true rfl) (fun r9 J_19 hq9 => ?_)
    obtain ⟨z_19, rfl, hz_19, g_19, d_19, e_19, v_19, x_19⟩ := hq9
    have q_19 := RQ6.rn g0 g_19 (d_19 (g0).1.2.2.2)
    refine tz_pop (pc := 22) dX5_readRule_22 rfl ?_
    exact tz_vret (pc := 23) dX5_readRule_23 rfl (Nat.le_of_ble_eq_true rfl) (Nat.le_of_ble_eq_true rfl) ⟨Nat.le_refl _, Nat.le_add_right _ _⟩ ⟨rfl, ⟨m, q_19, by rw [pRu_2 (by have := (hX.e h9).2.2.2.2.2.1.1; omega) h9]; exact x_19⟩⟩

end
section
/-! ===== a text never comes to the end of the room ===== -/
/-- the tables of the reading, as far as depths go -/
def GT (g : zJ) : Prop := (0 ≤ g 164 44 ∧ 0 ≤ g 165 126 ∧ 0 ≤ g 165 135 ∧ 0 ≤ g 165 152) ∧ ∀ t, 0 ≤ t → t < g 165 126 → g 166 (800 + t) < g 164 44 ∧ g 168 (800 + t) = dpS (fun u => g 168 (800 + u)) (par g (g 166 (800 + t))) (g 167 (3 * (800 + t) + 0)) (g 167 (3 * (800 + t) + 1)) (g 167 (3 * (800 + t) + 2)) ∧ ((0 < par g (g 166 (800 + t)) → 0 ≤ g 167 (3 * (800 + t) + 0) ∧ g 167 (3 * (800 + t) + 0) < g 165 126) ∧ (1 < par g (g 166 (800 + t)) → 0 ≤ g 167 (3 * (800 + t) + 1) ∧ g 167 (3 * (800 + t) + 1) < g 165 126) ∧ (2 < par g (g 166 (800 + t)) → 0 ≤ g 167 (3 * (800 + t) + 2) ∧ g 167 (3 * (800 + t) + 2) < g 165 126))
/-- the table has grown -/
def GW (g' g : zJ) : Prop := g' 164 = g 164 ∧ g' 170 = g 170 ∧ g 165 126 ≤ g' 165 126 ∧ (∀ t, 0 ≤ t → t < g 165 126 → g' 168 (800 + t) = g 168 (800 + t)) ∧ g' 165 135 = g 165 135 ∧ g' 165 152 = g 165 152
theorem GW.rf {g : zJ} : GW g g := ⟨rfl, rfl, Int.le_refl _, fun _ _ _ => rfl, rfl, rfl⟩
theorem GW.tr {g3 g2 g1 : zJ} (h : GW g2 g1) (k : GW g3 g2) : GW g3 g1 := ⟨k.1.trans h.1, k.2.1.trans h.2.1, Int.le_trans h.2.2.1 k.2.2.1, fun t a b => (k.2.2.2.1 t a (Int.lt_of_lt_of_le b h.2.2.1)).trans (h.2.2.2.1 t a b), k.2.2.2.2.1.trans h.2.2.2.2.1, k.2.2.2.2.2.trans h.2.2.2.2.2⟩
theorem dpS_cj {f f' : Int → Int} {A x y w x' y' w' : Int} (h1 : 0 < A → f x = f' x') (h2 : 1 < A → f y = f' y') (h3 : 2 < A → f w = f' w') : dpS f A x y w = dpS f' A x' y' w' := by
  unfold dpS
  (repeat' split) <;> first | rfl | omega | skip
  · rw [h1 (by omega)]
  · rw [h1 (by omega), h2 (by omega)]
  · rw [h1 (by omega), h2 (by omega), h3 (by omega)]
theorem dpS_lj {f : Int → Int} {A x y w e : Int} (h0 : 1 ≤ e) (h1 : 0 < A → f x + 1 ≤ e) (h2 : 1 < A → f y + 1 ≤ e) (h3 : 2 < A → f w + 1 ≤ e) : dpS f A x y w ≤ e := by
  unfold dpS zmax
  (repeat' split) <;> omega
theorem GT.of {g' g : zJ} (h : GT g) (e4 : g' 164 44 = g 164 44) (e5 : g' 165 126 = g 165 126) (r1 : 0 ≤ g' 165 135) (r2 : 0 ≤ g' 165 152) (e6 : g' 166 = g 166) (e7 : g' 167 = g 167) (e8 : g' 168 = g 168) (e9 : g' 170 = g 170) : GT g' := by
  obtain ⟨⟨h1, h2, h3, h4⟩, h5⟩ := h
  unfold par at h5
  refine ⟨⟨by omega, by omega, r1, r2⟩, ?_⟩
  unfold par
  rw [e4, e5, e6, e7, e8, e9]
  exact h5
theorem GT.pd {g : zJ} {t h x y w : Int} (T : GT g) (ht : 0 ≤ t ∧ t < g 165 126) (e : nmT g 800 (par g h) h x y w t) : g 168 (800 + t) = pdp g h x y w := by
  obtain ⟨e0, e1, e2, e3⟩ := e
  have a := (T.2 t ht.1 ht.2).2.1
  rw [a, e0]
  unfold pdp
  exact dpS_cj (fun q => by rw [e1 q]) (fun q => by rw [e2 q]) (fun q => by rw [e3 q])
theorem chT_c {g : zJ} {m h a b c d : Int} : (∀ k, chT g 800 126 m h a b c d 166 k = if k = 800 + m then h else g 166 k) ∧ (∀ k, chT g 800 126 m h a b c d 167 k = if k = 3 * (800 + m) + 2 then c else if k = 3 * (800 + m) + 1 then b else if k = 3 * (800 + m) then a else g 167 k) ∧ (∀ k, chT g 800 126 m h a b c d 168 k = if k = 800 + m then d else g 168 k) ∧ (∀ k, chT g 800 126 m h a b c d 165 k = if k = 126 then m + 1 else g 165 k) ∧ chT g 800 126 m h a b c d 164 = g 164 ∧ chT g 800 126 m h a b c d 170 = g 170 ∧ chT g 800 126 m h a b c d 0 = g 0 := ⟨fun _ => rfl, fun _ => rfl, fun _ => rfl, fun _ => rfl, rfl, rfl, rfl⟩
theorem pMd_ok {g : zJ} {h x y w : Int} (T : GT g) (hh : h < g 164 44) (hr : (0 < par g h → 0 ≤ x ∧ x < g 165 126) ∧ (1 < par g h → 0 ≤ y ∧ y < g 165 126) ∧ (2 < par g h → 0 ≤ w ∧ w < g 165 126)) (hd : pdp g h x y w ≤ 6) (hm : g 165 126 < 400) : (pMd g h x y w).1 0 = g 0 ∧ GT (pMd g h x y w).1 ∧ GW (pMd g h x y w).1 g ∧ (pMd g h x y w).1 165 126 ≤ g 165 126 + 1 ∧ (0 ≤ (pMd g h x y w).2 ∧ (pMd g h x y w).2 < (pMd g h x y w).1 165 126) ∧ (pMd g h x y w).1 168 (800 + (pMd g h x y w).2) = pdp g h x y w := by
  have m0 := T.1.2.1
  have r1 : 0 ≤ pfi g h x y w ∧ pfi g h x y w ≤ g 165 126 := fnB_rg m0
  have r2 := (fnB_at (p := fun q => dcB (¬ nmT g 800 (par g h) h x y w q)) m0).2
  unfold pMd
  by_cases c : pfi g h x y w < g 165 126
  · rw [if_pos c]
    refine ⟨rfl, T, GW.rf, by show g 165 126 ≤ _; omega, ⟨r1.1, c⟩, T.pd ⟨r1.1, c⟩ ?_⟩
    rcases r2 with q | q
    · exact absurd q (by show ¬ pfi g h x y w = _; omega)
    · by_cases k : nmT g 800 (par g h) h x y w (pfi g h x y w)
      · exact k
      · have : dcB (¬ nmT g 800 (par g h) h x y w (pfi g h x y w)) = true := dcB_t k
        rw [show dcB (¬ nmT g 800 (par g h) h x y w (pfi g h x y w)) = false from q] at this
        cases this
  · rw [if_neg c, if_pos ⟨hd, hm⟩]
    obtain ⟨c6, c7, c8, c5, c4, c0, cz⟩ := chT_c (g := g) (m := g 165 126) (h := h) (a := if 0 < par g h then x else -1) (b := if 1 < par g h then y else -1) (c := if 2 < par g h then w else -1) (d := pdp g h x y w)
    generalize chT g 800 126 (g 165 126) h (if 0 < par g h then x else -1) (if 1 < par g h then y else -1) (if 2 < par g h then w else -1) (pdp g h x y w) = g' at *
    have cp : ∀ q, par g' q = par g q := fun q => by unfold par; rw [c0]
    have e5 : g' 165 126 = g 165 126 + 1 := by rw [c5, if_pos rfl]
    dsimp only
    refine ⟨cz, ⟨⟨by rw [c4]; exact T.1.1, by omega, by rw [c5, if_neg (by decide)]; exact T.1.2.2.1, by rw [c5, if_neg (by decide)]; exact T.1.2.2.2⟩, fun t a b => ?_⟩, ⟨c4, c0, by omega, fun t a b => by rw [c8, if_neg (by omega)], by rw [c5, if_neg (by decide)], by rw [c5, if_neg (by decide)]⟩, by omega, ⟨m0, by omega⟩, by rw [c8, if_pos rfl]⟩
    rw [cp, c6, c8, c4, e5]
    by_cases k : t = g 165 126
    · rw [if_pos (by omega), if_pos (by omega)]
      have f1 : g' 167 (3 * (800 + t) + 0) = if 0 < par g h then x else -1 := by rw [c7, if_neg (by omega), if_neg (by omega), if_pos (by omega)]
      have f2 : g' 167 (3 * (800 + t) + 1) = if 1 < par g h then y else -1 := by rw [c7, if_neg (by omega), if_pos (by omega)]
      have f3 : g' 167 (3 * (800 + t) + 2) = if 2 < par g h then w else -1 := by rw [c7, if_pos (by omega)]
      rw [f1, f2, f3]
      refine ⟨hh, ?_, fun q => ?_, fun q => ?_, fun q => ?_⟩
      · unfold pdp
        exact dpS_cj (fun q => by rw [if_pos q, c8, if_neg (by have := hr.1 q; omega)]) (fun q => by rw [if_pos q, c8, if_neg (by have := hr.2.1 q; omega)]) (fun q => by rw [if_pos q, c8, if_neg (by have := hr.2.2 q; omega)])
      · rw [if_pos q]; have := hr.1 q; omega
      · rw [if_pos q]; have := hr.2.1 q; omega
      · rw [if_pos q]; have := hr.2.2 q; omega
    · have f1 : g' 167 (3 * (800 + t) + 0) = g 167 (3 * (800 + t) + 0) := by rw [c7, if_neg (by omega), if_neg (by omega), if_neg (by omega)]
      have f2 : g' 167 (3 * (800 + t) + 1) = g 167 (3 * (800 + t) + 1) := by rw [c7, if_neg (by omega), if_neg (by omega), if_neg (by omega)]
      have f3 : g' 167 (3 * (800 + t) + 2) = g 167 (3 * (800 + t) + 2) := by rw [c7, if_neg (by omega), if_neg (by omega), if_neg (by omega)]
      rw [if_neg (by omega), if_neg (by omega), f1, f2, f3]
      obtain ⟨u1, u2, u3, u4, u5⟩ := T.2 t a (by omega)
      refine ⟨u1, ?_, fun q => ?_, fun q => ?_, fun q => ?_⟩
      · rw [u2]
        exact dpS_cj (fun q => by rw [c8, if_neg (by have := u3 q; omega)]) (fun q => by rw [c8, if_neg (by have := u4 q; omega)]) (fun q => by rw [c8, if_neg (by have := u5 q; omega)])
      · have := u3 q; omega
      · have := u4 q; omega
      · have := u5 q; omega
/-- from g the reading has come to g'; c: how much the place is ahead of the terms more than before -/
def SG (g' g : zJ) (c : Int) : Prop := SI g' ∧ ¬ g' 0 4 = 99 ∧ (g' 0 4 = 0 → g 0 4 = 0 ∧ GT g' ∧ GW g' g ∧ g 0 1 + 2 * g' 165 126 + c ≤ g' 0 1 + 2 * g 165 126 ∧ g 0 1 ≤ g' 0 1)
def GB (g : zJ) : Prop := SI g ∧ ¬ g 0 4 = 99 ∧ (g 0 4 = 0 → GT g ∧ 2 * g 165 126 ≤ g 0 1)
theorem SG.rf {g : zJ} (h : GB g) : SG g g 0 := ⟨h.1, h.2.1, fun q => ⟨q, (h.2.2 q).1, GW.rf, by omega, Int.le_refl _⟩⟩
theorem SG.tr {g3 g2 g1 : zJ} {c c' : Int} (h : SG g2 g1 c) (k : SG g3 g2 c') : SG g3 g1 (c + c') := ⟨k.1, k.2.1, fun q => by
  obtain ⟨a1, a2, a3, a4, a5⟩ := k.2.2 q
  obtain ⟨b1, b2, b3, b4, b5⟩ := h.2.2 a1
  exact ⟨b1, a2, b3.tr a3, by omega, by omega⟩⟩
theorem SG.le {g' g : zJ} {c c' : Int} (h : SG g' g c) (k : c' ≤ c) : SG g' g c' := ⟨h.1, h.2.1, fun q => by
  obtain ⟨a1, a2, a3, a4, a5⟩ := h.2.2 q
  exact ⟨a1, a2, a3, by omega, a5⟩⟩
theorem SG.b {g' g : zJ} {c : Int} (h : SG g' g c) (k : GB g) (hc : 0 ≤ c) : GB g' := ⟨h.1, h.2.1, fun q => by
  obtain ⟨a1, a2, a3, a4, a5⟩ := h.2.2 q
  have := (k.2.2 a1).2
  exact ⟨a2, by omega⟩⟩
theorem pN_r {g : zJ} (S : SI g) : g 0 2 ≤ pN g 0 1 := (tk_rg (f := g 1) ⟨by have := S.2.1; omega, S.2.1.2.2⟩).1.1
theorem pN_g {g : zJ} (h : GB g) (hk : ¬ g 0 3 = 0) : SG (pN g) g 1 := by
  have S := h.1
  have r := pN_r S
  have e4 : pN g 0 4 = g 0 4 := rfl
  refine ⟨S.n, by rw [e4]; exact h.2.1, fun q => ?_⟩
  rw [e4] at q
  have T := (h.2.2 q).1
  have k : g 0 1 < g 0 2 := by have := S.2.2; omega
  have e5 : pN g 165 126 = g 165 126 := rfl
  exact ⟨q, T.of rfl rfl T.1.2.2.1 T.1.2.2.2 rfl rfl rfl rfl, ⟨rfl, rfl, Int.le_refl _, fun _ _ _ => rfl, rfl, rfl⟩, by omega, by omega⟩
theorem pF_g {g : zJ} {c d : Int} (h : GB g) (hc : ¬ c = 0) (hc' : ¬ c = 99) : SG (pF g c) g d := ⟨h.1.f, hc', fun q => absurd q hc⟩
theorem f_g {g : zJ} {d : Int} (h : GB g) (hb : ¬ g 0 4 = 0) : SG g g d := ⟨h.1, h.2.1, fun q => absurd q hb⟩
theorem pP_g {g : zJ} {c : Int} (h : GB g) (hc : ¬ c = 0) : SG (pP g c) g 1 := by
  unfold pP
  split
  · split
    · exact pN_g h (by omega)
    · exact pF_g h (by decide) (by decide)
  · next q => exact f_g h q
theorem pU_g {g : zJ} {a b : Int} (h : GB g) : SG (pU g a b).1 g 1 ∧ ((pU g a b).1 0 4 = 0 → a ≤ (pU g a b).2) := by
  unfold pU
  split
  · split
    · split
      · next q => exact ⟨pN_g h (by omega), fun _ => q.2.1⟩
      · exact ⟨pF_g h (by decide) (by decide), fun q => absurd q (by show ¬ (2 : Int) = 0; decide)⟩
    · exact ⟨pF_g h (by decide) (by decide), fun q => absurd q (by show ¬ (1 : Int) = 0; decide)⟩
  · next q => exact ⟨f_g h q, fun k => absurd k q⟩
/-- a term has been read at the level d -/
def TM (p : zJ × Int) (g : zJ) (d c : Int) : Prop := SG p.1 g c ∧ (p.1 0 4 = 0 → (0 ≤ p.2 ∧ p.2 < p.1 165 126) ∧ p.1 168 (800 + p.2) ≤ 7 - d)
theorem TM.f {g : zJ} {z d c : Int} (h : GB g) (hb : ¬ g 0 4 = 0) : TM (g, z) g d c := ⟨f_g h hb, fun q => absurd q hb⟩
theorem TM.pf {g : zJ} {z d c v : Int} (h : GB g) (hc : ¬ v = 0) (hc' : ¬ v = 99) : TM (pF g v, z) g d c := ⟨pF_g h hc hc', fun q => absurd q hc⟩
theorem pMd_g {g : zJ} {h x y w d : Int} (B : GB g) (h0 : g 0 4 = 0) (hd : 1 ≤ d ∧ d ≤ 6) (hh : h < g 164 44) (h1 : 0 < par g h → (0 ≤ x ∧ x < g 165 126) ∧ g 168 (800 + x) ≤ 6 - d) (h2 : 1 < par g h → (0 ≤ y ∧ y < g 165 126) ∧ g 168 (800 + y) ≤ 6 - d) (h3 : 2 < par g h → (0 ≤ w ∧ w < g 165 126) ∧ g 168 (800 + w) ≤ 6 - d) : TM (pMd g h x y w) g d (-2) := by
  obtain ⟨T, c⟩ := B.2.2 h0
  have S := B.1
  have S1 := S.1
  have S2 := S.2.1
  have dl : pdp g h x y w ≤ 7 - d := dpS_lj (by omega) (fun q => by have := (h1 q).2; omega) (fun q => by have := (h2 q).2; omega) (fun q => by have := (h3 q).2; omega)
  obtain ⟨k0, kT, kW, k1, k2, k3⟩ := pMd_ok T hh ⟨fun q => (h1 q).1, fun q => (h2 q).1, fun q => (h3 q).1⟩ (by omega) (by omega)
  refine ⟨⟨S.m, by rw [k0]; exact B.2.1, fun q => ⟨h0, kT, kW, by rw [k0]; omega, by rw [k0]; exact Int.le_refl _⟩⟩, fun q => ⟨k2, by omega⟩⟩
theorem pV_g {g : zJ} {d : Int} (B : GB g) (h0 : g 0 4 = 0) (hk : ¬ g 0 3 = 0) (hd : 1 ≤ d ∧ d ≤ 6) : TM (pV g) g d (-1) := by
  have s1 := pN_g B hk
  have b1 := s1.b B (by decide)
  obtain ⟨s2, v2⟩ := pU_g (a := 0) (b := 7) b1
  have b2 := s2.b b1 (by decide)
  unfold pV
  split
  · next q =>
    have v := v2 q
    have hp : par (pU (pN g) 0 7).1 (-1 - (pU (pN g) 0 7).2) = 0 := by unfold par arh; rw [if_pos (by omega)]
    have t := (b2.2.2 q).1.1.1
    have s3 := pMd_g (h := -1 - (pU (pN g) 0 7).2) (x := 0) (y := 0) (w := 0) b2 q hd (by omega) (fun k => by omega) (fun k => by omega) (fun k => by omega)
    exact ⟨((s1.tr s2).tr s3.1).le (by decide), s3.2⟩
  · next q => exact ⟨(s1.tr s2).le (by decide), fun k => absurd k q⟩
/-- what is asked of the reading of the parts -/
def HT (T : zJ → Int → zJ × Int) (d : Int) : Prop := ∀ g, GB g → TM (T g (d + 1)) g (d + 1) (-1)
theorem HT.a {T : zJ → Int → zJ × Int} {d k : Int} {g : zJ} (h : HT T d) (B : GB g) (hk : ¬ k = 0) : TM (T (pP g k) (d + 1)) g (d + 1) 0 := by
  have s1 := pP_g B hk
  have s2 := h _ (s1.b B (by decide))
  exact ⟨(s1.tr s2.1).le (by decide), s2.2⟩
theorem pA1_g {T : zJ → Int → zJ × Int} {g : zJ} {A d : Int} (h : HT T d) (B : GB g) : SG (pA1 T g A d).1 g 0 ∧ (0 < A → TM (pA1 T g A d) g (d + 1) 0) := by
  unfold pA1
  split
  · have a := h.a (k := 40) B (by decide); exact ⟨a.1, fun _ => a⟩
  · next q => exact ⟨SG.rf B, fun k => absurd k q⟩
theorem pA2_g {T : zJ → Int → zJ × Int} {g : zJ} {A d : Int} (h : HT T d) (B : GB (pA1 T g A d).1) : SG (pA2 T g A d).1 (pA1 T g A d).1 0 ∧ (1 < A → TM (pA2 T g A d) (pA1 T g A d).1 (d + 1) 0) := by
  unfold pA2
  split
  · have a := h.a (k := 44) B (by decide); exact ⟨a.1, fun _ => a⟩
  · next q => exact ⟨SG.rf B, fun k => absurd k q⟩
theorem pA3_g {T : zJ → Int → zJ × Int} {g : zJ} {A d : Int} (h : HT T d) (B : GB (pA2 T g A d).1) : SG (pA3 T g A d).1 (pA2 T g A d).1 0 ∧ (2 < A → TM (pA3 T g A d) (pA2 T g A d).1 (d + 1) 0) := by
  unfold pA3
  split
  · have a := h.a (k := 44) B (by decide); exact ⟨a.1, fun _ => a⟩
  · next q => exact ⟨SG.rf B, fun k => absurd k q⟩
theorem pA4_g {T : zJ → Int → zJ × Int} {g : zJ} {A d : Int} (B : GB (pA3 T g A d).1) : SG (pA4 T g A d) (pA3 T g A d).1 0 := by
  unfold pA4
  split
  · exact (pP_g B (by decide)).le (by decide)
  · exact SG.rf B
theorem TM.k {p : zJ × Int} {g g' : zJ} {d c c' : Int} (h : TM p g (d + 1) c) (s : SG g' p.1 c') (h0 : g' 0 4 = 0) : (0 ≤ p.2 ∧ p.2 < g' 165 126) ∧ g' 168 (800 + p.2) ≤ 6 - d := by
  obtain ⟨q1, _, w, _, _⟩ := s.2.2 h0
  obtain ⟨a, b⟩ := h.2 q1
  have w1 := w.2.2.1
  rw [w.2.2.2.1 p.2 a.1 a.2]
  omega
theorem pC_g {T : zJ → Int → zJ × Int} {g : zJ} {s d : Int} (h : HT T d) (B : GB g) (hs : 0 ≤ s ∧ s < g 164 44) (hd : 1 ≤ d ∧ d ≤ 6) : TM (pC T g s d) g d (-2) := by
  unfold pC
  generalize hA : g 170 (10 + s) = A
  have p1 := pA1_g (A := A) h B
  have b1 := p1.1.b B (by decide)
  have p2 := pA2_g (A := A) h b1
  have b2 := p2.1.b b1 (by decide)
  have p3 := pA3_g (A := A) h b2
  have b3 := p3.1.b b2 (by decide)
  have p4 := pA4_g (T := T) (g := g) (A := A) (d := d) b3
  have b4 := p4.b b3 (by decide)
  have s3 := p3.1.tr p4
  have s2 := p2.1.tr s3
  have s1 := p1.1.tr s2
  split
  · next q =>
    obtain ⟨z0, _, w, _, _⟩ := s1.2.2 q
    have hp : par (pA4 T g A d) s = A := by unfold par arh; rw [if_neg (by omega), w.2.1]; exact hA
    have t := pMd_g (h := s) (x := (pA1 T g A d).2) (y := (pA2 T g A d).2) (w := (pA3 T g A d).2) b4 q hd (by rw [w.1]; exact hs.2) (fun k => (p1.2 (by omega)).k s2 q) (fun k => (p2.2 (by omega)).k s3 q) (fun k => (p3.2 (by omega)).k p4 q)
    exact ⟨(s1.tr t.1).le (by decide), t.2⟩
  · next q => exact ⟨s1.le (by decide), fun k => absurd k q⟩
theorem pT_g : ∀ (k : Nat) (d : Int), 9 ≤ k + d → 1 ≤ d → d ≤ 7 → ∀ (g : zJ), GB g → TM (pT k g d) g d (-1)
  | 0, d, h1, h2, h3, g, B => by omega
  | k + 1, d, h1, h2, h3, g, B => by
    rw [pT_s]
    split
    · next h0 =>
      split
      · next hk =>
        split
        · exact pV_g B h0 (by omega) (by omega)
        · exact TM.pf B (by decide) (by decide)
      · split
        · next hk =>
          split
          · next hd =>
            split
            · next hs =>
              have s1 := pN_g B (by omega)
              have b1 := s1.b B (by decide)
              have r := (B.2.2 h0).1.1.1
              have hp : 0 ≤ psy g (g 1 (g 0 1)) := (fnB_rg r).1
              have t := pC_g (T := pT k) (s := psy g (g 1 (g 0 1))) (fun g B => pT_g k (d + 1) (by omega) (by omega) (by omega) g B) b1 ⟨hp, hs⟩ ⟨h2, hd.1⟩
              exact ⟨(s1.tr t.1).le (by decide), t.2⟩
            · exact TM.pf B (by decide) (by decide)
          · exact TM.pf B (by decide) (by decide)
        · exact TM.pf B (by decide) (by decide)
    · next h0 => exact TM.f B h0
theorem pNm_g {g : zJ} (B : GB g) : SG (pNm g).1 g 1 := by
  unfold pNm
  (repeat' split) <;> first | exact pF_g B (by decide) (by decide) | exact pN_g B (by omega)
theorem pTo_g {g : zJ} (B : GB g) : SG (pTo g) g 1 := by
  unfold pTo
  split
  · by_cases c : pIs g [116, 111]
    · rw [cif_pos c]; exact pN_g B (by have := c.1; omega)
    · rw [cif_neg c]; exact pF_g B (by decide) (by decide)
  · next q => exact f_g B q
/-- a clause: what it leaves is as good, and it goes on -/
def CB (g' g : zJ) : Prop := GB g' ∧ (g' 0 4 = 0 → g 0 1 ≤ g' 0 1)
theorem SG.cb {g' g : zJ} {c : Int} (h : SG g' g c) (k : GB g) (hc : 0 ≤ c) : CB g' g := ⟨h.b k hc, fun q => (h.2.2 q).2.2.2.2⟩
theorem CB.of {g'' g' g : zJ} (h : CB g' g) (e0 : g'' 0 = g' 0) (e5 : g'' 165 126 = g' 165 126) (hT : g' 0 4 = 0 → GT g' → GT g'') : CB g'' g := by
  refine ⟨⟨h.1.1.c5 e0, by rw [e0]; exact h.1.2.1, ?_⟩, by rw [e0]; exact h.2⟩
  rw [e0, e5]
  exact fun q => ⟨hT q (h.1.2.2 q).1, (h.1.2.2 q).2⟩
theorem GT.sm {g : zJ} {c n w : Int} (T : GT g) : GT (pSm g c n w) := by
  obtain ⟨⟨h1, h2, h3, h4⟩, h5⟩ := T
  have e4 : pSm g c n w 164 44 = g 164 44 + 1 := rfl
  have e0 : ∀ h, h < g 164 44 → par (pSm g c n w) h = par g h := fun h q => by
    unfold par arh
    split
    · rfl
    · show (if 10 + h = 10 + g 164 44 then n else g 170 (10 + h)) = _
      rw [if_neg (by omega)]
  refine ⟨⟨by omega, h2, h3, h4⟩, fun t a b => ?_⟩
  obtain ⟨u1, u2, u3⟩ := h5 t a b
  refine ⟨by show g 166 (800 + t) < _; omega, ?_⟩
  show g 168 (800 + t) = dpS (fun u => g 168 (800 + u)) (par (pSm g c n w) (g 166 (800 + t))) (g 167 (3 * (800 + t) + 0)) (g 167 (3 * (800 + t) + 1)) (g 167 (3 * (800 + t) + 2)) ∧ ((0 < par (pSm g c n w) (g 166 (800 + t)) → 0 ≤ g 167 (3 * (800 + t) + 0) ∧ g 167 (3 * (800 + t) + 0) < g 165 126) ∧ (1 < par (pSm g c n w) (g 166 (800 + t)) → 0 ≤ g 167 (3 * (800 + t) + 1) ∧ g 167 (3 * (800 + t) + 1) < g 165 126) ∧ (2 < par (pSm g c n w) (g 166 (800 + t)) → 0 ≤ g 167 (3 * (800 + t) + 2) ∧ g 167 (3 * (800 + t) + 2) < g 165 126))
  rw [e0 _ u1]
  exact ⟨u2, u3⟩
theorem CB.cif {p : Prop} {a b g : zJ} (ha : CB a g) (hb : CB b g) : CB (cif p a b) g := by
  by_cases h : p
  · rw [cif_pos h]; exact ha
  · rw [cif_neg h]; exact hb
theorem CB.f {g : zJ} {c : Int} (B : GB g) (hc : ¬ c = 0) (hc' : ¬ c = 99) : CB (pF g c) g := (pF_g (d := 0) B hc hc').cb B (by decide)
theorem CB.tf {g' g : zJ} {c : Int} (B : CB g' g) (hc : ¬ c = 0) (hc' : ¬ c = 99) : CB (pF g' c) g := ⟨(CB.f B.1 hc hc').1, fun q => absurd q hc⟩
theorem pR1_g {g : zJ} (B : GB g) (hk : ¬ g 0 3 = 0) : SG (pR1 g).1 g 0 := by
  have s1 := pN_g B hk
  exact (s1.tr (pT_g 8 1 (by decide) (by decide) (by decide) _ (s1.b B (by decide))).1).le (by decide)
theorem pR2_g {g : zJ} (B : GB g) (hk : ¬ g 0 3 = 0) : SG (pR2 g).1 g 0 := by
  have s1 := pR1_g B hk
  have b1 := s1.b B (by decide)
  have s2 := pTo_g b1
  have b2 := s2.b b1 (by decide)
  exact ((s1.tr s2).tr (pT_g 8 1 (by decide) (by decide) (by decide) _ b2).1).le (by decide)
theorem pSy_g {g : zJ} (B : GB g) (hk : ¬ g 0 3 = 0) : CB (pSy g) g := by
  have s1 := pN_g B hk
  have b1 := s1.b B (by decide)
  have s2 : SG (pS1 g).1 (pN g) 1 := pNm_g b1
  have b2 := s2.b b1 (by decide)
  have s3 : SG (pS2 g).1 (pS1 g).1 1 := (pU_g b2).1
  have b3 := s3.b b2 (by decide)
  have s4 : SG (pS3 g).1 (pS2 g).1 1 := (pU_g b3).1
  have s := ((s1.tr s2).tr s3).tr s4
  have c := s.cb B (by decide)
  unfold pSy
  split
  · split
    · exact c.of rfl rfl (fun _ T => T.sm)
    · exact c
  · exact CB.f B (by decide) (by decide)
theorem pRu_g {g : zJ} (B : GB g) (hk : ¬ g 0 3 = 0) : CB (pRu g) g := by
  have sg := pR2_g B hk
  have c := sg.cb B (by decide)
  unfold pRu
  split
  · next h8 =>
    split
    · next q =>
      split
      · have T := (c.1.2.2 q).1
        have t1 := T.1.2.2.1
        have t2 := T.1.2.2.2
        have t3 := (sg.2.2 q).2.2.1.2.2.2.2.1
        have e : ∀ k, zrl (pR2 g).1 126 (pR1 g).2 (pR2 g).2 165 k = if k = 135 then (pR2 g).1 165 135 + 1 else if k = 136 + 2 * (pR2 g).1 165 135 + 1 then (pR2 g).2 else if k = 136 + 2 * (pR2 g).1 165 135 then (pR1 g).2 else (pR2 g).1 165 k := fun _ => rfl
        have e1 : zrl (pR2 g).1 126 (pR1 g).2 (pR2 g).2 165 126 = (pR2 g).1 165 126 := by rw [e, if_neg (by omega), if_neg (by omega), if_neg (by omega)]
        exact CB.cif (c.of rfl e1 (fun _ T => T.of rfl e1 (by rw [e, if_pos rfl]; omega) (by rw [e, if_neg (by omega), if_neg (by omega), if_neg (by omega)]; exact t2) rfl rfl rfl rfl)) (c.tf (by decide) (by decide))
      · exact c.tf (by decide) (by decide)
    · exact c
  · exact CB.f B (by decide) (by decide)
theorem pEn_g {g : zJ} (B : GB g) (hk : ¬ g 0 3 = 0) : CB (pEn g) g := by
  have sg := pR1_g B hk
  have c := sg.cb B (by decide)
  unfold pEn
  split
  · next h8 =>
    split
    · next q =>
      split
      · split
        · exact c.tf (by decide) (by decide)
        · have T := (c.1.2.2 q).1
          have t1 := T.1.2.2.1
          have t2 := T.1.2.2.2
          have e : ∀ k, zen (pR1 g).1 126 (pR1 g).2 165 k = if k = 152 then (pR1 g).1 165 152 + 1 else if k = 153 + (pR1 g).1 165 152 then (pR1 g).2 else (pR1 g).1 165 k := fun _ => rfl
          have e1 : zen (pR1 g).1 126 (pR1 g).2 165 126 = (pR1 g).1 165 126 := by rw [e, if_neg (by omega), if_neg (by omega)]
          exact c.of rfl e1 (fun _ T => T.of rfl e1 (by rw [e, if_neg (by omega), if_neg (by omega)]; exact t1) (by rw [e, if_pos rfl]; omega) rfl rfl rfl rfl)
      · exact c.tf (by decide) (by decide)
    · exact c
  · exact CB.f B (by decide) (by decide)
theorem pRo_g {g : zJ} (B : GB g) (hk : ¬ g 0 3 = 0) : CB (pRo g) g := by
  have s1 := pN_g B hk
  have s2 : SG (pO1 g).1 (pN g) 1 := (pU_g (s1.b B (by decide))).1
  have c := (s1.tr s2).cb B (by decide)
  unfold pRo
  split
  · split
    · exact c.of rfl rfl (fun _ T => T.of rfl rfl T.1.2.2.1 T.1.2.2.2 rfl rfl rfl rfl)
    · exact c
  · exact CB.f B (by decide) (by decide)
theorem pCl_g {g : zJ} (B : GB g) (hk : ¬ g 0 3 = 0) : CB (pCl g) g := CB.cif (pSy_g B hk) (CB.cif ((pR1_g B hk).cb B (by decide)) (CB.cif (pRu_g B hk) (CB.cif (pEn_g B hk) (CB.cif (pRo_g B hk) (CB.f B (by decide) (by decide))))))
theorem pStep_g {g : zJ} (B : GB g) (hk : ¬ g 0 3 = 0) : GB (pP (pCl g) 59) ∧ (pP (pCl g) 59 0 4 = 0 → g 0 1 + 1 ≤ pP (pCl g) 59 0 1) := by
  have c := pCl_g B hk
  have s := pP_g (c := 59) c.1 (by decide)
  refine ⟨s.b c.1 (by decide), fun q => ?_⟩
  obtain ⟨a1, a2, a3, a4, a5⟩ := s.2.2 q
  have w := a3.2.2.1
  have := c.2 a1
  omega
theorem pAl_g : ∀ (k : Nat) (g : zJ), GB g → GB (pAl k g)
  | 0, _, B => B
  | k + 1, g, B => by
    show GB (if g 0 4 = 0 ∧ ¬ g 0 3 = 0 then pAl k (pP (pCl g) 59) else g)
    split
    · next q => exact pAl_g k _ (pStep_g B q.2).1
    · exact B
end
section
/-! ===== the class reads a text as the reading does ===== -/
theorem pN_st {g : zJ} {a b : Int} : pN (zup (zup g 0 1 a) 0 3 b) = pN g := by
  funext c
  by_cases h : c = 0
  · rw [h]
    funext k
    rw [pN0, pN0]
    show (if k = 2 then tkE (g 1) (g 0 0) (g 0 2) else if k = 3 then tkK (g 1) (g 0 0) (g 0 2) else if k = 1 then tkS (g 1) (g 0 0) (g 0 2) else if k = 3 then b else if k = 1 then a else g 0 k) = _
    (repeat' split) <;> first | rfl | omega
  · rw [pN_c h, pN_c h, zup_nc h, zup_nc h]
theorem w_next0 {l : Launch} {G : tb_G} (hl : l.stackTraces = false) (n : Nat) (J : zJ) (g : zJ) (h8 : J 163 8 = 0) (h7 : J 163 7 = g 0 2) (h0 : g 0 4 = 0) (E : EC J g) (r : 0 ≤ J 163 7 ∧ J 163 7 ≤ J 163 4) (r4 : J 163 4 ≤ 700) : tz_Ok l G M_X5_next 1 0 0 [.ref 163] n J (zqv (fun J' => RN J' J ∧ RD2 J' ∧ J' 163 8 = J 163 8 ∧ XC J' (pN g))) zN := by
  have hR : RelC J (zup (zup g 0 1 (J 163 6)) 0 3 (J 163 5)) := ⟨h8.trans h0.symm, fun q => absurd h0 q, fun _ => ⟨⟨rfl, rfl, h7⟩, E.1, E.2.1, E.2.2.1, E.2.2.2.g (fun c hc => by rw [zup_nc hc, zup_nc hc])⟩⟩
  refine (x_next hl n J r r4).mono (fun r J' _ ⟨a, f, e6, e5, e7⟩ => ⟨a, ?_⟩) (fun _ _ _ h => h)
  have e8 := f.2 8 (by decide) (by decide) (by decide)
  have e4 := f.2 4 (by decide) (by decide) (by decide)
  have rg := tk_rg (f := J 162) (N := J 163 4) (a := J 163 7) (by omega)
  have hn := hR.next h0 f e6 e5 e7
  rw [pN_st] at hn
  refine ⟨⟨f.1, e4, fun p => by rw [← e8]; exact p⟩, ⟨⟨?_, ?_⟩, ?_⟩, e8, Or.inr hn⟩
  · rw [e6, e7]; omega
  · rw [e7, e4]; omega
  · rw [e5, e6, e4]
    exact rg.2.imp id (fun p => p.1)
theorem pIs_c {J g : zJ} {w : List Int} (hX : XC J g) (h9 : g 0 4 = 0) : pIs g w ↔ (J 163 5 = 2 ∧ mtB (J 162) (J 163 6) (J 163 7) w) := by
  rcases hX.k (hX.z h9) with p | ⟨_, e3, e2, e1, e0, _⟩
  · omega
  · unfold pIs
    rw [e3, e2, e1, e0]
theorem pCl_1 {g : zJ} (a : pIs g [115, 121, 109, 98, 111, 108]) : pCl g = pSy g := cif_pos a
theorem pCl_2 {g : zJ} (a : ¬ pIs g [115, 121, 109, 98, 111, 108]) (b : pIs g [116, 101, 114, 109]) : pCl g = (pR1 g).1 := (cif_neg a).trans (cif_pos b)
theorem pCl_3 {g : zJ} (a : ¬ pIs g [115, 121, 109, 98, 111, 108]) (b : ¬ pIs g [116, 101, 114, 109]) (c : pIs g [114, 117, 108, 101]) : pCl g = pRu g := (cif_neg a).trans ((cif_neg b).trans (cif_pos c))
theorem pCl_4 {g : zJ} (a : ¬ pIs g [115, 121, 109, 98, 111, 108]) (b : ¬ pIs g [116, 101, 114, 109]) (c : ¬ pIs g [114, 117, 108, 101]) (d : pIs g [101, 110, 116, 114, 121]) : pCl g = pEn g := (cif_neg a).trans ((cif_neg b).trans ((cif_neg c).trans (cif_pos d)))
theorem pCl_5 {g : zJ} (a : ¬ pIs g [115, 121, 109, 98, 111, 108]) (b : ¬ pIs g [116, 101, 114, 109]) (c : ¬ pIs g [114, 117, 108, 101]) (d : ¬ pIs g [101, 110, 116, 114, 121]) (e : pIs g [114, 111, 111, 109]) : pCl g = pRo g := (cif_neg a).trans ((cif_neg b).trans ((cif_neg c).trans ((cif_neg d).trans (cif_pos e))))
theorem pCl_6 {g : zJ} (a : ¬ pIs g [115, 121, 109, 98, 111, 108]) (b : ¬ pIs g [116, 101, 114, 109]) (c : ¬ pIs g [114, 117, 108, 101]) (d : ¬ pIs g [101, 110, 116, 114, 121]) (e : ¬ pIs g [114, 111, 111, 109]) (h9 : g 0 4 = 0) : pP (pCl g) 59 = pFx g 1 := by
  rw [show pCl g = pF g 1 from (cif_neg a).trans ((cif_neg b).trans ((cif_neg c).trans ((cif_neg d).trans (cif_neg e))))]
  unfold pFx
  rw [if_pos h9, pP_f (by show ¬ (1 : Int) = 0; decide)]
/-- the reading that started at g0 goes on from where the class is -/
def CRI (J g0 : zJ) (k : Int) : Prop := ∃ g, GB g ∧ XC J g ∧ pAl 703 g0 = pAl (703 - k).toNat g ∧ (g 0 4 = 0 → k ≤ g 0 1)
theorem CRI.st {J' g0 g : zJ} {k : Int} (hB : GB g) (h9 : g 0 4 = 0) (h3 : ¬ g 0 3 = 0) (hk : k < 700) (ha : pAl 703 g0 = pAl (703 - k).toNat g) (hs : g 0 4 = 0 → k ≤ g 0 1) (x : XC J' (pP (pCl g) 59)) : CRI J' g0 (k + 1) := by
  have s := pStep_g hB h3
  refine ⟨_, s.1, x, ?_, fun q => by have := s.2 q; have := hs h9; omega⟩
  rw [ha, show (703 - k).toNat = (703 - (k + 1)).toNat + 1 from by omega, pAl_s, if_pos ⟨h9, h3⟩]
theorem CRI.en {J g0 : zJ} {k : Int} (h : CRI J g0 k) (he : 700 ≤ k ∨ J 163 5 = 0 ∨ ¬ J 163 8 = 0) : RelC J (pAl 703 g0) := by
  obtain ⟨g, hB, hX, ha, hs⟩ := h
  have hR : RelC J g := hX.resolve_left hB.2.1
  have e : pAl (703 - k).toNat g = g := pAl_e (by
    by_cases h9 : g 0 4 = 0
    · refine Or.inr ?_
      have h8 := hX.z h9
      have e3 := (hR.2.2 h9).1.2.1
      have S := hB.1
      have S1 := S.1
      have S2 := S.2.1
      have S3 := S.2.2
      have := hs h9
      omega
    · exact Or.inl h9)
  rw [ha, e]
  exact hR
theorem GB.g0 {f : zJ} {x : Int} (hx : 0 ≤ x ∧ x ≤ 700) : GB (pN (pG f x)) := by
  have S : SI (pN (pG f x)) := (pG_s hx).n
  refine ⟨S, by show ¬ (0 : Int) = 99; decide, fun _ => ⟨⟨⟨Int.le_refl 0, Int.le_refl 0, Int.le_refl 0, Int.le_refl 0⟩, fun t a b => ?_⟩, ?_⟩⟩
  · have b' : t < 0 := b
    omega
  · have := S.2.1.1
    show 2 * (0 : Int) ≤ _
    omega
theorem pG_e {J' J : zJ} {x : Int} (h : ∀ c, 166 ≤ c → c < 183 → J' c = J c) : pG J' x = pG J x := by
  funext c
  unfold pG
  rw [h 173 (by decide) (by decide)]
  (repeat' split) <;> first | rfl | exact h c (by omega) (by omega)
/-- the class's tables are empty, as the reading's are when it starts -/
def CE (J : zJ) : Prop := J 1 3 = 0 ∧ J 6 12 = 0 ∧ J 19 4 = 0 ∧ J 19 5 = 0 ∧ J 19 1 = 4 ∧ (J 19 2 = 0 ∧ J 19 3 = 0 ∧ J 19 6 = 0) ∧ ∀ v, 0 ≤ v → v < 8 → J 19 (7 + v) = -1
theorem CE.et {J f : zJ} {x : Int} (h : CE J) : ET J (pG f x) := by
  obtain ⟨a, b, c, d, e, e2, e7⟩ := h
  refine ⟨⟨a, fun k p q => ?_⟩, ⟨b, fun k p q => ?_, fun k i p q => ?_⟩, ⟨c, fun k p q => ?_⟩, ⟨d, fun k p q => ?_⟩, e, e2, fun v p q => by
    have w := e7 v p q
    show J 19 (7 + v) + 1 = (if 127 + v = 165 then 4 else 0)
    rw [if_neg (by omega)]
    omega⟩
  all_goals
    exact absurd (show k < 0 from q) (by omega)
set_option maxHeartbeats 4000000 in
set_option maxRecDepth 100000 in
theorem w_readBank {l : Launch} {G : tb_G} (hl : l.stackTraces = false) (n : Nat) (J : zJ) (q : Int) (hr_q : -2147483648 ≤ q ∧ q < 2147483648) (m : Int) (g : zJ) (hnb : n ≤ tb_sc) (C : CT J m) (hm : J 6 12 = m) (hL : LI (J 19) m) (hq : 0 ≤ q) (h3 : J 156 3 = -1) (hg : g 0 0 = zmn q 700 ∧ g 0 2 = 0 ∧ g 0 4 = 0 ∧ g 164 45 = 0) (h162 : J 162 = g 1) (hE : ET J g) (hG : GB (pN g)) : tz_Ok l G M_X5_readBank 36 0 0 [.ref 163, zi q] n J (zqi (fun z J' => ∃ m', RQ6 J' J m m' ∧ J' 163 8 = z ∧ RelC J' (pAl 703 (pN g)))) zN := by
  refine tz_Ok.of hl (by decide +kernel) rfl (tb_c1 rfl) (Nat.le_of_ble_eq_true rfl) ?_
  show tz_At l G M_X5_readBank (tb_rm 36 0 0) none (tb_ZM G 0 0 (zQ n 0 (zqi (fun z J' => ∃ m', RQ6 J' J m m' ∧ J' 163 8 = z ∧ RelC J' (pAl 703 (pN g))))) (zX n 0 zN)) 0 0 n J 0 [some (.ref 163), some (zi q), none] []
  have hmn := zmn_le q 700
  refine tz_aload_n (pc := 0) dX5_readBank_0 rfl rfl ?_
  refine tz_iload_n (pc := 1) dX5_readBank_1 rfl rfl ?_
  refine tz_aload_n (pc := 2) dX5_readBank_2 rfl rfl ?_
  refine tz_fR (pc := 3) dX5_readBank_3 fl_X5_34 r_163_0 ?_
  refine tz_aN (pc := 6) (lz := 700) dX5_readBank_6 a_162 rfl ?_
  refine tz_mn (pc := 7) (v := zmn q 700) dX5_readBank_7 ml_X5_59 (Nat.le_of_ble_eq_true rfl) (Nat.le_of_ble_eq_true rfl) (Nat.le_of_ble_eq_true rfl) (Nat.le_of_ble_eq_true rfl) (by omega) (by decide) rfl ?_
  refine tz_pI (pc := 10) (kz := 4) dX5_readBank_10 fl_X5_9 i_163_4 rfl rfl (by omega) ?_
  refine tz_aload_n (pc := 13) dX5_readBank_13 rfl rfl ?_
  refine tz_iconst (pc := 14) dX5_readBank_14 ?_
  refine tz_pI (pc := 15) (kz := 7) dX5_readBank_15 fl_X5_21 i_163_7 rfl rfl (by decide) ?_
  refine tz_aload_n (pc := 18) dX5_readBank_18 rfl rfl ?_
  refine tz_iconst (pc := 19) dX5_readBank_19 ?_
  refine tz_pI (pc := 20) (kz := 8) dX5_readBank_20 fl_X5_24 i_163_8 rfl rfl (by decide) ?_
  refine tz_aload_n (pc := 23) dX5_readBank_23 rfl rfl ?_
  refine tz_iconst (pc := 24) dX5_readBank_24 ?_
  refine tz_pI (pc := 25) (kz := 9) dX5_readBank_25 fl_X5_27 i_163_9 rfl rfl (by decide) ?_
  refine tz_aload_n (pc := 28) dX5_readBank_28 rfl rfl ?_
  refine tz_iconst (pc := 29) dX5_readBank_29 ?_
  refine tz_pZ (pc := 30) (kz := 10) dX5_readBank_30 fl_X5_30 i_163_10 rfl rfl (Or.inl rfl) ?_
  refine tz_aload_n (pc := 33) dX5_readBank_33 rfl rfl ?_
  refine tz_cV (pc := 34) (w_next0 hl n _ g rfl hg.2.1.symm hg.2.2.1 ⟨hg.1.symm, h162, hg.2.2.2.symm, hE.of (zOf.up rfl (zOf.up rfl (zOf.up rfl (zOf.up rfl (zOf.up rfl zOf.rf)))))⟩ ⟨Int.le_refl 0, by show (0 : Int) ≤ zmn q 700; omega⟩ (by show zmn q 700 ≤ 700; omega)) vl_X5_65 dX5_readBank_34 o_163 rfl rfl (Nat.le_of_ble_eq_true rfl) ⟨(Nat.le_of_ble_eq_true rfl), (Nat.le_of_ble_eq_true rfl)⟩ rfl rfl (Nat.le_of_ble_eq_true rfl) (Nat.le_of_ble_eq_true rfl) (fun r9 J9 hq9 => ?_)
  obtain ⟨rfl, g9, d9, v9, x9⟩ := hq9
  have q9 : RQ6 J9 J m m := ⟨⟨C.of (fun c hc => (g9.1 c (by simp [zbut]; omega)).trans (by rw [zup_nc (by omega), zup_nc (by omega), zup_nc (by omega), zup_nc (by omega), zup_nc (by omega)])), by rw [g9.1 6 rfl]; exact hm, by rw [g9.1 19 rfl]; exact hL, d9⟩, (g9.1.mono (zbut_sub (fun c hc => by simp at hc ⊢; omega))).tr (zOf.up rfl (zOf.up rfl (zOf.up rfl (zOf.up rfl (zOf.up rfl zOf.rf))))), by rw [g9.1 156 rfl]; rfl⟩
  refine tz_iconst (pc := 37) dX5_readBank_37 ?_
  refine tz_istore_n (pc := 38) (L2 := [_, _, _]) dX5_readBank_38 rfl (by decide) rfl ?_
  have loop39 : ∀ (f9 : Nat) (k : Int) (J1 : zJ) (m1 : Int), ((700 - k).toNat) < f9 → (0 ≤ k ∧ k ≤ 700) → (RQ6 J1 J m m1) → (CRI J1 (pN g) k) → tz_At l G M_X5_readBank (tb_rm 36 0 0) none (tb_ZM G 0 0 (zQ n 0 (zqi (fun z J' => ∃ m', RQ6 J' J m m' ∧ J' 163 8 = z ∧ RelC J' (pAl 703 (pN g))))) (zX n 0 zN)) 0 0 n J1 39 [some (.ref 163), some (zi q), some (zi k)] [] := by
    intro f9
    induction f9 with
    | zero => intro k J1 m1 hm9; exact absurd hm9 (Nat.not_lt_zero _)
    | succ f9 ih39 =>
      intro k J1 m1 hm39 hk g1 hI
      refine tz_iload_n (pc := 39) dX5_readBank_39 rfl rfl ?_
      refine tz_sipush (pc := 40) dX5_readBank_40 (by decide) ?_
      refine tz_icmp_ge (pc := 43) (tgt := 152) dX5_readBank_43 (by decide) (by omega) (by decide) (fun h_43 => ?_) (fun h_43 => ?_)
      · refine tz_aload_n (pc := 152) dX5_readBank_152 rfl rfl ?_
        refine tz_fI (pc := 153) (kz := 8) (v := (J1 163 8)) dX5_readBank_153 fl_X5_24 i_163_8 rfl rfl (fun r_153 => ?_)
        exact tz_iret (pc := 156) (z := (J1 163 8)) dX5_readBank_156 rfl (Nat.le_of_ble_eq_true rfl) (Nat.le_of_ble_eq_true rfl) ⟨Nat.le_refl _, Nat.le_add_right _ _⟩ ⟨_, rfl, (by omega), ⟨m1, g1, rfl, hI.en (by omega)⟩⟩
      · refine tz_aload_n (pc := 46) dX5_readBank_46 rfl rfl ?_
        refine tz_fI (pc := 47) (kz := 5) (v := (J1 163 5)) dX5_readBank_47 fl_X5_15 i_163_5 rfl rfl (fun r_47 => ?_)
        refine tz_if_eq (pc := 50) (tgt := 152) dX5_readBank_50 (by decide) (by omega) (fun h_50 => ?_) (fun h_50 => ?_)
        · refine tz_aload_n (pc := 152) dX5_readBank_152 rfl rfl ?_
          refine tz_fI (pc := 153) (kz := 8) (v := (J1 163 8)) dX5_readBank_153 fl_X5_24 i_163_8 rfl rfl (fun r_153 => ?_)
          exact tz_iret (pc := 156) (z := (J1 163 8)) dX5_readBank_156 rfl (Nat.le_of_ble_eq_true rfl) (Nat.le_of_ble_eq_true rfl) ⟨Nat.le_refl _, Nat.le_add_right _ _⟩ ⟨_, rfl, (by omega), ⟨m1, g1, rfl, hI.en (by omega)⟩⟩
        · refine tz_aload_n (pc := 53) dX5_readBank_53 rfl rfl ?_
          refine tz_fI (pc := 54) (kz := 8) (v := (J1 163 8)) dX5_readBank_54 fl_X5_24 i_163_8 rfl rfl (fun r_54 => ?_)
          refine tz_if_ne (pc := 57) (tgt := 152) dX5_readBank_57 (by decide) (by omega) (fun h_57 => ?_) (fun h_57 => ?_)
          · refine tz_aload_n (pc := 152) dX5_readBank_152 rfl rfl ?_
            refine tz_fI (pc := 153) (kz := 8) (v := (J1 163 8)) dX5_readBank_153 fl_X5_24 i_163_8 rfl rfl (fun r_153 => ?_)
            exact tz_iret (pc := 156) (z := (J1 163 8)) dX5_readBank_156 rfl (Nat.le_of_ble_eq_true rfl) (Nat.le_of_ble_eq_true rfl) ⟨Nat.le_refl _, Nat.le_add_right _ _⟩ ⟨_, rfl, (by omega), ⟨m1, g1, rfl, hI.en (by omega)⟩⟩
          · obtain ⟨gg, hB, hX, ha, hs⟩ := id hI
            have h9 : gg 0 4 = 0 := (hX.bad (by omega)).elim (fun q => absurd q hB.2.1) (fun q => q.1)
            have hk3 : ¬ gg 0 3 = 0 := by
              have := ((hX.resolve_left hB.2.1).2.2 h9).1.2.1
              omega
            have h31 : J1 156 3 = -1 := g1.2.2.trans h3
            refine tz_aload_n (pc := 60) dX5_readBank_60 rfl rfl ?_
            refine tz_word (pc := 61) (ik := 68) (tx := "symbol") (bs := [115, 121, 109, 98, 111, 108]) (by decide) rfl (x_isWord hl n _ [115, 121, 109, 98, 111, 108] (by decide) hnb g1.1.2.2.2.1) hnb vl_X5_70 rfl dX5_readBank_61 dX5_readBank_63 (Nat.le_of_ble_eq_true rfl) ⟨(Nat.le_of_ble_eq_true rfl), (Nat.le_of_ble_eq_true rfl)⟩ (Nat.le_of_ble_eq_true rfl) (Nat.le_of_ble_eq_true rfl) (fun z_61 J9 hz_61 hq9 => ?_)
            obtain ⟨rfl, hv_61⟩ := hq9
            have hw_61 := hv_61.imp (fun q => (⟨q.1, q.2.1, isw_symbol.1 q.2.2⟩ : _ ∧ _ ∧ _)) (fun q => (⟨q.1, fun r => q.2 ⟨r.1, isw_symbol.2 r.2⟩⟩ : _ ∧ ¬ (_ ∧ _)))
            have hc_61 : z_61 = 0 ∨ z_61 = 1 := hv_61.elim (fun q => Or.inr q.1) (fun q => Or.inl q.1)
            clear hv_61
            refine tz_if_eq (pc := 66) (tgt := 76) dX5_readBank_66 (by decide) (by omega) (fun h_66 => ?_) (fun h_66 => ?_)
            · refine tz_aload_n (pc := 76) dX5_readBank_76 rfl rfl ?_
              refine tz_word (pc := 77) (ik := 77) (tx := "term") (bs := [116, 101, 114, 109]) (by decide) rfl (x_isWord hl n _ [116, 101, 114, 109] (by decide) hnb g1.1.2.2.2.1) hnb vl_X5_70 rfl dX5_readBank_77 dX5_readBank_79 (Nat.le_of_ble_eq_true rfl) ⟨(Nat.le_of_ble_eq_true rfl), (Nat.le_of_ble_eq_true rfl)⟩ (Nat.le_of_ble_eq_true rfl) (Nat.le_of_ble_eq_true rfl) (fun z_77 J9 hz_77 hq9 => ?_)
              obtain ⟨rfl, hv_77⟩ := hq9
              have hw_77 := hv_77.imp (fun q => (⟨q.1, q.2.1, isw_term.1 q.2.2⟩ : _ ∧ _ ∧ _)) (fun q => (⟨q.1, fun r => q.2 ⟨r.1, isw_term.2 r.2⟩⟩ : _ ∧ ¬ (_ ∧ _)))
              have hc_77 : z_77 = 0 ∨ z_77 = 1 := hv_77.elim (fun q => Or.inr q.1) (fun q => Or.inl q.1)
              clear hv_77
              refine tz_if_eq (pc := 82) (tgt := 92) dX5_readBank_82 (by decide) (by omega) (fun h_82 => ?_) (fun h_82 => ?_)
              · refine tz_aload_n (pc := 92) dX5_readBank_92 rfl rfl ?_
                refine tz_word (pc := 93) (ik := 82) (tx := "rule") (bs := [114, 117, 108, 101]) (by decide) rfl (x_isWord hl n _ [114, 117, 108, 101] (by decide) hnb g1.1.2.2.2.1) hnb vl_X5_70 rfl dX5_readBank_93 dX5_readBank_95 (Nat.le_of_ble_eq_true rfl) ⟨(Nat.le_of_ble_eq_true rfl), (Nat.le_of_ble_eq_true rfl)⟩ (Nat.le_of_ble_eq_true rfl) (Nat.le_of_ble_eq_true rfl) (fun z_93 J9 hz_93 hq9 => ?_)
                obtain ⟨rfl, hv_93⟩ := hq9
                have hw_93 := hv_93.imp (fun q => (⟨q.1, q.2.1, isw_rule.1 q.2.2⟩ : _ ∧ _ ∧ _)) (fun q => (⟨q.1, fun r => q.2 ⟨r.1, isw_rule.2 r.2⟩⟩ : _ ∧ ¬ (_ ∧ _)))
                have hc_93 : z_93 = 0 ∨ z_93 = 1 := hv_93.elim (fun q => Or.inr q.1) (fun q => Or.inl q.1)
                clear hv_93
                refine tz_if_eq (pc := 98) (tgt := 108) dX5_readBank_98 (by decide) (by omega) (fun h_98 => ?_) (fun h_98 => ?_)
                · refine tz_aload_n (pc := 108) dX5_readBank_108 rfl rfl ?_
                  refine tz_word (pc := 109) (ik := 87) (tx := "entry") (bs := [101, 110, 116, 114, 121]) (by decide) rfl (x_isWord hl n _ [101, 110, 116, 114, 121] (by decide) hnb g1.1.2.2.2.1) hnb vl_X5_70 rfl dX5_readBank_109 dX5_readBank_111 (Nat.le_of_ble_eq_true rfl) ⟨(Nat.le_of_ble_eq_true rfl), (Nat.le_of_ble_eq_true rfl)⟩ (Nat.le_of_ble_eq_true rfl) (Nat.le_of_ble_eq_true rfl) (fun z_109 J9 hz_109 hq9 => ?_)
                  obtain ⟨rfl, hv_109⟩ := hq9
                  have hw_109 := hv_109.imp (fun q => (⟨q.1, q.2.1, isw_entry.1 q.2.2⟩ : _ ∧ _ ∧ _)) (fun q => (⟨q.1, fun r => q.2 ⟨r.1, isw_entry.2 r.2⟩⟩ : _ ∧ ¬ (_ ∧ _)))
                  have hc_109 : z_109 = 0 ∨ z_109 = 1 := hv_109.elim (fun q => Or.inr q.1) (fun q => Or.inl q.1)
                  clear hv_109
                  refine tz_if_eq (pc := 114) (tgt := 124) dX5_readBank_114 (by decide) (by omega) (fun h_114 => ?_) (fun h_114 => ?_)
                  · refine tz_aload_n (pc := 124) dX5_readBank_124 rfl rfl ?_
                    refine tz_word (pc := 125) (ik := 92) (tx := "room") (bs := [114, 111, 111, 109]) (by decide) rfl (x_isWord hl n _ [114, 111, 111, 109] (by decide) hnb g1.1.2.2.2.1) hnb vl_X5_70 rfl dX5_readBank_125 dX5_readBank_127 (Nat.le_of_ble_eq_true rfl) ⟨(Nat.le_of_ble_eq_true rfl), (Nat.le_of_ble_eq_true rfl)⟩ (Nat.le_of_ble_eq_true rfl) (Nat.le_of_ble_eq_true rfl) (fun z_125 J9 hz_125 hq9 => ?_)
                    obtain ⟨rfl, hv_125⟩ := hq9
                    have hw_125 := hv_125.imp (fun q => (⟨q.1, q.2.1, isw_room.1 q.2.2⟩ : _ ∧ _ ∧ _)) (fun q => (⟨q.1, fun r => q.2 ⟨r.1, isw_room.2 r.2⟩⟩ : _ ∧ ¬ (_ ∧ _)))
                    have hc_125 : z_125 = 0 ∨ z_125 = 1 := hv_125.elim (fun q => Or.inr q.1) (fun q => Or.inl q.1)
                    clear hv_125
                    refine tz_if_eq (pc := 130) (tgt := 140) dX5_readBank_130 (by decide) (by omega) (fun h_130 => ?_) (fun h_130 => ?_)
                    · refine tz_aload_n (pc := 140) dX5_readBank_140 rfl rfl ?_
                      refine tz_iconst (pc := 141) dX5_readBank_141 ?_
                      refine tz_cV (pc := 142) (w_fail hl n _ _ (by decide) gg (by decide) hX) vl_X5_97 dX5_readBank_142 o_163 rfl rfl (Nat.le_of_ble_eq_true rfl) ⟨(Nat.le_of_ble_eq_true rfl), (Nat.le_of_ble_eq_true rfl)⟩ rfl rfl (Nat.le_of_ble_eq_true rfl) (Nat.le_of_ble_eq_true rfl) (fun r9 J_142 hq9 => ?_)
                      obtain ⟨z_142, rfl, hz_142, g_142, d_142, e_142, v_142, x_142⟩ := hq9
                      have q_142 := RQ6.rn g1 g_142 (d_142 g1.1.2.2.2)
                      rw [← pCl_6 (fun r => (hw_61.elim (fun q => absurd q.1 (by omega)) (fun q => q.2)) ((pIs_c hX h9).1 r)) (fun r => (hw_77.elim (fun q => absurd q.1 (by omega)) (fun q => q.2)) ((pIs_c hX h9).1 r)) (fun r => (hw_93.elim (fun q => absurd q.1 (by omega)) (fun q => q.2)) ((pIs_c hX h9).1 r)) (fun r => (hw_109.elim (fun q => absurd q.1 (by omega)) (fun q => q.2)) ((pIs_c hX h9).1 r)) (fun r => (hw_125.elim (fun q => absurd q.1 (by omega)) (fun q => q.2)) ((pIs_c hX h9).1 r)) h9] at x_142
                      have c_142 := CRI.st hB h9 hk3 (by omega) ha hs x_142
                      refine tz_pop (pc := 145) dX5_readBank_145 rfl ?_
                      refine tz_iinc (pc := 146) (z := k + 1) (L2 := [_, _, _]) dX5_readBank_146 rfl (by omega) rfl ?_
                      refine tz_goto (pc := 149) (tgt := 39) dX5_readBank_149 (by decide) ?_
                      exact ih39 (k + 1) _ m1 (by omega) (by omega) q_142 c_142
                    · refine tz_aload_n (pc := 133) dX5_readBank_133 rfl rfl ?_
                      refine tz_cV (pc := 134) (w_readRoom hl n _ m1 gg hnb g1.1.1 g1.1.2.1 g1.1.2.2.1 g1.1.2.2.2 hX hB.1 h9) vl_X5_94 dX5_readBank_134 o_163 rfl rfl (Nat.le_of_ble_eq_true rfl) ⟨(Nat.le_of_ble_eq_true rfl), (Nat.le_of_ble_eq_true rfl)⟩ rfl rfl (Nat.le_of_ble_eq_true rfl) (Nat.le_of_ble_eq_true rfl) (fun r9 J_134 hq9 => ?_)
                      obtain ⟨rfl, m_134, x_134, y_134⟩ := hq9
                      have q_134 := g1.tr x_134
                      rw [← pCl_5 (fun r => (hw_61.elim (fun q => absurd q.1 (by omega)) (fun q => q.2)) ((pIs_c hX h9).1 r)) (fun r => (hw_77.elim (fun q => absurd q.1 (by omega)) (fun q => q.2)) ((pIs_c hX h9).1 r)) (fun r => (hw_93.elim (fun q => absurd q.1 (by omega)) (fun q => q.2)) ((pIs_c hX h9).1 r)) (fun r => (hw_109.elim (fun q => absurd q.1 (by omega)) (fun q => q.2)) ((pIs_c hX h9).1 r)) ((pIs_c hX h9).2 (hw_125.elim (fun q => q.2) (fun q => absurd q.1 (by omega))))] at y_134
                      have c_134 := CRI.st hB h9 hk3 (by omega) ha hs y_134
                      refine tz_goto (pc := 137) (tgt := 146) dX5_readBank_137 (by decide) ?_
                      refine tz_iinc (pc := 146) (z := k + 1) (L2 := [_, _, _]) dX5_readBank_146 rfl (by omega) rfl ?_
                      refine tz_goto (pc := 149) (tgt := 39) dX5_readBank_149 (by decide) ?_
                      exact ih39 (k + 1) _ m_134 (by omega) (by omega) q_134 c_134
                  · refine tz_aload_n (pc := 117) dX5_readBank_117 rfl rfl ?_
                    refine tz_cV (pc := 118) (w_readEntry hl n _ m1 gg hnb g1.1.1 g1.1.2.1 g1.1.2.2.1 g1.1.2.2.2 hX hB.1 h9) vl_X5_89 dX5_readBank_118 o_163 rfl rfl (Nat.le_of_ble_eq_true rfl) ⟨(Nat.le_of_ble_eq_true rfl), (Nat.le_of_ble_eq_true rfl)⟩ rfl rfl (Nat.le_of_ble_eq_true rfl) (Nat.le_of_ble_eq_true rfl) (fun r9 J_118 hq9 => ?_)
                    obtain ⟨rfl, m_118, x_118, y_118⟩ := hq9
                    have q_118 := g1.tr x_118
                    rw [← pCl_4 (fun r => (hw_61.elim (fun q => absurd q.1 (by omega)) (fun q => q.2)) ((pIs_c hX h9).1 r)) (fun r => (hw_77.elim (fun q => absurd q.1 (by omega)) (fun q => q.2)) ((pIs_c hX h9).1 r)) (fun r => (hw_93.elim (fun q => absurd q.1 (by omega)) (fun q => q.2)) ((pIs_c hX h9).1 r)) ((pIs_c hX h9).2 (hw_109.elim (fun q => q.2) (fun q => absurd q.1 (by omega))))] at y_118
                    have c_118 := CRI.st hB h9 hk3 (by omega) ha hs y_118
                    refine tz_goto (pc := 121) (tgt := 146) dX5_readBank_121 (by decide) ?_
                    refine tz_iinc (pc := 146) (z := k + 1) (L2 := [_, _, _]) dX5_readBank_146 rfl (by omega) rfl ?_
                    refine tz_goto (pc := 149) (tgt := 39) dX5_readBank_149 (by decide) ?_
                    exact ih39 (k + 1) _ m_118 (by omega) (by omega) q_118 c_118
                · refine tz_aload_n (pc := 101) dX5_readBank_101 rfl rfl ?_
                  refine tz_cV (pc := 102) (w_readRule hl n _ m1 gg hnb g1.1.1 g1.1.2.1 g1.1.2.2.1 g1.1.2.2.2 hX hB.1 h9 h31) vl_X5_84 dX5_readBank_102 o_163 rfl rfl (Nat.le_of_ble_eq_true rfl) ⟨(Nat.le_of_ble_eq_true rfl), (Nat.le_of_ble_eq_true rfl)⟩ rfl rfl (Nat.le_of_ble_eq_true rfl) (Nat.le_of_ble_eq_true rfl) (fun r9 J_102 hq9 => ?_)
                  obtain ⟨rfl, m_102, x_102, y_102⟩ := hq9
                  have q_102 := g1.tr x_102
                  rw [← pCl_3 (fun r => (hw_61.elim (fun q => absurd q.1 (by omega)) (fun q => q.2)) ((pIs_c hX h9).1 r)) (fun r => (hw_77.elim (fun q => absurd q.1 (by omega)) (fun q => q.2)) ((pIs_c hX h9).1 r)) ((pIs_c hX h9).2 (hw_93.elim (fun q => q.2) (fun q => absurd q.1 (by omega))))] at y_102
                  have c_102 := CRI.st hB h9 hk3 (by omega) ha hs y_102
                  refine tz_goto (pc := 105) (tgt := 146) dX5_readBank_105 (by decide) ?_
                  refine tz_iinc (pc := 146) (z := k + 1) (L2 := [_, _, _]) dX5_readBank_146 rfl (by omega) rfl ?_
                  refine tz_goto (pc := 149) (tgt := 39) dX5_readBank_149 (by decide) ?_
                  exact ih39 (k + 1) _ m_102 (by omega) (by omega) q_102 c_102
              · refine tz_aload_n (pc := 85) dX5_readBank_85 rfl rfl ?_
                refine tz_cV (pc := 86) (w_readLone hl n _ m1 gg hnb g1.1.1 g1.1.2.1 g1.1.2.2.1 g1.1.2.2.2 hX hB.1 h9) vl_X5_79 dX5_readBank_86 o_163 rfl rfl (Nat.le_of_ble_eq_true rfl) ⟨(Nat.le_of_ble_eq_true rfl), (Nat.le_of_ble_eq_true rfl)⟩ rfl rfl (Nat.le_of_ble_eq_true rfl) (Nat.le_of_ble_eq_true rfl) (fun r9 J_86 hq9 => ?_)
                obtain ⟨rfl, m_86, x_86, y_86⟩ := hq9
                have q_86 := g1.tr x_86
                rw [← pCl_2 (fun r => (hw_61.elim (fun q => absurd q.1 (by omega)) (fun q => q.2)) ((pIs_c hX h9).1 r)) ((pIs_c hX h9).2 (hw_77.elim (fun q => q.2) (fun q => absurd q.1 (by omega))))] at y_86
                have c_86 := CRI.st hB h9 hk3 (by omega) ha hs y_86
                refine tz_goto (pc := 89) (tgt := 146) dX5_readBank_89 (by decide) ?_
                refine tz_iinc (pc := 146) (z := k + 1) (L2 := [_, _, _]) dX5_readBank_146 rfl (by omega) rfl ?_
                refine tz_goto (pc := 149) (tgt := 39) dX5_readBank_149 (by decide) ?_
                exact ih39 (k + 1) _ m_86 (by omega) (by omega) q_86 c_86
            · refine tz_aload_n (pc := 69) dX5_readBank_69 rfl rfl ?_
              refine tz_cV (pc := 70) (w_readSym hl n _ m1 gg hnb g1.1.1 g1.1.2.1 g1.1.2.2.1 g1.1.2.2.2 hX hB.1 h9) vl_X5_74 dX5_readBank_70 o_163 rfl rfl (Nat.le_of_ble_eq_true rfl) ⟨(Nat.le_of_ble_eq_true rfl), (Nat.le_of_ble_eq_true rfl)⟩ rfl rfl (Nat.le_of_ble_eq_true rfl) (Nat.le_of_ble_eq_true rfl) (fun r9 J_70 hq9 => ?_)
              obtain ⟨rfl, m_70, x_70, y_70⟩ := hq9
              have q_70 := g1.tr x_70
              rw [← pCl_1 ((pIs_c hX h9).2 (hw_61.elim (fun q => q.2) (fun q => absurd q.1 (by omega))))] at y_70
              have c_70 := CRI.st hB h9 hk3 (by omega) ha hs y_70
              refine tz_goto (pc := 73) (tgt := 146) dX5_readBank_73 (by decide) ?_
              refine tz_iinc (pc := 146) (z := k + 1) (L2 := [_, _, _]) dX5_readBank_146 rfl (by omega) rfl ?_
              refine tz_goto (pc := 149) (tgt := 39) dX5_readBank_149 (by decide) ?_
              exact ih39 (k + 1) _ m_70 (by omega) (by omega) q_70 c_70
  exact loop39 _ 0 _ m (Nat.lt_succ_self _) (by omega) q9 ⟨_, hG, x9, rfl, fun _ => hG.1.2.1.1⟩

end
section
/-! ===== feed and bank of the class ===== -/
theorem bv8 (x : BitVec 32) (s : Nat) (hs : s ≤ 24) : (x >>> s) &&& 255#32 = (x.sshiftRight s) &&& 255#32 := by
  apply BitVec.eq_of_getLsbD_eq
  intro i hi
  rw [BitVec.getLsbD_and, BitVec.getLsbD_and, BitVec.getLsbD_ushiftRight, BitVec.getLsbD_sshiftRight]
  by_cases h8 : i < 8
  · rw [if_pos (by omega)]
    simp [show ¬ (32 ≤ i) by omega]
  · have : (255#32).getLsbD i = false := by
      have : ∀ j : Fin 32, ¬ j.1 < 8 → (255#32).getLsbD j.1 = false := by decide
      exact this ⟨i, hi⟩ h8
    rw [this, Bool.and_false, Bool.and_false]
theorem sh24 (x : Int32) : ((x.toUInt32 >>> ((Int32.ofInt 24).toUInt32 &&& Int32.toUInt32 31)).toInt32 &&& 255) = ((x >>> (Int32.ofInt 24 &&& 31)) &&& 255) := by
  apply Int32.toBitVec_inj.1
  exact bv8 x.toBitVec 24 (by decide)
theorem sh16 (x : Int32) : ((x.toUInt32 >>> ((Int32.ofInt 16).toUInt32 &&& Int32.toUInt32 31)).toInt32 &&& 255) = ((x >>> (Int32.ofInt 16 &&& 31)) &&& 255) := by
  apply Int32.toBitVec_inj.1
  exact bv8 x.toBitVec 16 (by decide)
theorem sh08 (x : Int32) : ((x.toUInt32 >>> ((Int32.ofInt 8).toUInt32 &&& Int32.toUInt32 31)).toInt32 &&& 255) = ((x >>> (Int32.ofInt 8 &&& 31)) &&& 255) := by
  apply Int32.toBitVec_inj.1
  exact bv8 x.toBitVec 8 (by decide)
theorem sh00 (x : Int32) : ((x.toUInt32 >>> ((Int32.ofInt 0).toUInt32 &&& Int32.toUInt32 31)).toInt32 &&& 255) = ((x >>> (Int32.ofInt 0 &&& 31)) &&& 255) := by
  apply Int32.toBitVec_inj.1
  exact bv8 x.toBitVec 0 (by decide)
theorem z255 {a s : Int} (h : s = 24 ∨ s = 16 ∨ s = 8 ∨ s = 0) : zand (zushr a s) 255 = zand (zshr a s) 255 := by
  unfold zand zushr zshr
  rw [Int32.ofInt_toInt, Int32.ofInt_toInt]
  refine congrArg Int32.toInt ?_
  rcases h with rfl | rfl | rfl | rfl
  · exact sh24 _
  · exact sh16 _
  · exact sh08 _
  · exact sh00 _
/-- a byte of a number, of five numbers -/
def wB (v k : Int) : Int := zand (zshr v (24 - 8 * k)) 255
def fB (a b c d e k : Int) : Int := wB (if k < 4 then a else if k < 8 then b else if k < 12 then c else if k < 16 then d else e) (k % 4)
theorem tpN {J1 J : zJ} {a q : Int} (hq : (-8 ≤ q ∧ q ≤ 24) ∧ 8 * (J1 0 13 - J 0 13) = 24 - q) (h0 : 0 ≤ q) (t : ∀ x, J1 162 x = if J 0 13 ≤ x ∧ x < J1 0 13 then wB a (x - J 0 13) else J 162 x) : ∀ x, zup (zup J1 162 (J1 0 13) (zand (zushr a q) 255)) 0 13 (J1 0 13 + 1) 162 x = if J 0 13 ≤ x ∧ x < J1 0 13 + 1 then wB a (x - J 0 13) else J 162 x := fun x => by
  show (if x = J1 0 13 then zand (zushr a q) 255 else J1 162 x) = _
  by_cases e : x = J1 0 13
  · rw [if_pos e, if_pos (by omega), z255 (by omega)]
    unfold wB
    rw [show 24 - 8 * (x - J 0 13) = q from by omega]
  · rw [if_neg e, t x]
    by_cases c : J 0 13 ≤ x ∧ x < J1 0 13
    · rw [if_pos c, if_pos (by omega)]
    · rw [if_neg c, if_neg (by omega)]
theorem fd5 {T5 T4 T3 T2 T1 T0 : Int → Int} {p p1 p2 p3 p4 a b c d e : Int} (e1 : p1 = p + 4) (e2 : p2 = p1 + 4) (e3 : p3 = p2 + 4) (e4 : p4 = p3 + 4) (h1 : ∀ x, T1 x = if p ≤ x ∧ x < p + 4 then wB a (x - p) else T0 x) (h2 : ∀ x, T2 x = if p1 ≤ x ∧ x < p1 + 4 then wB b (x - p1) else T1 x) (h3 : ∀ x, T3 x = if p2 ≤ x ∧ x < p2 + 4 then wB c (x - p2) else T2 x) (h4 : ∀ x, T4 x = if p3 ≤ x ∧ x < p3 + 4 then wB d (x - p3) else T3 x) (h5 : ∀ x, T5 x = if p4 ≤ x ∧ x < p4 + 4 then wB e (x - p4) else T4 x) : ∀ x, T5 x = if p ≤ x ∧ x < p + 20 then fB a b c d e (x - p) else T0 x := fun x => by
  unfold fB
  rw [h5]
  by_cases c5 : p4 ≤ x ∧ x < p4 + 4
  · rw [if_pos c5, if_pos (by omega), if_neg (by omega), if_neg (by omega), if_neg (by omega), if_neg (by omega), show x - p4 = (x - p) % 4 from by omega]
  rw [if_neg c5, h4]
  by_cases c4 : p3 ≤ x ∧ x < p3 + 4
  · rw [if_pos c4, if_pos (by omega), if_neg (by omega), if_neg (by omega), if_neg (by omega), if_pos (by omega), show x - p3 = (x - p) % 4 from by omega]
  rw [if_neg c4, h3]
  by_cases c3 : p2 ≤ x ∧ x < p2 + 4
  · rw [if_pos c3, if_pos (by omega), if_neg (by omega), if_neg (by omega), if_pos (by omega), show x - p2 = (x - p) % 4 from by omega]
  rw [if_neg c3, h2]
  by_cases c2 : p1 ≤ x ∧ x < p1 + 4
  · rw [if_pos c2, if_pos (by omega), if_neg (by omega), if_pos (by omega), show x - p1 = (x - p) % 4 from by omega]
  rw [if_neg c2, h1]
  by_cases c1 : p ≤ x ∧ x < p + 4
  · rw [if_pos c1, if_pos (by omega), if_pos (by omega), show x - p = (x - p) % 4 from by omega]
    congr 1
    omega
  rw [if_neg c1, if_neg (by omega)]
set_option maxHeartbeats 4000000 in
set_option maxRecDepth 100000 in
theorem x_tapeN {l : Launch} {G : tb_G} (hl : l.stackTraces = false) (n : Nat) (J : zJ) (a : Int) (hr_a : -2147483648 ≤ a ∧ a < 2147483648)  (h0 : 0 ≤ J 0 13 ∧ J 0 13 + 4 ≤ 700) : tz_Ok l G M_X11_tapeNumber 0 0 0 [.ref 0, zi a] n J (zqv (fun J' => zOf (zbut [0, 162]) J' J ∧ (∀ k, ¬ k = 13 → J' 0 k = J 0 k) ∧ J' 0 13 = J 0 13 + 4 ∧ ∀ x, J' 162 x = if J 0 13 ≤ x ∧ x < J 0 13 + 4 then wB a (x - J 0 13) else J 162 x)) zN := by
  refine tz_Ok.of hl (by decide +kernel) rfl (tb_c1 rfl) (Nat.le_of_ble_eq_true rfl) ?_
  show tz_At l G M_X11_tapeNumber (tb_rm 0 0 0) none (tb_ZM G 0 0 (zQ n 0 (zqv (fun J' => zOf (zbut [0, 162]) J' J ∧ (∀ k, ¬ k = 13 → J' 0 k = J 0 k) ∧ J' 0 13 = J 0 13 + 4 ∧ ∀ x, J' 162 x = if J 0 13 ≤ x ∧ x < J 0 13 + 4 then wB a (x - J 0 13) else J 162 x))) (zX n 0 zN)) 0 0 n J 0 [some (.ref 0), some (zi a), none] []
  refine tz_bipush (pc := 0) dX11_tapeNumber_0 (by decide) ?_
  refine tz_istore_n (pc := 2) (L2 := [_, _, _]) dX11_tapeNumber_2 rfl (by decide) rfl ?_
  have loop3 : ∀ (f9 : Nat) (q : Int) (J1 : zJ), ((q + 8).toNat) < f9 → ((-8 ≤ q ∧ q ≤ 24) ∧ 8 * (J1 0 13 - J 0 13) = 24 - q) → (zOf (zbut [0, 162]) J1 J ∧ ∀ k, ¬ k = 13 → J1 0 k = J 0 k) → (∀ x, J1 162 x = if J 0 13 ≤ x ∧ x < J1 0 13 then wB a (x - J 0 13) else J 162 x) → tz_At l G M_X11_tapeNumber (tb_rm 0 0 0) none (tb_ZM G 0 0 (zQ n 0 (zqv (fun J' => zOf (zbut [0, 162]) J' J ∧ (∀ k, ¬ k = 13 → J' 0 k = J 0 k) ∧ J' 0 13 = J 0 13 + 4 ∧ ∀ x, J' 162 x = if J 0 13 ≤ x ∧ x < J 0 13 + 4 then wB a (x - J 0 13) else J 162 x))) (zX n 0 zN)) 0 0 n J1 3 [some (.ref 0), some (zi a), some (zi q)] [] := by
    intro f9
    induction f9 with
    | zero => intro q J1 hm9; exact absurd hm9 (Nat.not_lt_zero _)
    | succ f9 ih3 =>
      intro q J1 hm3 hq f1 t1
      refine tz_iload_n (pc := 3) dX11_tapeNumber_3 rfl rfl ?_
      refine tz_if_lt (pc := 4) (tgt := 49) dX11_tapeNumber_4 (by decide) (by omega) (fun h_4 => ?_) (fun h_4 => ?_)
      · exact tz_vret (pc := 49) dX11_tapeNumber_49 rfl (Nat.le_of_ble_eq_true rfl) (Nat.le_of_ble_eq_true rfl) ⟨Nat.le_refl _, Nat.le_add_right _ _⟩ ⟨rfl, ⟨f1.1, f1.2, by omega, fun x => by rw [t1 x, show J1 0 13 = J 0 13 + 4 from by omega]⟩⟩
      · refine tz_aload_n (pc := 7) dX11_tapeNumber_7 rfl rfl ?_
        refine tz_fI (pc := 8) (kz := 13) (v := (J1 0 13)) dX11_tapeNumber_8 fl_X11_107 i_0_13 rfl rfl (fun r_8 => ?_)
        refine tz_sipush (pc := 11) dX11_tapeNumber_11 (by decide) ?_
        refine tz_icmp_geF (pc := 14) (tgt := 49) (by omega) dX11_tapeNumber_14 (by decide) (by omega) (by decide) ?_
        refine tz_aload_n (pc := 17) dX11_tapeNumber_17 rfl rfl ?_
        refine tz_fR (pc := 18) dX11_tapeNumber_18 fl_X11_94 r_0_12 ?_
        refine tz_aload_n (pc := 21) dX11_tapeNumber_21 rfl rfl ?_
        refine tz_fI (pc := 22) (kz := 13) (v := (J1 0 13)) dX11_tapeNumber_22 fl_X11_107 i_0_13 rfl rfl (fun r_22 => ?_)
        refine tz_iload_n (pc := 25) dX11_tapeNumber_25 rfl rfl ?_
        refine tz_iload_n (pc := 26) dX11_tapeNumber_26 rfl rfl ?_
        refine tz_iushr (pc := 27) (v := zushr a q) dX11_tapeNumber_27 rfl ?_
        refine tz_sipush (pc := 28) dX11_tapeNumber_28 (by decide) ?_
        refine tz_iand (pc := 31) (v := zand (zushr a q) 255) dX11_tapeNumber_31 rfl ?_
        have r_31 := zand_rg (zushr a q) 255
        refine tz_aS (pc := 32) (z := (J1 0 13)) dX11_tapeNumber_32 a_162 rfl (by omega) (zand_rg _ _) ?_
        refine tz_aload_n (pc := 33) dX11_tapeNumber_33 rfl rfl ?_
        refine tz_dup (pc := 34) dX11_tapeNumber_34 rfl ?_
        refine tz_fI (pc := 35) (kz := 13) (v := (J1 0 13)) dX11_tapeNumber_35 fl_X11_107 i_0_13 rfl rfl (fun r_35 => ?_)
        refine tz_iconst (pc := 38) dX11_tapeNumber_38 ?_
        refine tz_iadd (pc := 39) (v := (J1 0 13) + 1) dX11_tapeNumber_39 rfl ?_
        refine tz_pI (pc := 40) (kz := 13) dX11_tapeNumber_40 fl_X11_107 i_0_13 rfl rfl (by omega) ?_
        refine tz_iinc (pc := 43) (z := q - 8) (L2 := [_, _, _]) dX11_tapeNumber_43 rfl (by omega) rfl ?_
        refine tz_goto (pc := 46) (tgt := 3) dX11_tapeNumber_46 (by decide) ?_
        exact ih3 (q - 8) _ (by omega) ⟨by omega, by show 8 * (J1 0 13 + 1 - J 0 13) = 24 - (q - 8); omega⟩ ⟨zOf.up rfl (zOf.up rfl f1.1), fun k hk => (zup_ne hk).trans (f1.2 k hk)⟩ (tpN hq (by omega) t1)
  exact loop3 _ 24 _ (Nat.lt_succ_self _) (by omega) ⟨zOf.rf, fun _ _ => rfl⟩ (fun x => (if_neg (by omega)).symm)

set_option maxHeartbeats 4000000 in
set_option maxRecDepth 100000 in
theorem x_startAnew {l : Launch} {G : tb_G} (hl : l.stackTraces = false) (n : Nat) (J : zJ)     : tz_Ok l G M_X11_startAnew 3 0 0 [.ref 0] n J (zqv (fun J' => ((CT J' 0 ∧ J' 6 12 = 0 ∧ LI (J' 19) 0) ∧ CE J') ∧ zOf (zbut [1, 6, 16, 19]) J' J)) zN := by
  refine tz_Ok.of hl (by decide +kernel) rfl (tb_c1 rfl) (Nat.le_of_ble_eq_true rfl) ?_
  show tz_At l G M_X11_startAnew (tb_rm 3 0 0) none (tb_ZM G 0 0 (zQ n 0 (zqv (fun J' => ((CT J' 0 ∧ J' 6 12 = 0 ∧ LI (J' 19) 0) ∧ CE J') ∧ zOf (zbut [1, 6, 16, 19]) J' J))) (zX n 0 zN)) 0 0 n J 0 [some (.ref 0)] []
  refine tz_aload_n (pc := 0) dX11_startAnew_0 rfl rfl ?_
  refine tz_fR (pc := 1) dX11_startAnew_1 fl_X11_10 r_0_0 ?_
  refine tz_cV (pc := 4) (c_syEmpty hl n _) vl_X11_162 dX11_startAnew_4 o_1 rfl rfl (Nat.le_of_ble_eq_true rfl) ⟨(Nat.le_of_ble_eq_true rfl), (Nat.le_of_ble_eq_true rfl)⟩ rfl rfl (Nat.le_of_ble_eq_true rfl) (Nat.le_of_ble_eq_true rfl) (fun r9 J_4 hq9 => ?_)
  obtain ⟨rfl, rfl⟩ := hq9
  refine tz_aload_n (pc := 7) dX11_startAnew_7 rfl rfl ?_
  refine tz_fR (pc := 8) dX11_startAnew_8 fl_X11_29 r_0_1 ?_
  refine tz_fR (pc := 11) dX11_startAnew_11 fl_X11_49 r_5_0 ?_
  refine tz_cV (pc := 14) (c_teEmpty hl n _) vl_X11_165 dX11_startAnew_14 o_6 rfl rfl (Nat.le_of_ble_eq_true rfl) ⟨(Nat.le_of_ble_eq_true rfl), (Nat.le_of_ble_eq_true rfl)⟩ rfl rfl (Nat.le_of_ble_eq_true rfl) (Nat.le_of_ble_eq_true rfl) (fun r9 J_14 hq9 => ?_)
  obtain ⟨rfl, rfl⟩ := hq9
  refine tz_aload_n (pc := 17) dX11_startAnew_17 rfl rfl ?_
  refine tz_fR (pc := 18) dX11_startAnew_18 fl_X11_29 r_0_1 ?_
  refine tz_fR (pc := 21) dX11_startAnew_21 fl_X11_156 r_5_1 ?_
  refine tz_cV (pc := 24) (c_leEmpty hl n _) vl_X11_166 dX11_startAnew_24 o_18 rfl rfl (Nat.le_of_ble_eq_true rfl) ⟨(Nat.le_of_ble_eq_true rfl), (Nat.le_of_ble_eq_true rfl)⟩ rfl rfl (Nat.le_of_ble_eq_true rfl) (Nat.le_of_ble_eq_true rfl) (fun r9 J1 hq9 => ?_)
  obtain ⟨rfl, f1, e1⟩ := hq9
  exact tz_vret (pc := 27) dX11_startAnew_27 rfl (Nat.le_of_ble_eq_true rfl) (Nat.le_of_ble_eq_true rfl) ⟨Nat.le_refl _, Nat.le_add_right _ _⟩ ⟨rfl, ⟨⟨⟨CT.none ⟨by rw [f1 1 rfl]; exact ⟨Int.le_refl 0, by show (0 : Int) ≤ 10; decide⟩, fun k a b => absurd b (by rw [f1 1 rfl]; show ¬ k < 0; omega)⟩ (fun k a b => absurd b (by rw [f1 1 rfl]; show ¬ k < 0; omega)) (fun b x y => by rw [f1 16 rfl]; exact zfl_in y), by rw [f1 6 rfl]; rfl, LI.new (Int.le_refl 0) e1⟩, by rw [f1 1 rfl]; rfl, by rw [f1 6 rfl]; rfl, (e1 4 (by decide) (by decide)).trans rfl, (e1 5 (by decide) (by decide)).trans rfl, (e1 1 (by decide) (by decide)).trans rfl, ⟨(e1 2 (by decide) (by decide)).trans rfl, (e1 3 (by decide) (by decide)).trans rfl, (e1 6 (by decide) (by decide)).trans rfl⟩, fun v a b => by rw [e1 (7 + v) (by omega) (by omega)]; show (if 7 + v = 1 then (4 : Int) else if 7 ≤ 7 + v ∧ 7 + v < 15 then -1 else 0) = -1; rw [if_neg (by omega), if_pos (by omega)]⟩, (f1.mono (fun c hc => by simp [zbut] at hc ⊢; omega)).tr (zOf.fl rfl (zOf.up rfl (zOf.up rfl zOf.rf)))⟩⟩

set_option maxHeartbeats 4000000 in
set_option maxRecDepth 100000 in
theorem x_fplace {l : Launch} {G : tb_G} (hl : l.stackTraces = false) (n : Nat) (J : zJ)     : tz_Ok l G M_X5_faultPlace 0 0 0 [.ref 163] n J (zqi (fun z J' => J = J' ∧ J 163 9 = z)) zN := by
  refine tz_Ok.of hl (by decide +kernel) rfl (tb_c1 rfl) (Nat.le_of_ble_eq_true rfl) ?_
  show tz_At l G M_X5_faultPlace (tb_rm 0 0 0) none (tb_ZM G 0 0 (zQ n 0 (zqi (fun z J' => J = J' ∧ J 163 9 = z))) (zX n 0 zN)) 0 0 n J 0 [some (.ref 163)] []
  refine tz_aload_n (pc := 0) dX5_faultPlace_0 rfl rfl ?_
  refine tz_fI (pc := 1) (kz := 9) (v := (J 163 9)) dX5_faultPlace_1 fl_X5_27 i_163_9 rfl rfl (fun r_1 => ?_)
  exact tz_iret (pc := 4) (z := (J 163 9)) dX5_faultPlace_4 rfl (Nat.le_of_ble_eq_true rfl) (Nat.le_of_ble_eq_true rfl) ⟨Nat.le_refl _, Nat.le_add_right _ _⟩ ⟨_, rfl, (by omega), ⟨rfl, rfl⟩⟩
end
section
/-! ===== feed and bank of the reference ===== -/
theorem fdM {J1 : zJ} {T : Int → Int} {p k v a b c d e : Int} (hk : 0 ≤ k) (hv : v = fB a b c d e k) (t : ∀ x, J1 173 x = if p ≤ x ∧ x < p + k then fB a b c d e (x - p) else T x) : ∀ x, zup J1 173 (p + k) v 173 x = if p ≤ x ∧ x < p + (k + 1) then fB a b c d e (x - p) else T x := fun x => by
  show (if x = p + k then v else J1 173 x) = _
  by_cases q : x = p + k
  · rw [if_pos q, if_pos (by omega), hv, show x - p = k from by omega]
  · rw [if_neg q, t x]
    by_cases r : p ≤ x ∧ x < p + k
    · rw [if_pos r, if_pos (by omega)]
    · rw [if_neg r, if_neg (by omega)]
set_option maxHeartbeats 4000000 in
set_option maxRecDepth 100000 in
theorem x_right1 {l : Launch} {G : tb_G} (hl : l.stackTraces = false) (n : Nat) (J : zJ)    (h8 : J 164 8 = 0) : tz_Ok l G M_X12_right 0 0 0 [.ref 164, zi 1, zi 1] n J (zqi (fun z J' => J = J' ∧ 1 = z)) zN := by
  refine tz_Ok.of hl (by decide +kernel) rfl (tb_c1 rfl) (Nat.le_of_ble_eq_true rfl) ?_
  show tz_At l G M_X12_right (tb_rm 0 0 0) none (tb_ZM G 0 0 (zQ n 0 (zqi (fun z J' => J = J' ∧ 1 = z))) (zX n 0 zN)) 0 0 n J 0 [some (.ref 164), some (zi 1), some (zi 1)] []
  refine tz_aload_n (pc := 0) dX12_right_0 rfl rfl ?_
  refine tz_fI (pc := 1) (kz := 8) (v := 0) dX12_right_1 fl_X12_68 i_164_8 rfl h8 (fun _ => ?_)
  refine tz_if_neF (pc := 4) (tgt := 16) (by decide) dX12_right_4 (by decide) (by decide) ?_
  refine tz_iload_n (pc := 7) dX12_right_7 rfl rfl ?_
  refine tz_if_neT (pc := 8) (tgt := 16) (by decide) dX12_right_8 (by decide) (by decide) ?_
  refine tz_aload_n (pc := 16) dX12_right_16 rfl rfl ?_
  refine tz_fI (pc := 17) (kz := 8) (v := 0) dX12_right_17 fl_X12_68 i_164_8 rfl h8 (fun _ => ?_)
  refine tz_if_neF (pc := 20) (tgt := 27) (by decide) dX12_right_20 (by decide) (by decide) ?_
  refine tz_iconst (pc := 23) dX12_right_23 ?_
  refine tz_goto (pc := 24) (tgt := 28) dX12_right_24 (by decide) ?_
  exact tz_zret (pc := 28) (z := 1) dX12_right_28 rfl (Or.inr rfl) (Nat.le_of_ble_eq_true rfl) (Nat.le_of_ble_eq_true rfl) ⟨Nat.le_refl _, Nat.le_add_right _ _⟩ ⟨_, rfl, (by decide), ⟨rfl, rfl⟩⟩

set_option maxHeartbeats 4000000 in
set_option maxRecDepth 100000 in
theorem x_right0 {l : Launch} {G : tb_G} (hl : l.stackTraces = false) (n : Nat) (J : zJ)    (h8 : J 164 8 = 0) : tz_Ok l G M_X12_right 0 0 0 [.ref 164, zi 0, zi 1] n J (zqi (fun z J' => zup J 164 8 1 = J' ∧ 0 = z)) zN := by
  refine tz_Ok.of hl (by decide +kernel) rfl (tb_c1 rfl) (Nat.le_of_ble_eq_true rfl) ?_
  show tz_At l G M_X12_right (tb_rm 0 0 0) none (tb_ZM G 0 0 (zQ n 0 (zqi (fun z J' => zup J 164 8 1 = J' ∧ 0 = z))) (zX n 0 zN)) 0 0 n J 0 [some (.ref 164), some (zi 0), some (zi 1)] []
  refine tz_aload_n (pc := 0) dX12_right_0 rfl rfl ?_
  refine tz_fI (pc := 1) (kz := 8) (v := 0) dX12_right_1 fl_X12_68 i_164_8 rfl h8 (fun _ => ?_)
  refine tz_if_neF (pc := 4) (tgt := 16) (by decide) dX12_right_4 (by decide) (by decide) ?_
  refine tz_iload_n (pc := 7) dX12_right_7 rfl rfl ?_
  refine tz_if_neF (pc := 8) (tgt := 16) (by decide) dX12_right_8 (by decide) (by decide) ?_
  refine tz_aload_n (pc := 11) dX12_right_11 rfl rfl ?_
  refine tz_iload_n (pc := 12) dX12_right_12 rfl rfl ?_
  refine tz_pI (pc := 13) (kz := 8) dX12_right_13 fl_X12_68 i_164_8 rfl rfl (by decide) ?_
  refine tz_aload_n (pc := 16) dX12_right_16 rfl rfl ?_
  refine tz_fI (pc := 17) (kz := 8) (v := 1) dX12_right_17 fl_X12_68 i_164_8 rfl rfl (fun _ => ?_)
  refine tz_if_neT (pc := 20) (tgt := 27) (by decide) dX12_right_20 (by decide) (by decide) ?_
  refine tz_iconst (pc := 27) dX12_right_27 ?_
  exact tz_zret (pc := 28) (z := 0) dX12_right_28 rfl (Or.inl rfl) (Nat.le_of_ble_eq_true rfl) (Nat.le_of_ble_eq_true rfl) ⟨Nat.le_refl _, Nat.le_add_right _ _⟩ ⟨_, rfl, (by decide), ⟨rfl, rfl⟩⟩

theorem QR.n {J f : zJ} {x : Int} (h : QR J (pAl 703 (pN (pG f x)))) (hx : 0 ≤ x ∧ x ≤ 700) : J 164 43 = (pAl 703 (pN (pG f x))) 0 4 ∧ (¬ (pAl 703 (pN (pG f x))) 0 4 = 0 → J 164 20 = (pAl 703 (pN (pG f x))) 0 5) ∧ ((pAl 703 (pN (pG f x))) 0 4 = 0 → EM J (pAl 703 (pN (pG f x))) ∧ WOK J) := h.resolve_left (pAl_g 703 _ (GB.g0 hx)).2.1
end
section
/-! ===== terms at hand: one function for both sides ===== -/
/-- the reference's tables, and nothing else -/
def tb0 (J : zJ) : zJ := fun c k => if c = 164 then (if k = 9 ∨ k = 21 then J 164 k else 0) else if c = 165 then (if 0 ≤ k ∧ k < 63 then J 165 k else 0) else if c = 166 ∨ c = 168 then (if 0 ≤ k ∧ k < 400 then J c k else 0) else if c = 167 then (if 0 ≤ k ∧ k < 1200 then J 167 k else 0) else if c = 169 ∨ c = 170 ∨ c = 171 then (if 0 ≤ k ∧ k < 10 then J c k else 0) else 0
theorem tb0_4 {J : zJ} {k : Int} : tb0 J 164 k = if k = 9 ∨ k = 21 then J 164 k else 0 := rfl
theorem tb0_5 {J : zJ} {k : Int} : tb0 J 165 k = if 0 ≤ k ∧ k < 63 then J 165 k else 0 := rfl
theorem tb0_6 {J : zJ} {k : Int} : tb0 J 166 k = if 0 ≤ k ∧ k < 400 then J 166 k else 0 := rfl
theorem tb0_8 {J : zJ} {k : Int} : tb0 J 168 k = if 0 ≤ k ∧ k < 400 then J 168 k else 0 := rfl
theorem tb0_7 {J : zJ} {k : Int} : tb0 J 167 k = if 0 ≤ k ∧ k < 1200 then J 167 k else 0 := rfl
theorem tb0_0 {J : zJ} {k : Int} : tb0 J 170 k = if 0 ≤ k ∧ k < 10 then J 170 k else 0 := rfl
theorem tb0_9 {J : zJ} : tb0 J 164 9 = J 164 9 := rfl
theorem tb0_of {J' J : zJ} (e9 : J' 164 9 = J 164 9) (e21 : J' 164 21 = J 164 21) (e5 : ∀ k, 0 ≤ k → k < 63 → J' 165 k = J 165 k) (e6 : ∀ k, 0 ≤ k → k < 400 → J' 166 k = J 166 k ∧ J' 168 k = J 168 k) (e7 : ∀ k, 0 ≤ k → k < 1200 → J' 167 k = J 167 k) (e0 : ∀ k, 0 ≤ k → k < 10 → J' 169 k = J 169 k ∧ J' 170 k = J 170 k ∧ J' 171 k = J 171 k) : tb0 J' = tb0 J := by
  funext c k
  unfold tb0
  by_cases h4 : c = 164
  · rw [if_pos h4, if_pos h4]
    by_cases q : k = 9 ∨ k = 21
    · rw [if_pos q, if_pos q]
      rcases q with q | q
      · rw [q]; exact e9
      · rw [q]; exact e21
    · rw [if_neg q, if_neg q]
  rw [if_neg h4, if_neg h4]
  by_cases h5 : c = 165
  · rw [if_pos h5, if_pos h5]
    split
    · next q => exact e5 k q.1 q.2
    · rfl
  rw [if_neg h5, if_neg h5]
  by_cases h6 : c = 166 ∨ c = 168
  · rw [if_pos h6, if_pos h6]
    split
    · next q =>
      rcases h6 with h6 | h6
      · rw [h6]; exact (e6 k q.1 q.2).1
      · rw [h6]; exact (e6 k q.1 q.2).2
    · rfl
  rw [if_neg h6, if_neg h6]
  by_cases h7 : c = 167
  · rw [if_pos h7, if_pos h7]
    split
    · next q => exact e7 k q.1 q.2
    · rfl
  rw [if_neg h7, if_neg h7]
  split
  · next h9 =>
    split
    · next q =>
      rcases h9 with h9 | h9 | h9
      · rw [h9]; exact (e0 k q.1 q.2).1
      · rw [h9]; exact (e0 k q.1 q.2).2.1
      · rw [h9]; exact (e0 k q.1 q.2).2.2
    · rfl
  · rfl
theorem tb0_fu {J : zJ} : tb0 (zup J 164 21 1) = zup (tb0 J) 164 21 1 := by
  funext c k
  by_cases h4 : c = 164
  · subst h4
    show (if k = 9 ∨ k = 21 then (if k = 21 then (1 : Int) else J 164 k) else 0) = if k = 21 then 1 else if k = 9 ∨ k = 21 then J 164 k else 0
    (repeat' split) <;> first | rfl | omega
  · rw [zup_nc h4]
    unfold tb0
    rw [if_neg h4, if_neg h4]
    have e : ∀ d, ¬ d = 164 → zup J 164 21 1 d = J d := fun d q => zup_nc q
    rw [e 165 (by decide), e 167 (by decide), e c h4]
/-- arity, place, depth of a term that may come -/
def oar (G : zJ) (h : Int) : Int := arh (fun k => G 170 (0 + k)) h
noncomputable def ofi (G : zJ) (h x y w : Int) : Int := fnB (fun q => dcB (¬ nmT G 0 (oar G h) h x y w q)) (G 165 0) 0
def odp (G : zJ) (h x y w : Int) : Int := dpS (fun t => G 168 (0 + t)) (oar G h) x y w
/-- the term of a head and arguments, which comes if it isn't there; full is told aside -/
noncomputable def tmO (G : zJ) (h x y w : Int) : zJ × Int := if G 164 21 = 0 then (if ofi G h x y w < G 165 0 then (G, ofi G h x y w) else if odp G h x y w ≤ 6 ∧ G 165 0 < 400 then (chT G 0 0 (G 165 0) h (if 0 < oar G h then x else -1) (if 1 < oar G h then y else -1) (if 2 < oar G h then w else -1) (odp G h x y w), G 165 0) else (zup G 164 21 1, 0)) else (G, 0)
theorem tb0_ch {J : zJ} {m h a b c d : Int} (hm : 0 ≤ m ∧ m < 400) (h21 : J 164 21 = 0) : tb0 (chT (zup J 164 21 0) 0 0 m h a b c d) = chT (tb0 J) 0 0 m h a b c d := by
  have e4 : chT (zup J 164 21 0) 0 0 m h a b c d 164 = zup J 164 21 0 164 := chT4 164 (by decide)
  have ez : ∀ q, ¬ q = 164 → zup J 164 21 0 q = J q := fun q k => zup_nc k
  funext q k
  by_cases h4 : q = 164
  · subst h4
    rw [tb0_4, e4, chT4 164 (by decide), tb0_4]
    show (if k = 9 ∨ k = 21 then (if k = 21 then (0 : Int) else J 164 k) else 0) = _
    (repeat' split) <;> first | rfl | omega | (next u => rw [u]; exact h21.symm)
  by_cases h5 : q = 165
  · subst h5
    rw [tb0_5, chT_5, chT_5, tb0_5, ez 165 (by decide)]
    (repeat' split) <;> first | rfl | omega
  by_cases h6 : q = 166
  · subst h6
    rw [tb0_6, chT_6, chT_6, tb0_6, ez 166 (by decide)]
    (repeat' split) <;> first | rfl | omega
  by_cases h8 : q = 168
  · subst h8
    rw [tb0_8, chT_8, chT_8, tb0_8, ez 168 (by decide)]
    (repeat' split) <;> first | rfl | omega
  by_cases h7 : q = 167
  · subst h7
    rw [tb0_7, chT_7, chT_7, tb0_7, ez 167 (by decide)]
    (repeat' split) <;> first | rfl | omega
  rw [chT4 q ⟨h5, h6, h7, h8⟩]
  have h68 : ¬ (q = 166 ∨ q = 168) := by omega
  unfold tb0
  rw [if_neg h4, if_neg h4, if_neg h5, if_neg h5, if_neg h68, if_neg h68, if_neg h7, if_neg h7, chT4 q ⟨h5, h6, h7, h8⟩, ez q h4]
/-- what the reference's termOf does, at base 0 -/
theorem o_tm {J' J : zJ} {s m A h x y w z : Int} (hM : MS J 0 0 0 s m) (hs : J 164 9 = s) (hA : arh (fun k => J 170 (0 + k)) h = A) (hh : -8 ≤ h ∧ h < s) (h21 : J 164 21 = 0) (hx : (0 < A → 0 ≤ x ∧ x < m) ∧ (1 < A → 0 ≤ y ∧ y < m) ∧ (2 < A → 0 ≤ w ∧ w < m)) (t : tmX J J' 0 0 m A h x y w z) : tb0 J' = (tmO (tb0 J) h x y w).1 ∧ z = (tmO (tb0 J) h x y w).2 := by
  have hT := hM.told
  have hm : tb0 J 165 0 = m := hM.2.2.2.2.1
  have hp : oar (tb0 J) h = A := by
    rw [← hA]
    exact arh_cg (fun q => by rw [tb0_0, if_pos (by omega)])
  have hn : ∀ q, 0 ≤ q → q < m → (nmT J 0 A h x y w q ↔ nmT (tb0 J) 0 A h x y w q) := fun q a c => nmT_cg (by rw [tb0_6, if_pos (by omega)]) (fun i u v => by rw [tb0_7, if_pos (by omega)])
  have hd : odp (tb0 J) h x y w = dpS (fun t => J 168 (0 + t)) A x y w := by
    unfold odp
    rw [hp]
    exact dpS_cg (fun q => by rw [tb0_8, if_pos (by have := hx.1 q; omega)]) (fun q => by rw [tb0_8, if_pos (by have := hx.2.1 q; omega)]) (fun q => by rw [tb0_8, if_pos (by have := hx.2.2 q; omega)])
  have h0 : tb0 J 164 21 = 0 := h21
  unfold tmO
  rw [if_pos h0]
  rcases t with ⟨q, hq, t1, t2, t3⟩ | ⟨t1, t2⟩
  · have hf : ofi (tb0 J) h x y w = q := by
      unfold ofi
      rw [hm, hp]
      refine fnB_eq hq.1 (by omega) (fun j a c => dcB_t (fun e => ?_)) (Or.inr (dcB_f (fun e => e ((hn q hq.1 hq.2).1 t1))))
      have u := (hn j a (by omega)).2 e
      subst hA
      have := nmT_u hM hh.2 ⟨a, by omega⟩ hq u t1
      omega
    rw [hf, hm, if_pos hq.2]
    subst t3
    exact ⟨rfl, t2⟩
  · have hf : ofi (tb0 J) h x y w = m := by
      unfold ofi
      rw [hm, hp]
      exact fnB_eq hT.2.1.1 (Int.le_refl _) (fun j a c => dcB_t (fun e => t1 j a c ((hn j a c).2 e))) (Or.inl rfl)
    rw [hf, hm, if_neg (by omega), hd, hp]
    rcases t2 with ⟨u1, u2, u3, u4⟩ | ⟨u1, u2, u3⟩
    · rw [if_pos ⟨u1, u2⟩, u4]
      exact ⟨tb0_ch ⟨hT.2.1.1, u2⟩ h21, u3⟩
    · rw [if_neg (by omega), u3]
      exact ⟨tb0_fu, u2⟩
/-- the class's tables are those -/
def A0 (J g : zJ) : Prop := (J 1 3 = g 164 9 ∧ ∀ k, 0 ≤ k → k < g 164 9 → J 2 k = g 169 (0 + k) ∧ J 3 k = g 170 (0 + k) ∧ J 4 k = g 171 (0 + k)) ∧ (J 6 12 = g 165 0 ∧ (∀ t, 0 ≤ t → t < g 165 0 → J 7 t = g 166 (0 + t) ∧ J 12 t = g 168 (0 + t)) ∧ (∀ t i, 0 ≤ t → t < g 165 0 → 0 ≤ i → i < J 8 t → J 9 (t * 3 + i) = g 167 (3 * (0 + t) + i)))
theorem A0.ar {J g : zJ} {h : Int} (E : A0 J g) (hh : h < J 1 3) : oar g h = arh (J 3) h := (arh_cg (fun q => (E.1.2 h q (by have := E.1.1; omega)).2.1)).symm
theorem A0.nm {J g : zJ} {m h a b c x y w q : Int} (E : A0 J g) (C : CT J m) (hm : J 6 12 = m) (hx : (0 < arh (J 3) h → a = x) ∧ (1 < arh (J 3) h → b = y) ∧ (2 < arh (J 3) h → c = w)) (hq : 0 ≤ q ∧ q < m) : nmT g 0 (arh (J 3) h) h x y w q ↔ isT J q h a b c := by
  obtain ⟨x0, x1, x2⟩ := hx
  have e6 := E.2.1
  have e7 := (E.2.2.1 q hq.1 (by omega)).1
  have e8 := (C.2.1 q hq.1 hq.2).1.1
  have e9 := fun i => E.2.2.2 q i hq.1 (by omega)
  constructor
  · rintro ⟨n0, n1, n2, n3⟩
    have h7 : J 7 q = h := e7.trans n0
    rw [h7] at e8
    exact ⟨h7, fun p => (e9 0 (by decide) (by omega)).trans ((n1 p).trans (x0 p).symm), fun p => (e9 1 (by decide) (by omega)).trans ((n2 p).trans (x1 p).symm), fun p => (e9 2 (by decide) (by omega)).trans ((n3 p).trans (x2 p).symm)⟩
  · rintro ⟨h7, n1, n2, n3⟩
    rw [h7] at e8
    exact ⟨e7.symm.trans h7, fun p => (e9 0 (by decide) (by omega)).symm.trans ((n1 p).trans (x0 p)), fun p => (e9 1 (by decide) (by omega)).symm.trans ((n2 p).trans (x1 p)), fun p => (e9 2 (by decide) (by omega)).symm.trans ((n3 p).trans (x2 p))⟩
theorem A0.dp {J g : zJ} {m h a b c x y w : Int} (E : A0 J g) (hm : J 6 12 = m) (hh : h < J 1 3) (hx : (0 < arh (J 3) h → a = x) ∧ (1 < arh (J 3) h → b = y) ∧ (2 < arh (J 3) h → c = w)) (hr : (0 < arh (J 3) h → 0 ≤ a ∧ a < m) ∧ (1 < arh (J 3) h → 0 ≤ b ∧ b < m) ∧ (2 < arh (J 3) h → 0 ≤ c ∧ c < m)) : odp g h x y w = dpT J h a b c := by
  have e6 := E.2.1
  unfold odp
  rw [E.ar hh]
  have e : ∀ u, 0 ≤ u ∧ u < m → J 12 u = g 168 (0 + u) := fun u q => (E.2.2.1 u q.1 (by omega)).2
  show dpS _ _ _ _ _ = dpS (J 12) (arh (J 3) h) a b c
  have r0 : 0 < arh (J 3) h → g 168 (0 + x) = J 12 a := fun p => by rw [← hx.1 p]; exact (e a (hr.1 p)).symm
  have r1 : 1 < arh (J 3) h → g 168 (0 + y) = J 12 b := fun p => by rw [← hx.2.1 p]; exact (e b (hr.2.1 p)).symm
  have r2 : 2 < arh (J 3) h → g 168 (0 + w) = J 12 c := fun p => by rw [← hx.2.2 p]; exact (e c (hr.2.2 p)).symm
  unfold dpS
  dsimp only
  split
  · rfl
  · rw [r0 (by omega)]
    split
    · rfl
    · rw [r1 (by omega)]
      split
      · rfl
      · rw [r2 (by omega)]
theorem A0.su {J' J g : zJ} {m : Int} (E : A0 J g) (hm : J 6 12 = m) (hm' : J' 6 12 = m) (f : zOf (zbut [6, 7, 8, 9, 10, 11, 12, 13, 14, 15, 16, 17]) J' J) (s : zSU J' J m) (C : CT J m) : A0 J' g := by
  obtain ⟨E1, ⟨e6, E2, E3⟩⟩ := E
  unfold A0
  rw [f 1 rfl, f 2 rfl, f 3 rfl, f 4 rfl]
  refine ⟨E1, ⟨by omega, fun t a b => ?_, fun t i a b x y => ?_⟩⟩
  · have q := s.1 t a (by omega)
    rw [q.1, q.2.2.2.2.1]
    exact E2 t a b
  · have q := s.1 t a (by omega)
    rw [q.2.1] at y
    have := (C.ar a (by omega)).1
    rw [s.2 (t * 3 + i) (by omega) (by omega)]
    exact E3 t i a b x y
theorem A0.nw {J' J g : zJ} {m h a b c x y w : Int} (E : A0 J g) (hm : J 6 12 = m) (hm' : J' 6 12 = m + 1) (f : zOf (zbut [6, 7, 8, 9, 10, 11, 12, 13, 14, 15, 16, 17]) J' J) (s : zSU J' J m) (C : CT J m) (C' : CT J' (m + 1)) (hh : h < J 1 3) (hx : (0 < arh (J 3) h → a = x) ∧ (1 < arh (J 3) h → b = y) ∧ (2 < arh (J 3) h → c = w)) (hi : isT J' m h a b c) (hd : J' 12 m = odp g h x y w) : A0 J' (chT g 0 0 m h (if 0 < oar g h then x else -1) (if 1 < oar g h then y else -1) (if 2 < oar g h then w else -1) (odp g h x y w)) := by
  have hA := E.ar hh
  have t0 := C.told
  obtain ⟨E1, ⟨e6, E2, E3⟩⟩ := E
  have e8 := (C'.2.1 m (by omega) (by omega)).1.1
  rw [hi.1, f 3 rfl] at e8
  obtain ⟨i7, i0, i1, i2⟩ := hi
  rw [f 3 rfl] at i0 i1 i2
  have hA3 := arh_rg C.1.1.1 hh
  unfold A0
  rw [f 1 rfl, f 2 rfl, f 3 rfl, f 4 rfl, chT4 164 (by decide), chT4 169 (by decide), chT4 170 (by decide), chT4 171 (by decide), hA]
  have n6 : chT g 0 0 m h (if 0 < arh (J 3) h then x else -1) (if 1 < arh (J 3) h then y else -1) (if 2 < arh (J 3) h then w else -1) (odp g h x y w) 165 0 = m + 1 := by rw [chT_5, if_pos rfl]
  rw [n6]
  refine ⟨E1, ⟨hm', fun t p q => ?_, fun t i p q u v => ?_⟩⟩
  · rw [chT_6, chT_8]
    by_cases et : t = m
    · subst et
      rw [if_pos rfl, if_pos rfl]
      exact ⟨i7, hd⟩
    · rw [if_neg (by omega), if_neg (by omega)]
      have r := s.1 t p (by omega)
      rw [r.1, r.2.2.2.2.1]
      exact E2 t p (by omega)
  · rw [chT_7]
    by_cases et : t = m
    · subst et
      rw [e8] at v
      have h3 : i = 0 ∨ i = 1 ∨ i = 2 := by omega
      rcases h3 with rfl | rfl | rfl
      · rw [if_neg (by omega), if_neg (by omega), if_pos (by omega), if_pos v, i0 v]
        exact hx.1 v
      · rw [if_neg (by omega), if_pos (by omega), if_pos v, i1 v]
        exact hx.2.1 v
      · rw [if_pos (by omega), if_pos v, i2 v]
        exact hx.2.2 v
    · have r := s.1 t p (by omega)
      rw [r.2.1] at v
      have := (C.ar p (by omega)).1
      rw [if_neg (by omega), if_neg (by omega), if_neg (by omega), s.2 (t * 3 + i) (by omega) (by omega)]
      exact E3 t i p (by omega) u v
/-- made by the class, made by the function -/
theorem A0.made {J' J g : zJ} {m h a b c x y w z : Int} (E : A0 J g) (h0 : g 164 21 = 0) (C : CT J m) (hm : J 6 12 = m) (hh : -8 ≤ h ∧ h < J 1 3) (hx : (0 < arh (J 3) h → a = x) ∧ (1 < arh (J 3) h → b = y) ∧ (2 < arh (J 3) h → c = w)) (hr : (0 < arh (J 3) h → 0 ≤ a ∧ a < m) ∧ (1 < arh (J 3) h → 0 ≤ b ∧ b < m) ∧ (2 < arh (J 3) h → 0 ≤ c ∧ c < m)) (p : madeP J m h a b c z J') : ((z < 0 ∧ z = -3) ∧ ¬ (tmO g h x y w).1 164 21 = 0) ∨ (0 ≤ z ∧ (tmO g h x y w).1 164 21 = 0 ∧ A0 J' (tmO g h x y w).1 ∧ z = (tmO g h x y w).2) := by
  obtain ⟨f, s, p⟩ := p
  have t0 := C.told
  have e6 := E.2.1
  have hA := E.ar hh.2
  have hdp := E.dp hm hh.2 hx hr
  have n1 : NST J m h a b c → ofi g h x y w = g 165 0 := fun q => by
    unfold ofi
    refine fnB_eq (by omega) (Int.le_refl _) (fun t u v => dcB_t (fun k => q t u (by omega) ?_)) (Or.inl rfl)
    rw [hA] at k
    exact (E.nm C hm hx (by omega)).1 k
  have n2 : (0 ≤ z ∧ z < m) → isT J z h a b c → ofi g h x y w = z := fun r q => by
    unfold ofi
    refine fnB_eq r.1 (by omega) (fun t u v => dcB_t (fun k => ?_)) (Or.inr (dcB_f (fun k => k ?_)))
    · rw [hA] at k
      have := isT_u C hh.2 (q := t) (q' := z) (by omega) r ((E.nm C hm hx (by omega)).1 k) q
      omega
    · rw [hA]
      exact (E.nm C hm hx r).2 q
  unfold tmO
  rw [if_pos h0]
  rcases p with ⟨⟨pz, q⟩, m1, C1⟩ | ⟨⟨pz, q, _⟩, m1, C1⟩ | ⟨⟨pz, q1, q2, _, q3⟩, m1, C1, q4⟩
  · refine Or.inl ⟨by omega, ?_⟩
    rcases q with q | ⟨q, v⟩
    · exact absurd ⟨fun k => (hr.1 k).1, fun k => (hr.2.1 k).1, fun k => (hr.2.2 k).1⟩ q
    · rw [n1 q, if_neg (by omega), hdp, if_neg (by omega)]
      show ¬ (1 : Int) = 0
      decide
  · rw [n2 pz q, if_pos (by omega)]
    exact Or.inr ⟨pz.1, h0, E.su hm m1 f s C, rfl⟩
  · rw [n1 q2, if_neg (by omega), if_pos (by omega)]
    have e1 : J' 1 = J 1 := f 1 rfl
    have e3 : J' 3 = J 3 := f 3 rfl
    have d1 := ct_dpT C1 (by omega) (by rw [e1]; exact hh.2) q4
    have d2 : dpT J' h a b c = dpT J h a b c := by
      show dpS (J' 12) (arh (J' 3) h) a b c = dpS (J 12) (arh (J 3) h) a b c
      rw [e3]
      exact dpS_cg (fun k => (s.1 a (hr.1 k).1 (hr.1 k).2).2.2.2.2.1) (fun k => (s.1 b (hr.2.1 k).1 (hr.2.1 k).2).2.2.2.2.1) (fun k => (s.1 c (hr.2.2 k).1 (hr.2.2 k).2).2.2.2.2.1)
    have N := E.nw hm m1 f s C C1 hh.2 hx q4 (by rw [d1, d2, hdp])
    rw [← e6, hm]
    refine Or.inr ⟨by omega, ?_, N, pz⟩
    dsimp only
    rw [chT4 164 (by decide)]
    exact h0
end
section
/-! ===== rows, rings of rows: alike ===== -/
/-- a row of the class's ledger and one of the reference tell the same -/
def RW (f h : Int → Int) : Prop := (f 1 = h 39 ∧ f 2 = h 61 ∧ f 3 = h 62) ∧ (f 4 = h 9 ∧ ∀ i, 0 ≤ i → i < h 9 → f (15 + i) = h (10 + 2 * i) ∧ f (23 + i) = h (10 + 2 * i + 1)) ∧ (f 5 = h 26 ∧ ∀ i, 0 ≤ i → i < h 26 → f (31 + i) = h (27 + i)) ∧ (f 6 = h 40 ∧ ∀ i, 0 ≤ i → i < h 40 → f (43 + i) = h (41 + 2 * i) ∧ f (52 + i) = h (41 + 2 * i + 1)) ∧ ∀ v, 0 ≤ v → v < 8 → f (7 + v) + 1 = h (1 + v)
theorem RW.of {f' f h : Int → Int} {m : Int} (w : RW f h) (l : LI f m) (e : ∀ k, 1 ≤ k → k < 61 → f' k = f k) : RW f' h := by
  obtain ⟨⟨a1, a2, a3⟩, ⟨b1, b2⟩, ⟨c1, c2⟩, ⟨d1, d2⟩, v⟩ := w
  obtain ⟨⟨_, l4, l5, l6⟩, _⟩ := l
  refine ⟨⟨by rw [e 1 (by decide) (by decide)]; exact a1, by rw [e 2 (by decide) (by decide)]; exact a2, by rw [e 3 (by decide) (by decide)]; exact a3⟩, ⟨by rw [e 4 (by decide) (by decide)]; exact b1, fun i p q => ?_⟩, ⟨by rw [e 5 (by decide) (by decide)]; exact c1, fun i p q => ?_⟩, ⟨by rw [e 6 (by decide) (by decide)]; exact d1, fun i p q => ?_⟩, fun i p q => ?_⟩
  · rw [e (15 + i) (by omega) (by omega), e (23 + i) (by omega) (by omega)]; exact b2 i p q
  · rw [e (31 + i) (by omega) (by omega)]; exact c2 i p q
  · rw [e (43 + i) (by omega) (by omega), e (52 + i) (by omega) (by omega)]; exact d2 i p q
  · rw [e (7 + i) (by omega) (by omega)]; exact v i p q
theorem RW.to {f h' h : Int → Int} {m : Int} (w : RW f h) (l : LI f m) (e : ∀ k, 1 ≤ k → k < 63 → h' k = h k) : RW f h' := by
  obtain ⟨⟨a1, a2, a3⟩, ⟨b1, b2⟩, ⟨c1, c2⟩, ⟨d1, d2⟩, v⟩ := w
  obtain ⟨⟨_, l4, l5, l6⟩, _⟩ := l
  refine ⟨⟨by rw [e 39 (by decide) (by decide)]; exact a1, by rw [e 61 (by decide) (by decide)]; exact a2, by rw [e 62 (by decide) (by decide)]; exact a3⟩, ⟨by rw [e 9 (by decide) (by decide)]; exact b1, fun i p q => ?_⟩, ⟨by rw [e 26 (by decide) (by decide)]; exact c1, fun i p q => ?_⟩, ⟨by rw [e 40 (by decide) (by decide)]; exact d1, fun i p q => ?_⟩, fun i p q => ?_⟩
  · rw [e 9 (by decide) (by decide)] at q
    rw [e (10 + 2 * i) (by omega) (by omega), e (10 + 2 * i + 1) (by omega) (by omega)]; exact b2 i p q
  · rw [e 26 (by decide) (by decide)] at q
    rw [e (27 + i) (by omega) (by omega)]; exact c2 i p q
  · rw [e 40 (by decide) (by decide)] at q
    rw [e (41 + 2 * i) (by omega) (by omega), e (41 + 2 * i + 1) (by omega) (by omega)]; exact d2 i p q
  · rw [e (1 + i) (by omega) (by omega)]; exact v i p q
/-- a row that is kept: its count of terms too -/
def KW (f h : Int → Int) : Prop := RW f h ∧ f 0 = h 0
/-- the class's kept rows -/
def CU (J : zJ) (n : Int) (R : Int → Int → Int) : Prop := J 5 6 = n ∧ ∀ k, 0 ≤ k → k < n → KW (J (zU ((J 5 5 + k) % 40))) (R k)
/-- one more is kept, the eldest goes when there are 40 -/
def psn (n : Int) : Int := if n < 40 then n + 1 else 40
def psh (n : Int) (R : Int → Int → Int) (h : Int → Int) : Int → Int → Int := if n < 40 then (fun k => if k = n then h else R k) else (fun k => if k = 39 then h else R (k + 1))
/-- what keep does -/
def KX (J' J : zJ) : Prop := (J 5 6 < 40 ∧ zup (zcp J 61 (zU ((J 5 5 + J 5 6) % 40)) 0 0 61) 5 6 (J 5 6 + 1) = J') ∨ (J 5 6 = 40 ∧ zup (zcp (zup (zup J 5 5 ((J 5 5 + 1) % 40)) 5 6 39) 61 (zU (((J 5 5 + 1) % 40 + 39) % 40)) 0 0 61) 5 6 40 = J')
theorem KW.cp {f' f h : Int → Int} {m : Int} (w : KW f h) (l : LI f m) (e : ∀ k, 0 ≤ k → k < 61 → f' k = f k) : KW f' h := ⟨w.1.of l (fun k a b => e k (by omega) b), (e 0 (by decide) (by decide)).trans w.2⟩
theorem CU.keep {J' J : zJ} {n m : Int} {R : Int → Int → Int} {h : Int → Int} (c : CU J n R) (hn : 0 ≤ n ∧ n ≤ 40) (h5 : 0 ≤ J 5 5 ∧ J 5 5 < 40) (w : KW (J 61) h) (l : LI (J 61) m) (k : KX J' J) : CU J' (psn n) (psh n R h) := by
  obtain ⟨c1, c2⟩ := c
  rcases k with ⟨k1, k2⟩ | ⟨k1, k2⟩
  · have e5 : J' 5 5 = J 5 5 := by rw [← k2, zup_ne (by omega), zcp_nc (by unfold zU; omega)]
    have e6 : J' 5 6 = n + 1 := by rw [← k2, zup_at, c1]
    have er : ∀ q, 0 ≤ q → q < 61 → J' (zU ((J 5 5 + J 5 6) % 40)) q = J 61 q := fun q a b => by
      rw [← k2, zup_nc (by unfold zU; omega), zcp_in (by omega)]
      congr 1
      omega
    have eo : ∀ i, 0 ≤ i → i < 40 → ¬ i = (J 5 5 + J 5 6) % 40 → J' (zU i) = J (zU i) := fun i a b q => by
      rw [← k2, zup_nc (by unfold zU; omega), zcp_nc (by unfold zU; omega)]
    unfold psn psh
    rw [if_pos (by omega), if_pos (by omega)]
    refine ⟨e6, fun q a b => ?_⟩
    rw [e5]
    dsimp only
    by_cases e : q = n
    · subst e
      rw [if_pos rfl, ← c1]
      exact w.cp l er
    · rw [if_neg e, eo _ (by omega) (by omega) (by omega)]
      exact c2 q a (by omega)
  · have e5 : J' 5 5 = (J 5 5 + 1) % 40 := by rw [← k2, zup_ne (by omega), zcp_nc (by unfold zU; omega), zup_ne (by omega), zup_at]
    have e6 : J' 5 6 = 40 := by rw [← k2, zup_at]
    have er : ∀ q, 0 ≤ q → q < 61 → J' (zU (((J 5 5 + 1) % 40 + 39) % 40)) q = J 61 q := fun q a b => by
      rw [← k2, zup_nc (by unfold zU; omega), zcp_in (by omega), zup_nc (by omega), zup_nc (by omega)]
      congr 1
      omega
    have eo : ∀ i, 0 ≤ i → i < 40 → ¬ i = ((J 5 5 + 1) % 40 + 39) % 40 → J' (zU i) = J (zU i) := fun i a b q => by
      rw [← k2, zup_nc (by unfold zU; omega), zcp_nc (by unfold zU; omega), zup_nc (by unfold zU; omega), zup_nc (by unfold zU; omega)]
    unfold psn psh
    rw [if_neg (by omega), if_neg (by omega)]
    refine ⟨e6, fun q a b => ?_⟩
    rw [e5]
    dsimp only
    by_cases e : q = 39
    · subst e
      rw [if_pos rfl]
      exact w.cp l er
    · rw [if_neg e, eo _ (by omega) (by omega) (by omega)]
      have := c2 (q + 1) (by omega) (by omega)
      rw [show ((J 5 5 + 1) % 40 + q) % 40 = (J 5 5 + (q + 1)) % 40 from by omega]
      exact this
theorem CU.of {J' J : zJ} {n : Int} {R : Int → Int → Int} (c : CU J n R) (hn : n ≤ 40) (e5 : J' 5 = J 5) (e : ∀ i, 0 ≤ i → i < 40 → J' (zU i) = J (zU i)) : CU J' n R := by
  unfold CU
  rw [e5]
  refine ⟨c.1, fun k a b => ?_⟩
  rw [e _ (by omega) (by omega)]
  exact c.2 k a b
/-- the class is where the state G with the kept rows R is -/
def CAL (J G : zJ) (n : Int) (R : Int → Int → Int) : Prop := A0 J G ∧ RW (J 19) (G 165) ∧ CU J n R
theorem A0.f {J' J g : zJ} (E : A0 J g) (e : ∀ c, c = 1 ∨ c = 2 ∨ c = 3 ∨ c = 4 ∨ c = 6 ∨ c = 7 ∨ c = 8 ∨ c = 9 ∨ c = 12 → J' c = J c) : A0 J' g := by
  unfold A0
  rw [e 1 (by omega), e 2 (by omega), e 3 (by omega), e 4 (by omega), e 6 (by omega), e 7 (by omega), e 8 (by omega), e 9 (by omega), e 12 (by omega)]
  exact E
/-- an act's end: kept, or undone -/
def ED (G : zJ) (n : Int) (R : Int → Int → Int) (F : zJ × Int) (J' : zJ) (z : Int) : Prop := (¬ F.1 164 21 = 0 ∧ z = -3 ∧ CAL J' G n R) ∨ (F.1 164 21 = 0 ∧ z = F.2 ∧ CAL J' F.1 (psn n) (psh n R (G 165)))
end
section
/-! ===== the class's acts, exact ===== -/
theorem x_keep {l : Launch} {G : tb_G} (hl : l.stackTraces = false) (n : Nat) (J : zJ) (m0 m : Int) (hA : AC J m0 m) : tz_Ok l G M_X0_keep 1 0 0 [.ref 5] n J (zqv (fun J' => (CI J' m ∧ zOf fkp J' J) ∧ KX J' J)) zN := by
  have hr := hA.2.1.1
  have fu : ∀ (J1 J2 : zJ) (i : Int), 0 ≤ i → i < 40 → zOf fkp J1 J2 → zOf fkp (zcp J1 61 (zU i) 0 0 61) J2 := fun J1 J2 i a b f => zOf.cp (decide_eq_false (by unfold zU; omega)) f
  by_cases h6 : J 5 6 = 40
  · refine (c_keepF hl n J h6 hr.1).mono (fun r J' _ h => ⟨h.1, ?_⟩) (fun E J' _ h => h)
    obtain ⟨-, rfl⟩ := h
    have h1 := (hA.drop h6).keepN (show (39 : Int) < 40 by decide)
    exact ⟨⟨h1, zOf.up rfl (fu _ _ _ (by omega) (by omega) (zOf.up rfl (zOf.up rfl zOf.rf)))⟩, Or.inr ⟨h6, rfl⟩⟩
  · refine (c_keepN hl n J (by omega) hr.1).mono (fun r J' _ h => ⟨h.1, ?_⟩) (fun E J' _ h => h)
    obtain ⟨-, rfl⟩ := h
    exact ⟨⟨hA.keepN (by omega), zOf.up rfl (fu _ _ _ (by omega) (by omega) zOf.rf)⟩, Or.inl ⟨by omega, rfl⟩⟩
set_option maxHeartbeats 4000000 in
set_option maxRecDepth 100000 in
theorem x_settled {l : Launch} {G : tb_G} (hl : l.stackTraces = false) (n : Nat) (J : zJ) (t : Int) (hr_t : -2147483648 ≤ t ∧ t < 2147483648) (m0 m : Int) (hA : AC J m0 m) : tz_Ok l G M_X11_settled 5 0 0 [.ref 0, zi t] n J (zqi (fun z J' => SQ J' J ∧ t = z ∧ ((0 ≤ t ∧ zOf fkp J' J ∧ KX J' J) ∨ (t < 0 ∧ zOf (zbut [6, 16, 19, 62]) J' J ∧ J' 19 = zcp J 61 19 0 0 61 19 ∧ J' 6 12 = J 61 0)))) zN := by
  refine tz_Ok.of hl (by decide +kernel) rfl (tb_c1 rfl) (Nat.le_of_ble_eq_true rfl) ?_
  show tz_At l G M_X11_settled (tb_rm 5 0 0) none (tb_ZM G 0 0 (zQ n 0 (zqi (fun z J' => SQ J' J ∧ t = z ∧ ((0 ≤ t ∧ zOf fkp J' J ∧ KX J' J) ∨ (t < 0 ∧ zOf (zbut [6, 16, 19, 62]) J' J ∧ J' 19 = zcp J 61 19 0 0 61 19 ∧ J' 6 12 = J 61 0))))) (zX n 0 zN)) 0 0 n J 0 [some (.ref 0), some (zi t)] []
  refine tz_iload_n (pc := 0) dX11_settled_0 rfl rfl ?_
  refine tz_if_ge (pc := 1) (tgt := 18) dX11_settled_1 (by decide) (by omega) (fun h_1 => ?_) (fun h_1 => ?_)
  · refine tz_aload_n (pc := 18) dX11_settled_18 rfl rfl ?_
    refine tz_fR (pc := 19) dX11_settled_19 fl_X11_29 r_0_1 ?_
    refine tz_cV (pc := 22) (x_keep hl n _ m0 m hA) vl_X11_305 dX11_settled_22 o_5 rfl rfl (Nat.le_of_ble_eq_true rfl) ⟨(Nat.le_of_ble_eq_true rfl), (Nat.le_of_ble_eq_true rfl)⟩ rfl rfl (Nat.le_of_ble_eq_true rfl) (Nat.le_of_ble_eq_true rfl) (fun r9 J_22 hq9 => ?_)
    obtain ⟨rfl, k9, kx⟩ := hq9
    refine tz_iload_n (pc := 25) dX11_settled_25 rfl rfl ?_
    exact tz_iret (pc := 26) (z := t) dX11_settled_26 rfl (Nat.le_of_ble_eq_true rfl) (Nat.le_of_ble_eq_true rfl) ⟨Nat.le_refl _, Nat.le_add_right _ _⟩ ⟨_, rfl, (by omega), (by first | exact ⟨⟨⟨m0, hc.st f2⟩, (f2 145 rfl).trans (b1 145 rfl), (f2 0 rfl).trans (b1 0 rfl), (f2.mono (fun c hc => by have := of_decide_eq_true hc; simp [zbut]; omega)).tr (b1.mono (fun c hc => by have := of_decide_eq_true hc; simp [zbut]; omega))⟩, rfl, Or.inr ⟨by omega, (f2.mono (zbut_sub (fun c hc => by simp at hc ⊢; omega))).tr (b1.mono (zbut_sub (fun c hc => by simp at hc ⊢; omega))), (f2 19 rfl).trans b2, (congrFun (f2 6 rfl) 12).trans b3⟩⟩ | exact ⟨⟨⟨m, k9.1⟩, k9.2 145 rfl, k9.2 0 rfl, k9.2.mono (fun c hc => by have := of_decide_eq_true hc; exact decide_eq_true (by omega))⟩, rfl, Or.inl ⟨by omega, k9.2, kx⟩⟩)⟩
  · refine tz_aload_n (pc := 4) dX11_settled_4 rfl rfl ?_
    refine tz_fR (pc := 5) dX11_settled_5 fl_X11_29 r_0_1 ?_
    refine tz_cV (pc := 8) (c_rollBack hl n _ m hA.1.1.1 hA.1.1.2.1 (by rw [hA.2.2.1.2]; exact hA.2.2.2)) vl_X11_388 dX11_settled_8 o_5 rfl rfl (Nat.le_of_ble_eq_true rfl) ⟨(Nat.le_of_ble_eq_true rfl), (Nat.le_of_ble_eq_true rfl)⟩ rfl rfl (Nat.le_of_ble_eq_true rfl) (Nat.le_of_ble_eq_true rfl) (fun r9 J_8 hq9 => ?_)
    obtain ⟨rfl, b1, b2, b3, b4⟩ := hq9
    have hc := hA.back b1 b2 b3 b4
    refine tz_aload_n (pc := 11) dX11_settled_11 rfl rfl ?_
    refine tz_iconst (pc := 12) dX11_settled_12 ?_
    refine tz_iload_n (pc := 13) dX11_settled_13 rfl rfl ?_
    refine tz_cV (pc := 14) (c_refused hl n _ _ _ (by decide) (by omega) (by decide)) vl_X11_284 dX11_settled_14 o_0 rfl rfl (Nat.le_of_ble_eq_true rfl) ⟨(Nat.le_of_ble_eq_true rfl), (Nat.le_of_ble_eq_true rfl)⟩ rfl rfl (Nat.le_of_ble_eq_true rfl) (Nat.le_of_ble_eq_true rfl) (fun r9 J_14 hq9 => ?_)
    obtain ⟨z_14, rfl, hz_14, f2, rfl⟩ := hq9
    exact tz_iret (pc := 17) (z := t) dX11_settled_17 rfl (Nat.le_of_ble_eq_true rfl) (Nat.le_of_ble_eq_true rfl) ⟨Nat.le_refl _, Nat.le_add_right _ _⟩ ⟨_, rfl, (by omega), (by first | exact ⟨⟨⟨m0, hc.st f2⟩, (f2 145 rfl).trans (b1 145 rfl), (f2 0 rfl).trans (b1 0 rfl), (f2.mono (fun c hc => by have := of_decide_eq_true hc; simp [zbut]; omega)).tr (b1.mono (fun c hc => by have := of_decide_eq_true hc; simp [zbut]; omega))⟩, rfl, Or.inr ⟨by omega, (f2.mono (zbut_sub (fun c hc => by simp at hc ⊢; omega))).tr (b1.mono (zbut_sub (fun c hc => by simp at hc ⊢; omega))), (f2 19 rfl).trans b2, (congrFun (f2 6 rfl) 12).trans b3⟩⟩ | exact ⟨⟨⟨m, k9.1⟩, k9.2 145 rfl, k9.2 0 rfl, k9.2.mono (fun c hc => by have := of_decide_eq_true hc; exact decide_eq_true (by omega))⟩, rfl, Or.inl ⟨by omega, k9.2, kx⟩⟩)⟩

theorem A0.su2 {J' J g : zJ} {m : Int} (E : A0 J g) (hm : J 6 12 = m) (hm' : J' 6 12 = m) (f : ∀ c, c = 1 ∨ c = 2 ∨ c = 3 ∨ c = 4 → J' c = J c) (s : zSU J' J m) (C : CT J m) : A0 J' g := by
  obtain ⟨E1, ⟨e6, E2, E3⟩⟩ := E
  unfold A0
  rw [f 1 (by omega), f 2 (by omega), f 3 (by omega), f 4 (by omega)]
  refine ⟨E1, ⟨by omega, fun t a b => ?_, fun t i a b x y => ?_⟩⟩
  · have q := s.1 t a (by omega)
    rw [q.1, q.2.2.2.2.1]
    exact E2 t a b
  · have q := s.1 t a (by omega)
    rw [q.2.1] at y
    have := (C.ar a (by omega)).1
    rw [s.2 (t * 3 + i) (by omega) (by omega)]
    exact E3 t i a b x y
theorem zSU.f {J2 J1 J : zJ} {m : Int} (s : zSU J1 J m) (e : ∀ c, 7 ≤ c → c ≤ 15 → J2 c = J1 c) : zSU J2 J m := by
  unfold zSU
  rw [e 7 (by decide) (by decide), e 8 (by decide) (by decide), e 9 (by decide) (by decide), e 10 (by decide) (by decide), e 11 (by decide) (by decide), e 12 (by decide) (by decide), e 13 (by decide) (by decide), e 14 (by decide) (by decide), e 15 (by decide) (by decide)]
  exact s
/-- what begin leaves, for alikeness -/
theorem CAL.begin {J Jb G : zJ} {n m : Int} {R : Int → Int → Int} (c : CAL J G n R) (hI : CI J m) (hj : zcp (zup J 19 0 (J 6 12)) 19 61 0 0 61 = Jb) : CAL Jb G n R ∧ KW (Jb 61) (G 165) ∧ LI (Jb 61) m := by
  have e : ∀ q, ¬ q = 19 → ¬ q = 61 → Jb q = J q := fun q a b => by rw [← hj, zcp_nc b, zup_nc a]
  have e19 : ∀ k, ¬ k = 0 → Jb 19 k = J 19 k := fun k a => by rw [← hj, zcp_nc (by decide), zup_ne a]
  have e61 : ∀ k, 0 ≤ k → k < 61 → Jb 61 k = zup J 19 0 (J 6 12) 19 k := fun k a b => by
    rw [← hj, zcp_in (by omega)]
    congr 1
    omega
  have hL := hI.1.1.2.2
  have hn := hI.2.1
  obtain ⟨c1, c2, c3⟩ := c
  have n40 : n ≤ 40 := by have := c3.1; omega
  refine ⟨⟨c1.f (fun q hq => e q (by omega) (by omega)), c2.of hL (fun k a _ => e19 k (by omega)), c3.of n40 (e 5 (by decide) (by decide)) (fun i a b => e _ (by unfold zU; omega) (by unfold zU; omega))⟩, ⟨c2.of hL (fun k a b => ?_), ?_⟩, ?_⟩
  · rw [e61 k (by omega) b, zup_ne (by omega)]
  · rw [e61 0 (by decide) (by decide), zup_at]
    exact c1.2.1
  · have := (hL.terms (z := J 6 12)).c61 e61
    exact this
theorem act_end {X : List Nat} {J Jb Jo J' G : zJ} {F : zJ × Int} {n m m1 t z : Int} {R : Int → Int → Int} (c : CAL J G n R) (hI : CI J m) (hj : zcp (zup J 19 0 (J 6 12)) 19 61 0 0 61 = Jb) (g1 : GX X Jo Jb m m1) (hX : (X.all fun c => decide (c = 19 ∨ 140 ≤ c)) = true) (q : (t = -3 ∧ ¬ F.1 164 21 = 0) ∨ (0 ≤ t ∧ F.1 164 21 = 0 ∧ A0 Jo F.1 ∧ t = F.2 ∧ RW (Jo 19) (F.1 165))) (s : t = z ∧ ((0 ≤ t ∧ zOf fkp J' Jo ∧ KX J' Jo) ∨ (t < 0 ∧ zOf (zbut [6, 16, 19, 62]) J' Jo ∧ J' 19 = zcp Jo 61 19 0 0 61 19 ∧ J' 6 12 = Jo 61 0))) : ED G n R F J' z := by
  obtain ⟨b1, b2, b3⟩ := c.begin hI hj
  obtain ⟨rfl, s⟩ := s
  have hn := hI.2.1
  have nn := c.2.2.1
  have ge : ∀ c, (c < 6 ∨ (17 < c ∧ ¬ c = 19 ∧ c < 140)) → Jo c = Jb c := fun c hc => g1.2.2.2.2 c (by
    simp only [zbut, Bool.not_eq_true', List.contains_eq_mem, decide_eq_false_iff_not, List.mem_cons]
    intro q
    have hx : ∀ c, c ∈ X → c = 19 ∨ 140 ≤ c := fun c hc => of_decide_eq_true (List.all_eq_true.mp hX c hc)
    rcases q with q | q | q | q | q | q | q | q | q | q | q | q | q <;> first | omega | (have := hx c q; omega))
  have eb : ∀ q, ¬ q = 19 → ¬ q = 61 → Jb q = J q := fun q a b => by rw [← hj, zcp_nc b, zup_nc a]
  have cu : CU Jo n R := b1.2.2.of (by omega) (ge 5 (by omega)) (fun i a b => ge _ (by unfold zU; omega))
  have e61 : Jo 61 = Jb 61 := ge 61 (by omega)
  have h55 : 0 ≤ Jo 5 5 ∧ Jo 5 5 < 40 := by rw [ge 5 (by omega), eb 5 (by decide) (by decide)]; exact hn.1
  rcases s with ⟨s0, s1, s2⟩ | ⟨s0, s1, s2, s3⟩
  · rcases q with ⟨q1, _⟩ | ⟨q1, q2, q3, q4, q5⟩
    · omega
    · refine Or.inr ⟨q2, q4, q3.f (fun c hc => s1 c (decide_eq_true (by omega))), by rw [s1 19 rfl]; exact q5, cu.keep (m := m) (by omega) h55 (by rw [e61]; exact b2) (by rw [e61]; exact b3) s2⟩
  · rcases q with ⟨q1, q2⟩ | ⟨q1, _⟩
    · have Cb : CT Jb m := hI.1.1.1.of (fun c hc => eb c (by omega) (by omega))
      have mb : Jb 6 12 = m := by rw [eb 6 (by decide) (by decide)]; exact hI.1.1.2.1
      have fr : ∀ c, ¬ c = 6 → ¬ c = 16 → ¬ c = 19 → ¬ c = 62 → J' c = Jo c := fun c a b d e => s1 c (by simp [zbut]; omega)
      refine Or.inl ⟨q2, q1, b1.1.su2 mb ?_ (fun c hc => (fr c (by omega) (by omega) (by omega) (by omega)).trans (ge c (by omega))) (g1.2.2.2.1.f (fun c a b => fr c (by omega) (by omega) (by omega) (by omega))) Cb, ?_, cu.of (by omega) (fr 5 (by decide) (by decide) (by decide) (by decide)) (fun i a b => fr _ (by unfold zU; omega) (by unfold zU; omega) (by unfold zU; omega) (by unfold zU; omega))⟩
      · rw [s3, e61, b2.2]
        have := b1.1.2.1
        omega
      · refine b2.1.of b3 (fun k a b => ?_)
        rw [s2, zcp_in (by omega), e61]
        congr 1
        omega
    · omega
end
section
/-! ===== variable, make of the class, exact ===== -/
theorem CAL.st {J' J S : zJ} {pn m : Int} {RR : Int → Int → Int} (c : CAL J S pn RR) (hI : CI J m) (f : zOf (zbut [62]) J' J) : CAL J' S pn RR := by
  have hn := hI.2.1
  have nn := c.2.2.1
  exact ⟨c.1.f (fun q hq => f q (by simp [zbut]; omega)), by rw [f 19 rfl]; exact c.2.1, c.2.2.of (by omega) (f 5 rfl) (fun i a b => f _ (by simp [zbut, zU]; omega))⟩
theorem tmO_5 {S : zJ} {h x y w k : Int} (hk : ¬ k = 0) : (tmO S h x y w).1 165 k = S 165 k := by
  unfold tmO
  (repeat' split) <;> first | rfl | (show chT _ _ _ _ _ _ _ _ _ 165 k = _; rw [chT_5, if_neg hk])
/-- a term was asked for: what settled wants -/
theorem A0.op {J' J S : zJ} {m m9 h a b c x y w z : Int} (E : A0 J S) (W : RW (J 19) (S 165)) (l : LI (J 19) m9) (h0 : S 164 21 = 0) (C : CT J m) (hm : J 6 12 = m) (hh : -8 ≤ h ∧ h < J 1 3) (hx : (0 < arh (J 3) h → a = x) ∧ (1 < arh (J 3) h → b = y) ∧ (2 < arh (J 3) h → c = w)) (hr : (0 < arh (J 3) h → 0 ≤ a ∧ a < m) ∧ (1 < arh (J 3) h → 0 ≤ b ∧ b < m) ∧ (2 < arh (J 3) h → 0 ≤ c ∧ c < m)) (p : madeP J m h a b c z J') : (z = -3 ∧ ¬ (tmO S h x y w).1 164 21 = 0) ∨ (0 ≤ z ∧ (tmO S h x y w).1 164 21 = 0 ∧ A0 J' (tmO S h x y w).1 ∧ z = (tmO S h x y w).2 ∧ RW (J' 19) ((tmO S h x y w).1 165)) := by
  rcases E.made h0 C hm hh hx hr p with ⟨q1, q2⟩ | ⟨q1, q2, q3, q4⟩
  · exact Or.inl ⟨q1.2, q2⟩
  · refine Or.inr ⟨q1, q2, q3, q4, ?_⟩
    rw [p.1 19 rfl]
    exact W.to l (fun k u v => tmO_5 (by omega))
set_option maxHeartbeats 4000000 in
set_option maxRecDepth 100000 in
theorem v_variable {l : Launch} {G : tb_G} (hl : l.stackTraces = false) (n : Nat) (J : zJ) (x : Int) (hr_x : -2147483648 ≤ x ∧ x < 2147483648) (m : Int) (S : zJ) (pn : Int) (RR : Int → Int → Int) (hI : CI J m) (h9 : J 145 10 < 1000000000) (cc : CAL J S pn RR) (h21 : S 164 21 = 0) : tz_Ok l G M_X11_variable 6 0 0 [.ref 0, zi x] n J (zqi (fun z J' => CQ J' J ∧ (((0 ≤ x ∧ x < 8) ∧ ED S pn RR (tmO S (-1 - x) 0 0 0) J' z) ∨ (¬ (0 ≤ x ∧ x < 8) ∧ z = -1 ∧ CAL J' S pn RR)))) zN := by
  refine tz_Ok.of hl (by decide +kernel) rfl (tb_c1 rfl) (Nat.le_of_ble_eq_true rfl) ?_
  show tz_At l G M_X11_variable (tb_rm 6 0 0) none (tb_ZM G 0 0 (zQ n 0 (zqi (fun z J' => CQ J' J ∧ (((0 ≤ x ∧ x < 8) ∧ ED S pn RR (tmO S (-1 - x) 0 0 0) J' z) ∨ (¬ (0 ≤ x ∧ x < 8) ∧ z = -1 ∧ CAL J' S pn RR))))) (zX n 0 zN)) 0 0 n J 0 [some (.ref 0), some (zi x)] []
  have hC := hI.1.1.1
  have hm := hI.1.1.2.1
  have hL := hI.1.1.2.2
  have hb := hC.told
  refine tz_iload_n (pc := 0) dX11_variable_0 rfl rfl ?_
  refine tz_cS (pc := 1) (c_isVarN hl n _ _ (by omega)) sl_X11_279 dX11_variable_1 rfl rfl (Nat.le_of_ble_eq_true rfl) ⟨(Nat.le_of_ble_eq_true rfl), (Nat.le_of_ble_eq_true rfl)⟩ rfl rfl (Nat.le_of_ble_eq_true rfl) (Nat.le_of_ble_eq_true rfl) (fun r9 J_1 hq9 => ?_)
  obtain ⟨z_1, rfl, hz_1, rfl, rfl⟩ := hq9
  by_cases hw_4 : 0 ≤ x ∧ x < 8
  · rw [show (if 0 ≤ x ∧ x < 8 then 1 else 0 : Int) = 1 from if_pos hw_4]
    refine tz_if_neT (pc := 4) (tgt := 14) (by decide) dX11_variable_4 (by decide) (by decide) ?_
    refine tz_aload_n (pc := 14) dX11_variable_14 rfl rfl ?_
    refine tz_fR (pc := 15) dX11_variable_15 fl_X11_29 r_0_1 ?_
    refine tz_cV (pc := 18) (c_begin hl n _) vl_X11_287 dX11_variable_18 o_5 rfl rfl (Nat.le_of_ble_eq_true rfl) ⟨(Nat.le_of_ble_eq_true rfl), (Nat.le_of_ble_eq_true rfl)⟩ rfl rfl (Nat.le_of_ble_eq_true rfl) (Nat.le_of_ble_eq_true rfl) (fun r9 Jb hq9 => ?_)
    obtain ⟨rfl, hj⟩ := hq9
    have hb9 : zOf (zbut [19, 61]) Jb J := by rw [← hj]; exact zOf.cp rfl (zOf.up rfl zOf.rf)
    have hb19 : ∀ k, ¬ k = 0 → Jb 19 k = J 19 k := fun k hk => by rw [← hj, zcp_nc (by decide), zup_ne hk]
    have a0 : AC Jb m m := by rw [← hj]; exact hI.begin
    have hb6 := a0.1.1.2.1
    obtain ⟨cb, kb, lb⟩ := cc.begin hI hj
    refine tz_aload_n (pc := 21) dX11_variable_21 rfl rfl ?_
    refine tz_aload_n (pc := 22) dX11_variable_22 rfl rfl ?_
    refine tz_fR (pc := 23) dX11_variable_23 fl_X11_29 r_0_1 ?_
    refine tz_fR (pc := 26) dX11_variable_26 fl_X11_49 r_5_0 ?_
    refine tz_iload_n (pc := 29) dX11_variable_29 rfl rfl ?_
    refine tz_cV (pc := 30) (c_varTerm hl n _ _ (by omega) m a0.1.1.1 a0.1.1.2.1 (by omega)) vl_X11_290 dX11_variable_30 o_6 rfl rfl (Nat.le_of_ble_eq_true rfl) ⟨(Nat.le_of_ble_eq_true rfl), (Nat.le_of_ble_eq_true rfl)⟩ rfl rfl (Nat.le_of_ble_eq_true rfl) (Nat.le_of_ble_eq_true rfl) (fun r9 J_30 hq9 => ?_)
    obtain ⟨z_30, rfl, hz_30, p1⟩ := hq9
    obtain ⟨m1, g1, h1⟩ := GR.made p1 (by omega)
    have a1 := a0.gx0 (g1.x (X := [])) rfl
    have ar0 : arh (Jb 3) (-1 - x) = 0 := by unfold arh; rw [if_pos (by omega)]
    have o1 := cb.1.op (x := 0) (y := 0) (w := 0) cb.2.1 a0.1.1.2.2 h21 a0.1.1.1 a0.1.1.2.1 ⟨by omega, by have := a0.1.1.1.told; omega⟩ ⟨fun q => by omega, fun q => by omega, fun q => by omega⟩ ⟨fun q => by omega, fun q => by omega, fun q => by omega⟩ p1
    refine tz_cV (pc := 33) (x_settled hl n _ _ (by omega) m m1 a1) vl_X11_293 dX11_variable_33 o_0 rfl rfl (Nat.le_of_ble_eq_true rfl) ⟨(Nat.le_of_ble_eq_true rfl), (Nat.le_of_ble_eq_true rfl)⟩ rfl rfl (Nat.le_of_ble_eq_true rfl) (Nat.le_of_ble_eq_true rfl) (fun r9 J_33 hq9 => ?_)
    obtain ⟨z_33, rfl, hz_33, s9, s8⟩ := hq9
    exact tz_iret (pc := 36) (z := z_33) dX11_variable_36 rfl (Nat.le_of_ble_eq_true rfl) (Nat.le_of_ble_eq_true rfl) ⟨Nat.le_refl _, Nat.le_add_right _ _⟩ ⟨_, rfl, (by omega), ⟨(s9.cq (by rw [g1.2.2.2.2 145 rfl, hb9 145 rfl]; omega) ((g1.2.2.2.2 0 rfl).trans (hb9 0 rfl)) ((g1.2.2.2.2.mono (fun c hc => by have := of_decide_eq_true hc; simp [zbut]; omega)).tr (hb9.mono (fun c hc => by have := of_decide_eq_true hc; simp [zbut]; omega)))), Or.inl ⟨by omega, act_end cc hI hj (g1.x (X := [])) rfl o1 s8⟩⟩⟩
  · rw [show (if 0 ≤ x ∧ x < 8 then 1 else 0 : Int) = 0 from if_neg hw_4]
    refine tz_if_neF (pc := 4) (tgt := 14) (by decide) dX11_variable_4 (by decide) (by decide) ?_
    refine tz_aload_n (pc := 7) dX11_variable_7 rfl rfl ?_
    refine tz_iconst (pc := 8) dX11_variable_8 ?_
    refine tz_iconst (pc := 9) dX11_variable_9 ?_
    refine tz_cV (pc := 10) (c_refused hl n _ _ _ (by decide) (by omega) (by decide)) vl_X11_284 dX11_variable_10 o_0 rfl rfl (Nat.le_of_ble_eq_true rfl) ⟨(Nat.le_of_ble_eq_true rfl), (Nat.le_of_ble_eq_true rfl)⟩ rfl rfl (Nat.le_of_ble_eq_true rfl) (Nat.le_of_ble_eq_true rfl) (fun r9 J_10 hq9 => ?_)
    obtain ⟨z_10, rfl, hz_10, f9, rfl⟩ := hq9
    exact tz_iret (pc := 13) (z := (-1)) dX11_variable_13 rfl (Nat.le_of_ble_eq_true rfl) (Nat.le_of_ble_eq_true rfl) ⟨Nat.le_refl _, Nat.le_add_right _ _⟩ ⟨_, rfl, (by decide), ⟨(SQ.cq ⟨⟨m, hI.st f9⟩, f9 145 rfl, f9 0 rfl, (f9.mono (fun c hc => by have := of_decide_eq_true hc; simp [zbut]; omega))⟩ (by omega) rfl zOf.rf), Or.inr ⟨by omega, rfl, cc.st hI f9⟩⟩⟩

set_option maxHeartbeats 4000000 in
set_option maxRecDepth 100000 in
theorem x_haveArgs {l : Launch} {G : tb_G} (hl : l.stackTraces = false) (n : Nat) (J : zJ) (u : Int) (a : Int) (b : Int) (c : Int) (hr_u : -2147483648 ≤ u ∧ u < 2147483648) (hr_a : -2147483648 ≤ a ∧ a < 2147483648) (hr_b : -2147483648 ≤ b ∧ b < 2147483648) (hr_c : -2147483648 ≤ c ∧ c < 2147483648)   : tz_Ok l G M_X11_haveArguments 1 0 0 [.ref 0, zi u, zi a, zi b, zi c] n J (zqi (fun z J' => J = J' ∧ (z = 0 ∨ z = 1) ∧ (z = 1 ↔ (0 < u → 0 ≤ a ∧ a < J 6 12) ∧ (1 < u → 0 ≤ b ∧ b < J 6 12) ∧ (2 < u → 0 ≤ c ∧ c < J 6 12)))) zN := by
  refine tz_Ok.of hl (by decide +kernel) rfl (tb_c1 rfl) (Nat.le_of_ble_eq_true rfl) ?_
  show tz_At l G M_X11_haveArguments (tb_rm 1 0 0) none (tb_ZM G 0 0 (zQ n 0 (zqi (fun z J' => J = J' ∧ (z = 0 ∨ z = 1) ∧ (z = 1 ↔ (0 < u → 0 ≤ a ∧ a < J 6 12) ∧ (1 < u → 0 ≤ b ∧ b < J 6 12) ∧ (2 < u → 0 ≤ c ∧ c < J 6 12))))) (zX n 0 zN)) 0 0 n J 0 [some (.ref 0), some (zi u), some (zi a), some (zi b), some (zi c), none] []
  refine tz_aload_n (pc := 0) dX11_haveArguments_0 rfl rfl ?_
  refine tz_fR (pc := 1) dX11_haveArguments_1 fl_X11_29 r_0_1 ?_
  refine tz_fR (pc := 4) dX11_haveArguments_4 fl_X11_49 r_5_0 ?_
  refine tz_astore (pc := 7) (L2 := [_, _, _, _, _, _]) dX11_haveArguments_7 (by decide) rfl ?_
  refine tz_iload_n (pc := 9) dX11_haveArguments_9 rfl rfl ?_
  refine tz_iconst (pc := 10) dX11_haveArguments_10 ?_
  refine tz_icmp_lt (pc := 11) (tgt := 23) dX11_haveArguments_11 (by decide) (by omega) (by decide) (fun h_11 => ?_) (fun h_11 => ?_)
  · refine tz_iload_n (pc := 23) dX11_haveArguments_23 rfl rfl ?_
    refine tz_iconst (pc := 24) dX11_haveArguments_24 ?_
    refine tz_icmp_lt (pc := 25) (tgt := 37) dX11_haveArguments_25 (by decide) (by omega) (by decide) (fun h_25 => ?_) (fun h_25 => ?_)
    · refine tz_iload_n (pc := 37) dX11_haveArguments_37 rfl rfl ?_
      refine tz_iconst (pc := 38) dX11_haveArguments_38 ?_
      refine tz_icmp_lt (pc := 39) (tgt := 52) dX11_haveArguments_39 (by decide) (by omega) (by decide) (fun h_39 => ?_) (fun h_39 => ?_)
      · refine tz_iconst (pc := 52) dX11_haveArguments_52 ?_
        refine tz_goto (pc := 53) (tgt := 57) dX11_haveArguments_53 (by decide) ?_
        exact tz_zret (pc := 57) (z := 1) dX11_haveArguments_57 rfl (Or.inr rfl) (Nat.le_of_ble_eq_true rfl) (Nat.le_of_ble_eq_true rfl) ⟨Nat.le_refl _, Nat.le_add_right _ _⟩ ⟨_, rfl, (by decide), ⟨rfl, by omega, by omega⟩⟩
      · refine tz_aload (pc := 42) dX11_haveArguments_42 rfl ?_
        refine tz_iload (pc := 44) dX11_haveArguments_44 rfl ?_
        refine tz_cV (pc := 46) (c_has hl n _ _ (by omega)) vl_X11_304 dX11_haveArguments_46 o_6 rfl rfl (Nat.le_of_ble_eq_true rfl) ⟨(Nat.le_of_ble_eq_true rfl), (Nat.le_of_ble_eq_true rfl)⟩ rfl rfl (Nat.le_of_ble_eq_true rfl) (Nat.le_of_ble_eq_true rfl) (fun r9 J_46 hq9 => ?_)
        obtain ⟨z_46, rfl, hz_46, rfl, rfl⟩ := hq9
        by_cases hw_49 : 0 ≤ c ∧ c < J 6 12
        · rw [show (if 0 ≤ c ∧ c < J 6 12 then 1 else 0 : Int) = 1 from if_pos hw_49]
          refine tz_if_eqF (pc := 49) (tgt := 56) (by decide) dX11_haveArguments_49 (by decide) (by decide) ?_
          refine tz_iconst (pc := 52) dX11_haveArguments_52 ?_
          refine tz_goto (pc := 53) (tgt := 57) dX11_haveArguments_53 (by decide) ?_
          exact tz_zret (pc := 57) (z := 1) dX11_haveArguments_57 rfl (Or.inr rfl) (Nat.le_of_ble_eq_true rfl) (Nat.le_of_ble_eq_true rfl) ⟨Nat.le_refl _, Nat.le_add_right _ _⟩ ⟨_, rfl, (by decide), ⟨rfl, by omega, by omega⟩⟩
        · rw [show (if 0 ≤ c ∧ c < J 6 12 then 1 else 0 : Int) = 0 from if_neg hw_49]
          refine tz_if_eqT (pc := 49) (tgt := 56) (by decide) dX11_haveArguments_49 (by decide) (by decide) ?_
          refine tz_iconst (pc := 56) dX11_haveArguments_56 ?_
          exact tz_zret (pc := 57) (z := 0) dX11_haveArguments_57 rfl (Or.inl rfl) (Nat.le_of_ble_eq_true rfl) (Nat.le_of_ble_eq_true rfl) ⟨Nat.le_refl _, Nat.le_add_right _ _⟩ ⟨_, rfl, (by decide), ⟨rfl, by omega, by omega⟩⟩
    · refine tz_aload (pc := 28) dX11_haveArguments_28 rfl ?_
      refine tz_iload_n (pc := 30) dX11_haveArguments_30 rfl rfl ?_
      refine tz_cV (pc := 31) (c_has hl n _ _ (by omega)) vl_X11_304 dX11_haveArguments_31 o_6 rfl rfl (Nat.le_of_ble_eq_true rfl) ⟨(Nat.le_of_ble_eq_true rfl), (Nat.le_of_ble_eq_true rfl)⟩ rfl rfl (Nat.le_of_ble_eq_true rfl) (Nat.le_of_ble_eq_true rfl) (fun r9 J_31 hq9 => ?_)
      obtain ⟨z_31, rfl, hz_31, rfl, rfl⟩ := hq9
      by_cases hw_34 : 0 ≤ b ∧ b < J 6 12
      · rw [show (if 0 ≤ b ∧ b < J 6 12 then 1 else 0 : Int) = 1 from if_pos hw_34]
        refine tz_if_eqF (pc := 34) (tgt := 56) (by decide) dX11_haveArguments_34 (by decide) (by decide) ?_
        refine tz_iload_n (pc := 37) dX11_haveArguments_37 rfl rfl ?_
        refine tz_iconst (pc := 38) dX11_haveArguments_38 ?_
        refine tz_icmp_lt (pc := 39) (tgt := 52) dX11_haveArguments_39 (by decide) (by omega) (by decide) (fun h_39 => ?_) (fun h_39 => ?_)
        · refine tz_iconst (pc := 52) dX11_haveArguments_52 ?_
          refine tz_goto (pc := 53) (tgt := 57) dX11_haveArguments_53 (by decide) ?_
          exact tz_zret (pc := 57) (z := 1) dX11_haveArguments_57 rfl (Or.inr rfl) (Nat.le_of_ble_eq_true rfl) (Nat.le_of_ble_eq_true rfl) ⟨Nat.le_refl _, Nat.le_add_right _ _⟩ ⟨_, rfl, (by decide), ⟨rfl, by omega, by omega⟩⟩
        · refine tz_aload (pc := 42) dX11_haveArguments_42 rfl ?_
          refine tz_iload (pc := 44) dX11_haveArguments_44 rfl ?_
          refine tz_cV (pc := 46) (c_has hl n _ _ (by omega)) vl_X11_304 dX11_haveArguments_46 o_6 rfl rfl (Nat.le_of_ble_eq_true rfl) ⟨(Nat.le_of_ble_eq_true rfl), (Nat.le_of_ble_eq_true rfl)⟩ rfl rfl (Nat.le_of_ble_eq_true rfl) (Nat.le_of_ble_eq_true rfl) (fun r9 J_46 hq9 => ?_)
          obtain ⟨z_46, rfl, hz_46, rfl, rfl⟩ := hq9
          by_cases hw_49 : 0 ≤ c ∧ c < J 6 12
          · rw [show (if 0 ≤ c ∧ c < J 6 12 then 1 else 0 : Int) = 1 from if_pos hw_49]
            refine tz_if_eqF (pc := 49) (tgt := 56) (by decide) dX11_haveArguments_49 (by decide) (by decide) ?_
            refine tz_iconst (pc := 52) dX11_haveArguments_52 ?_
            refine tz_goto (pc := 53) (tgt := 57) dX11_haveArguments_53 (by decide) ?_
            exact tz_zret (pc := 57) (z := 1) dX11_haveArguments_57 rfl (Or.inr rfl) (Nat.le_of_ble_eq_true rfl) (Nat.le_of_ble_eq_true rfl) ⟨Nat.le_refl _, Nat.le_add_right _ _⟩ ⟨_, rfl, (by decide), ⟨rfl, by omega, by omega⟩⟩
          · rw [show (if 0 ≤ c ∧ c < J 6 12 then 1 else 0 : Int) = 0 from if_neg hw_49]
            refine tz_if_eqT (pc := 49) (tgt := 56) (by decide) dX11_haveArguments_49 (by decide) (by decide) ?_
            refine tz_iconst (pc := 56) dX11_haveArguments_56 ?_
            exact tz_zret (pc := 57) (z := 0) dX11_haveArguments_57 rfl (Or.inl rfl) (Nat.le_of_ble_eq_true rfl) (Nat.le_of_ble_eq_true rfl) ⟨Nat.le_refl _, Nat.le_add_right _ _⟩ ⟨_, rfl, (by decide), ⟨rfl, by omega, by omega⟩⟩
      · rw [show (if 0 ≤ b ∧ b < J 6 12 then 1 else 0 : Int) = 0 from if_neg hw_34]
        refine tz_if_eqT (pc := 34) (tgt := 56) (by decide) dX11_haveArguments_34 (by decide) (by decide) ?_
        refine tz_iconst (pc := 56) dX11_haveArguments_56 ?_
        exact tz_zret (pc := 57) (z := 0) dX11_haveArguments_57 rfl (Or.inl rfl) (Nat.le_of_ble_eq_true rfl) (Nat.le_of_ble_eq_true rfl) ⟨Nat.le_refl _, Nat.le_add_right _ _⟩ ⟨_, rfl, (by decide), ⟨rfl, by omega, by omega⟩⟩
  · refine tz_aload (pc := 14) dX11_haveArguments_14 rfl ?_
    refine tz_iload_n (pc := 16) dX11_haveArguments_16 rfl rfl ?_
    refine tz_cV (pc := 17) (c_has hl n _ _ (by omega)) vl_X11_304 dX11_haveArguments_17 o_6 rfl rfl (Nat.le_of_ble_eq_true rfl) ⟨(Nat.le_of_ble_eq_true rfl), (Nat.le_of_ble_eq_true rfl)⟩ rfl rfl (Nat.le_of_ble_eq_true rfl) (Nat.le_of_ble_eq_true rfl) (fun r9 J_17 hq9 => ?_)
    obtain ⟨z_17, rfl, hz_17, rfl, rfl⟩ := hq9
    by_cases hw_20 : 0 ≤ a ∧ a < J 6 12
    · rw [show (if 0 ≤ a ∧ a < J 6 12 then 1 else 0 : Int) = 1 from if_pos hw_20]
      refine tz_if_eqF (pc := 20) (tgt := 56) (by decide) dX11_haveArguments_20 (by decide) (by decide) ?_
      refine tz_iload_n (pc := 23) dX11_haveArguments_23 rfl rfl ?_
      refine tz_iconst (pc := 24) dX11_haveArguments_24 ?_
      refine tz_icmp_lt (pc := 25) (tgt := 37) dX11_haveArguments_25 (by decide) (by omega) (by decide) (fun h_25 => ?_) (fun h_25 => ?_)
      · refine tz_iload_n (pc := 37) dX11_haveArguments_37 rfl rfl ?_
        refine tz_iconst (pc := 38) dX11_haveArguments_38 ?_
        refine tz_icmp_lt (pc := 39) (tgt := 52) dX11_haveArguments_39 (by decide) (by omega) (by decide) (fun h_39 => ?_) (fun h_39 => ?_)
        · refine tz_iconst (pc := 52) dX11_haveArguments_52 ?_
          refine tz_goto (pc := 53) (tgt := 57) dX11_haveArguments_53 (by decide) ?_
          exact tz_zret (pc := 57) (z := 1) dX11_haveArguments_57 rfl (Or.inr rfl) (Nat.le_of_ble_eq_true rfl) (Nat.le_of_ble_eq_true rfl) ⟨Nat.le_refl _, Nat.le_add_right _ _⟩ ⟨_, rfl, (by decide), ⟨rfl, by omega, by omega⟩⟩
        · refine tz_aload (pc := 42) dX11_haveArguments_42 rfl ?_
          refine tz_iload (pc := 44) dX11_haveArguments_44 rfl ?_
          refine tz_cV (pc := 46) (c_has hl n _ _ (by omega)) vl_X11_304 dX11_haveArguments_46 o_6 rfl rfl (Nat.le_of_ble_eq_true rfl) ⟨(Nat.le_of_ble_eq_true rfl), (Nat.le_of_ble_eq_true rfl)⟩ rfl rfl (Nat.le_of_ble_eq_true rfl) (Nat.le_of_ble_eq_true rfl) (fun r9 J_46 hq9 => ?_)
          obtain ⟨z_46, rfl, hz_46, rfl, rfl⟩ := hq9
          by_cases hw_49 : 0 ≤ c ∧ c < J 6 12
          · rw [show (if 0 ≤ c ∧ c < J 6 12 then 1 else 0 : Int) = 1 from if_pos hw_49]
            refine tz_if_eqF (pc := 49) (tgt := 56) (by decide) dX11_haveArguments_49 (by decide) (by decide) ?_
            refine tz_iconst (pc := 52) dX11_haveArguments_52 ?_
            refine tz_goto (pc := 53) (tgt := 57) dX11_haveArguments_53 (by decide) ?_
            exact tz_zret (pc := 57) (z := 1) dX11_haveArguments_57 rfl (Or.inr rfl) (Nat.le_of_ble_eq_true rfl) (Nat.le_of_ble_eq_true rfl) ⟨Nat.le_refl _, Nat.le_add_right _ _⟩ ⟨_, rfl, (by decide), ⟨rfl, by omega, by omega⟩⟩
          · rw [show (if 0 ≤ c ∧ c < J 6 12 then 1 else 0 : Int) = 0 from if_neg hw_49]
            refine tz_if_eqT (pc := 49) (tgt := 56) (by decide) dX11_haveArguments_49 (by decide) (by decide) ?_
            refine tz_iconst (pc := 56) dX11_haveArguments_56 ?_
            exact tz_zret (pc := 57) (z := 0) dX11_haveArguments_57 rfl (Or.inl rfl) (Nat.le_of_ble_eq_true rfl) (Nat.le_of_ble_eq_true rfl) ⟨Nat.le_refl _, Nat.le_add_right _ _⟩ ⟨_, rfl, (by decide), ⟨rfl, by omega, by omega⟩⟩
      · refine tz_aload (pc := 28) dX11_haveArguments_28 rfl ?_
        refine tz_iload_n (pc := 30) dX11_haveArguments_30 rfl rfl ?_
        refine tz_cV (pc := 31) (c_has hl n _ _ (by omega)) vl_X11_304 dX11_haveArguments_31 o_6 rfl rfl (Nat.le_of_ble_eq_true rfl) ⟨(Nat.le_of_ble_eq_true rfl), (Nat.le_of_ble_eq_true rfl)⟩ rfl rfl (Nat.le_of_ble_eq_true rfl) (Nat.le_of_ble_eq_true rfl) (fun r9 J_31 hq9 => ?_)
        obtain ⟨z_31, rfl, hz_31, rfl, rfl⟩ := hq9
        by_cases hw_34 : 0 ≤ b ∧ b < J 6 12
        · rw [show (if 0 ≤ b ∧ b < J 6 12 then 1 else 0 : Int) = 1 from if_pos hw_34]
          refine tz_if_eqF (pc := 34) (tgt := 56) (by decide) dX11_haveArguments_34 (by decide) (by decide) ?_
          refine tz_iload_n (pc := 37) dX11_haveArguments_37 rfl rfl ?_
          refine tz_iconst (pc := 38) dX11_haveArguments_38 ?_
          refine tz_icmp_lt (pc := 39) (tgt := 52) dX11_haveArguments_39 (by decide) (by omega) (by decide) (fun h_39 => ?_) (fun h_39 => ?_)
          · refine tz_iconst (pc := 52) dX11_haveArguments_52 ?_
            refine tz_goto (pc := 53) (tgt := 57) dX11_haveArguments_53 (by decide) ?_
            exact tz_zret (pc := 57) (z := 1) dX11_haveArguments_57 rfl (Or.inr rfl) (Nat.le_of_ble_eq_true rfl) (Nat.le_of_ble_eq_true rfl) ⟨Nat.le_refl _, Nat.le_add_right _ _⟩ ⟨_, rfl, (by decide), ⟨rfl, by omega, by omega⟩⟩
          · refine tz_aload (pc := 42) dX11_haveArguments_42 rfl ?_
            refine tz_iload (pc := 44) dX11_haveArguments_44 rfl ?_
            refine tz_cV (pc := 46) (c_has hl n _ _ (by omega)) vl_X11_304 dX11_haveArguments_46 o_6 rfl rfl (Nat.le_of_ble_eq_true rfl) ⟨(Nat.le_of_ble_eq_true rfl), (Nat.le_of_ble_eq_true rfl)⟩ rfl rfl (Nat.le_of_ble_eq_true rfl) (Nat.le_of_ble_eq_true rfl) (fun r9 J_46 hq9 => ?_)
            obtain ⟨z_46, rfl, hz_46, rfl, rfl⟩ := hq9
            by_cases hw_49 : 0 ≤ c ∧ c < J 6 12
            · rw [show (if 0 ≤ c ∧ c < J 6 12 then 1 else 0 : Int) = 1 from if_pos hw_49]
              refine tz_if_eqF (pc := 49) (tgt := 56) (by decide) dX11_haveArguments_49 (by decide) (by decide) ?_
              refine tz_iconst (pc := 52) dX11_haveArguments_52 ?_
              refine tz_goto (pc := 53) (tgt := 57) dX11_haveArguments_53 (by decide) ?_
              exact tz_zret (pc := 57) (z := 1) dX11_haveArguments_57 rfl (Or.inr rfl) (Nat.le_of_ble_eq_true rfl) (Nat.le_of_ble_eq_true rfl) ⟨Nat.le_refl _, Nat.le_add_right _ _⟩ ⟨_, rfl, (by decide), ⟨rfl, by omega, by omega⟩⟩
            · rw [show (if 0 ≤ c ∧ c < J 6 12 then 1 else 0 : Int) = 0 from if_neg hw_49]
              refine tz_if_eqT (pc := 49) (tgt := 56) (by decide) dX11_haveArguments_49 (by decide) (by decide) ?_
              refine tz_iconst (pc := 56) dX11_haveArguments_56 ?_
              exact tz_zret (pc := 57) (z := 0) dX11_haveArguments_57 rfl (Or.inl rfl) (Nat.le_of_ble_eq_true rfl) (Nat.le_of_ble_eq_true rfl) ⟨Nat.le_refl _, Nat.le_add_right _ _⟩ ⟨_, rfl, (by decide), ⟨rfl, by omega, by omega⟩⟩
        · rw [show (if 0 ≤ b ∧ b < J 6 12 then 1 else 0 : Int) = 0 from if_neg hw_34]
          refine tz_if_eqT (pc := 34) (tgt := 56) (by decide) dX11_haveArguments_34 (by decide) (by decide) ?_
          refine tz_iconst (pc := 56) dX11_haveArguments_56 ?_
          exact tz_zret (pc := 57) (z := 0) dX11_haveArguments_57 rfl (Or.inl rfl) (Nat.le_of_ble_eq_true rfl) (Nat.le_of_ble_eq_true rfl) ⟨Nat.le_refl _, Nat.le_add_right _ _⟩ ⟨_, rfl, (by decide), ⟨rfl, by omega, by omega⟩⟩
    · rw [show (if 0 ≤ a ∧ a < J 6 12 then 1 else 0 : Int) = 0 from if_neg hw_20]
      refine tz_if_eqT (pc := 20) (tgt := 56) (by decide) dX11_haveArguments_20 (by decide) (by decide) ?_
      refine tz_iconst (pc := 56) dX11_haveArguments_56 ?_
      exact tz_zret (pc := 57) (z := 0) dX11_haveArguments_57 rfl (Or.inl rfl) (Nat.le_of_ble_eq_true rfl) (Nat.le_of_ble_eq_true rfl) ⟨Nat.le_refl _, Nat.le_add_right _ _⟩ ⟨_, rfl, (by decide), ⟨rfl, by omega, by omega⟩⟩

set_option maxHeartbeats 4000000 in
set_option maxRecDepth 100000 in
theorem v_make {l : Launch} {G : tb_G} (hl : l.stackTraces = false) (n : Nat) (J : zJ) (s : Int) (a : Int) (b : Int) (c : Int) (hr_s : -2147483648 ≤ s ∧ s < 2147483648) (hr_a : -2147483648 ≤ a ∧ a < 2147483648) (hr_b : -2147483648 ≤ b ∧ b < 2147483648) (hr_c : -2147483648 ≤ c ∧ c < 2147483648) (m : Int) (S : zJ) (pn : Int) (RR : Int → Int → Int) (hI : CI J m) (h9 : J 145 10 < 1000000000) (cc : CAL J S pn RR) (h21 : S 164 21 = 0) : tz_Ok l G M_X11_make 6 0 0 [.ref 0, zi s, zi a, zi b, zi c] n J (zqi (fun z J' => CQ J' J ∧ ((((0 ≤ s ∧ s < J 1 3) ∧ (0 < J 3 s → 0 ≤ a ∧ a < J 6 12) ∧ (1 < J 3 s → 0 ≤ b ∧ b < J 6 12) ∧ (2 < J 3 s → 0 ≤ c ∧ c < J 6 12)) ∧ ED S pn RR (tmO S s a b c) J' z) ∨ (¬ ((0 ≤ s ∧ s < J 1 3) ∧ (0 < J 3 s → 0 ≤ a ∧ a < J 6 12) ∧ (1 < J 3 s → 0 ≤ b ∧ b < J 6 12) ∧ (2 < J 3 s → 0 ≤ c ∧ c < J 6 12)) ∧ z = -1 ∧ CAL J' S pn RR)))) zN := by
  refine tz_Ok.of hl (by decide +kernel) rfl (tb_c1 rfl) (Nat.le_of_ble_eq_true rfl) ?_
  show tz_At l G M_X11_make (tb_rm 6 0 0) none (tb_ZM G 0 0 (zQ n 0 (zqi (fun z J' => CQ J' J ∧ ((((0 ≤ s ∧ s < J 1 3) ∧ (0 < J 3 s → 0 ≤ a ∧ a < J 6 12) ∧ (1 < J 3 s → 0 ≤ b ∧ b < J 6 12) ∧ (2 < J 3 s → 0 ≤ c ∧ c < J 6 12)) ∧ ED S pn RR (tmO S s a b c) J' z) ∨ (¬ ((0 ≤ s ∧ s < J 1 3) ∧ (0 < J 3 s → 0 ≤ a ∧ a < J 6 12) ∧ (1 < J 3 s → 0 ≤ b ∧ b < J 6 12) ∧ (2 < J 3 s → 0 ≤ c ∧ c < J 6 12)) ∧ z = -1 ∧ CAL J' S pn RR))))) (zX n 0 zN)) 0 0 n J 0 [some (.ref 0), some (zi s), some (zi a), some (zi b), some (zi c)] []
  have hC := hI.1.1.1
  have hm := hI.1.1.2.1
  have hL := hI.1.1.2.2
  have hb := hC.told
  refine tz_aload_n (pc := 0) dX11_make_0 rfl rfl ?_
  refine tz_fR (pc := 1) dX11_make_1 fl_X11_10 r_0_0 ?_
  refine tz_iload_n (pc := 4) dX11_make_4 rfl rfl ?_
  refine tz_cV (pc := 5) (c_syHas hl n _ _ (by omega)) vl_X11_193 dX11_make_5 o_1 rfl rfl (Nat.le_of_ble_eq_true rfl) ⟨(Nat.le_of_ble_eq_true rfl), (Nat.le_of_ble_eq_true rfl)⟩ rfl rfl (Nat.le_of_ble_eq_true rfl) (Nat.le_of_ble_eq_true rfl) (fun r9 J_5 hq9 => ?_)
  obtain ⟨z_5, rfl, hz_5, rfl, rfl⟩ := hq9
  by_cases hw_8 : 0 ≤ s ∧ s < J 1 3
  · rw [show (if 0 ≤ s ∧ s < J 1 3 then 1 else 0 : Int) = 1 from if_pos hw_8]
    refine tz_if_eqF (pc := 8) (tgt := 31) (by decide) dX11_make_8 (by decide) (by decide) ?_
    refine tz_aload_n (pc := 11) dX11_make_11 rfl rfl ?_
    refine tz_aload_n (pc := 12) dX11_make_12 rfl rfl ?_
    refine tz_fR (pc := 13) dX11_make_13 fl_X11_10 r_0_0 ?_
    refine tz_fR (pc := 16) dX11_make_16 fl_X11_202 r_1_1 ?_
    refine tz_iload_n (pc := 19) dX11_make_19 rfl rfl ?_
    refine tz_aL (pc := 20) (z := s) (v := (J 3 s)) dX11_make_20 a_3 rfl (by omega) rfl (fun r_20 => ?_)
    refine tz_iload_n (pc := 21) dX11_make_21 rfl rfl ?_
    refine tz_iload_n (pc := 22) dX11_make_22 rfl rfl ?_
    refine tz_iload (pc := 23) dX11_make_23 rfl ?_
    refine tz_cV (pc := 25) (x_haveArgs hl n _ _ _ _ _ (by omega) (by omega) (by omega) (by omega)) vl_X11_296 dX11_make_25 o_0 rfl rfl (Nat.le_of_ble_eq_true rfl) ⟨(Nat.le_of_ble_eq_true rfl), (Nat.le_of_ble_eq_true rfl)⟩ rfl rfl (Nat.le_of_ble_eq_true rfl) (Nat.le_of_ble_eq_true rfl) (fun r9 J_25 hq9 => ?_)
    obtain ⟨zh, rfl, hz_25, rfl, ha0, ha1⟩ := hq9
    refine tz_if_ne (pc := 28) (tgt := 38) dX11_make_28 (by decide) (by omega) (fun h_28 => ?_) (fun h_28 => ?_)
    · refine tz_aload_n (pc := 38) dX11_make_38 rfl rfl ?_
      refine tz_fR (pc := 39) dX11_make_39 fl_X11_29 r_0_1 ?_
      refine tz_cV (pc := 42) (c_begin hl n _) vl_X11_287 dX11_make_42 o_5 rfl rfl (Nat.le_of_ble_eq_true rfl) ⟨(Nat.le_of_ble_eq_true rfl), (Nat.le_of_ble_eq_true rfl)⟩ rfl rfl (Nat.le_of_ble_eq_true rfl) (Nat.le_of_ble_eq_true rfl) (fun r9 Jb hq9 => ?_)
      obtain ⟨rfl, hj⟩ := hq9
      have hb9 : zOf (zbut [19, 61]) Jb J := by rw [← hj]; exact zOf.cp rfl (zOf.up rfl zOf.rf)
      have hb19 : ∀ k, ¬ k = 0 → Jb 19 k = J 19 k := fun k hk => by rw [← hj, zcp_nc (by decide), zup_ne hk]
      have a0 : AC Jb m m := by rw [← hj]; exact hI.begin
      have hb6 := a0.1.1.2.1
      obtain ⟨cb, kb, lb⟩ := cc.begin hI hj
      refine tz_aload_n (pc := 45) dX11_make_45 rfl rfl ?_
      refine tz_aload_n (pc := 46) dX11_make_46 rfl rfl ?_
      refine tz_fR (pc := 47) dX11_make_47 fl_X11_29 r_0_1 ?_
      refine tz_fR (pc := 50) dX11_make_50 fl_X11_49 r_5_0 ?_
      refine tz_iload_n (pc := 53) dX11_make_53 rfl rfl ?_
      refine tz_iload_n (pc := 54) dX11_make_54 rfl rfl ?_
      refine tz_iload_n (pc := 55) dX11_make_55 rfl rfl ?_
      refine tz_iload (pc := 56) dX11_make_56 rfl ?_
      have e1 := hb9 1 rfl
      have e3 : arh (Jb 3) s = J 3 s := by rw [hb9 3 rfl]; unfold arh; rw [if_neg (by omega)]
      have ha2 := ha1.1 (by omega)
      refine tz_cV (pc := 58) (c_made hl n _ _ _ _ _ (by omega) (by omega) (by omega) (by omega) m a0.1.1.1 a0.1.1.2.1 (by rw [e1]; omega) (by rw [e3]; exact ⟨by omega, by omega, by omega⟩)) vl_X11_300 dX11_make_58 o_6 rfl rfl (Nat.le_of_ble_eq_true rfl) ⟨(Nat.le_of_ble_eq_true rfl), (Nat.le_of_ble_eq_true rfl)⟩ rfl rfl (Nat.le_of_ble_eq_true rfl) (Nat.le_of_ble_eq_true rfl) (fun r9 J_58 hq9 => ?_)
      obtain ⟨z_58, rfl, hz_58, p1⟩ := hq9
      obtain ⟨m1, g1, h1⟩ := GR.made p1 (by omega)
      have a1 := a0.gx0 (g1.x (X := [])) rfl
      have o1 := cb.1.op (x := a) (y := b) (w := c) cb.2.1 a0.1.1.2.2 h21 a0.1.1.1 a0.1.1.2.1 (by rw [e1]; omega) ⟨fun q => rfl, fun q => rfl, fun q => rfl⟩ (by rw [e3, ← hm]; exact ha2) p1
      refine tz_cV (pc := 61) (x_settled hl n _ _ (by omega) m m1 a1) vl_X11_293 dX11_make_61 o_0 rfl rfl (Nat.le_of_ble_eq_true rfl) ⟨(Nat.le_of_ble_eq_true rfl), (Nat.le_of_ble_eq_true rfl)⟩ rfl rfl (Nat.le_of_ble_eq_true rfl) (Nat.le_of_ble_eq_true rfl) (fun r9 J_61 hq9 => ?_)
      obtain ⟨z_61, rfl, hz_61, s9, s8⟩ := hq9
      exact tz_iret (pc := 64) (z := z_61) dX11_make_64 rfl (Nat.le_of_ble_eq_true rfl) (Nat.le_of_ble_eq_true rfl) ⟨Nat.le_refl _, Nat.le_add_right _ _⟩ ⟨_, rfl, (by omega), ⟨(s9.cq (by rw [g1.2.2.2.2 145 rfl, hb9 145 rfl]; omega) ((g1.2.2.2.2 0 rfl).trans (hb9 0 rfl)) ((g1.2.2.2.2.mono (fun c hc => by have := of_decide_eq_true hc; simp [zbut]; omega)).tr (hb9.mono (fun c hc => by have := of_decide_eq_true hc; simp [zbut]; omega)))), Or.inl ⟨⟨by omega, ha2⟩, act_end cc hI hj (g1.x (X := [])) rfl o1 s8⟩⟩⟩
    · refine tz_aload_n (pc := 31) dX11_make_31 rfl rfl ?_
      refine tz_iconst (pc := 32) dX11_make_32 ?_
      refine tz_iconst (pc := 33) dX11_make_33 ?_
      refine tz_cV (pc := 34) (c_refused hl n _ _ _ (by decide) (by omega) (by decide)) vl_X11_284 dX11_make_34 o_0 rfl rfl (Nat.le_of_ble_eq_true rfl) ⟨(Nat.le_of_ble_eq_true rfl), (Nat.le_of_ble_eq_true rfl)⟩ rfl rfl (Nat.le_of_ble_eq_true rfl) (Nat.le_of_ble_eq_true rfl) (fun r9 J_34 hq9 => ?_)
      obtain ⟨z_34, rfl, hz_34, f9, rfl⟩ := hq9
      exact tz_iret (pc := 37) (z := (-1)) dX11_make_37 rfl (Nat.le_of_ble_eq_true rfl) (Nat.le_of_ble_eq_true rfl) ⟨Nat.le_refl _, Nat.le_add_right _ _⟩ ⟨_, rfl, (by decide), ⟨(SQ.cq ⟨⟨m, hI.st f9⟩, f9 145 rfl, f9 0 rfl, (f9.mono (fun c hc => by have := of_decide_eq_true hc; simp [zbut]; omega))⟩ (by omega) rfl zOf.rf), Or.inr ⟨fun q => by first | exact absurd q.1 (by omega) | exact absurd (ha1.2 q.2) (by omega), rfl, cc.st hI f9⟩⟩⟩
  · rw [show (if 0 ≤ s ∧ s < J 1 3 then 1 else 0 : Int) = 0 from if_neg hw_8]
    refine tz_if_eqT (pc := 8) (tgt := 31) (by decide) dX11_make_8 (by decide) (by decide) ?_
    refine tz_aload_n (pc := 31) dX11_make_31 rfl rfl ?_
    refine tz_iconst (pc := 32) dX11_make_32 ?_
    refine tz_iconst (pc := 33) dX11_make_33 ?_
    refine tz_cV (pc := 34) (c_refused hl n _ _ _ (by decide) (by omega) (by decide)) vl_X11_284 dX11_make_34 o_0 rfl rfl (Nat.le_of_ble_eq_true rfl) ⟨(Nat.le_of_ble_eq_true rfl), (Nat.le_of_ble_eq_true rfl)⟩ rfl rfl (Nat.le_of_ble_eq_true rfl) (Nat.le_of_ble_eq_true rfl) (fun r9 J_34 hq9 => ?_)
    obtain ⟨z_34, rfl, hz_34, f9, rfl⟩ := hq9
    exact tz_iret (pc := 37) (z := (-1)) dX11_make_37 rfl (Nat.le_of_ble_eq_true rfl) (Nat.le_of_ble_eq_true rfl) ⟨Nat.le_refl _, Nat.le_add_right _ _⟩ ⟨_, rfl, (by decide), ⟨(SQ.cq ⟨⟨m, hI.st f9⟩, f9 145 rfl, f9 0 rfl, (f9.mono (fun c hc => by have := of_decide_eq_true hc; simp [zbut]; omega))⟩ (by omega) rfl zOf.rf), Or.inr ⟨fun q => by first | exact absurd q.1 (by omega) | exact absurd (ha1.2 q.2) (by omega), rfl, cc.st hI f9⟩⟩⟩

end
section
/-! ===== acts of the reference, exact: how they end ===== -/
/-- the reference's tables, up to what is there, are those of S -/
def MBT (J S : zJ) : Prop := (J 164 9 = S 164 9 ∧ ∀ k, 0 ≤ k → k < 10 → J 169 k = S 169 k ∧ J 170 k = S 170 k ∧ J 171 k = S 171 k) ∧ (∀ k, 0 ≤ k → k < 63 → J 165 k = S 165 k) ∧ (∀ t, 0 ≤ t → t < S 165 0 → J 166 t = S 166 t ∧ J 168 t = S 168 t) ∧ (∀ k, 0 ≤ k → k < 3 * S 165 0 → J 167 k = S 167 k)
theorem MBT.tb {J S : zJ} (e : tb0 J = S) (hm : S 165 0 ≤ 400) : MBT J S := by
  subst e
  refine ⟨⟨rfl, fun k a b => ⟨?_, ?_, ?_⟩⟩, fun k a b => ?_, fun t a b => ⟨?_, ?_⟩, fun k a b => ?_⟩
  · show J 169 k = if 0 ≤ k ∧ k < 10 then J 169 k else 0
    rw [if_pos ⟨a, b⟩]
  · show J 170 k = if 0 ≤ k ∧ k < 10 then J 170 k else 0
    rw [if_pos ⟨a, b⟩]
  · show J 171 k = if 0 ≤ k ∧ k < 10 then J 171 k else 0
    rw [if_pos ⟨a, b⟩]
  · rw [tb0_5, if_pos ⟨a, b⟩]
  · rw [tb0_6, if_pos ⟨a, by omega⟩]
  · rw [tb0_8, if_pos ⟨a, by omega⟩]
  · rw [tb0_7, if_pos ⟨a, by omega⟩]
/-- the reference's kept rows -/
def MUr (J : zJ) (n : Int) (R : Int → Int → Int) : Prop := J 164 10 = n ∧ ∀ k, 0 ≤ k → k < n → ∀ q, 0 ≤ q → q < 63 → J 165 (189 + 63 * ((J 164 11 + k) % 40) + q) = R k q
theorem MUr.of {J' J : zJ} {n : Int} {R : Int → Int → Int} (u : MUr J n R) (e10 : J' 164 10 = J 164 10) (e11 : J' 164 11 = J 164 11) (e : ∀ k, 189 ≤ k → J' 165 k = J 165 k) : MUr J' n R := by
  refine ⟨by rw [e10]; exact u.1, fun k a b q c d => ?_⟩
  rw [e11, e _ (by omega)]
  exact u.2 k a b q c d
def MED (S : zJ) (n : Int) (R : Int → Int → Int) (F : zJ × Int) (J' : zJ) (z : Int) : Prop := (¬ F.1 164 21 = 0 ∧ z = -3 ∧ MBT J' S ∧ MUr J' n R) ∨ (F.1 164 21 = 0 ∧ z = F.2 ∧ MBT J' F.1 ∧ MUr J' (psn n) (psh n R (S 165)))
theorem tb0_bg {J : zJ} : tb0 (zbg J) = zup (tb0 J) 164 21 0 := by
  have f := zbg_of (J := J)
  funext c k
  by_cases h4 : c = 164
  · subst h4
    rw [tb0_4, zbg4]
    show _ = if k = 21 then 0 else if k = 9 ∨ k = 21 then J 164 k else 0
    (repeat' split) <;> first | rfl | omega
  · rw [zup_nc h4]
    unfold tb0
    rw [if_neg h4, if_neg h4]
    by_cases h5 : c = 165
    · rw [if_pos h5, if_pos h5]
      split
      · next q => exact zbg_r (by omega)
      · rfl
    · rw [if_neg h5, if_neg h5, f 167 rfl]
      by_cases hc : c = 166 ∨ c = 168
      · rw [if_pos hc, if_pos hc]
        rcases hc with hc | hc
        · rw [hc, f 166 rfl]
        · rw [hc, f 168 rfl]
      · rw [if_neg hc, if_neg hc]
        by_cases h7 : c = 167
        · rw [if_pos h7, if_pos h7]
        · rw [if_neg h7, if_neg h7]
          by_cases h9 : c = 169 ∨ c = 170 ∨ c = 171
          · rw [if_pos h9, if_pos h9]
            rcases h9 with h9 | h9 | h9
            · rw [h9, f 169 rfl]
            · rw [h9, f 170 rfl]
            · rw [h9, f 171 rfl]
          · rw [if_neg h9, if_neg h9]
/-- the image stays -/
def MFI (J' J : zJ) : Prop := (∀ k, 2709 ≤ k → J' 165 k = J 165 k) ∧ (∀ k, 400 ≤ k → k < 800 → J' 166 k = J 166 k ∧ J' 168 k = J 168 k) ∧ (∀ k, 1200 ≤ k → k < 2400 → J' 167 k = J 167 k) ∧ (J' 164 12 = J 164 12 ∧ J' 164 13 = J 164 13)
theorem MFI.tr {J3 J2 J1 : zJ} (g : MFI J2 J1) (h : MFI J3 J2) : MFI J3 J1 := ⟨fun k a => (h.1 k a).trans (g.1 k a), fun k a b => ⟨(h.2.1 k a b).1.trans (g.2.1 k a b).1, (h.2.1 k a b).2.trans (g.2.1 k a b).2⟩, fun k a b => (h.2.2.1 k a b).trans (g.2.2.1 k a b), h.2.2.2.1.trans g.2.2.2.1, h.2.2.2.2.trans g.2.2.2.2⟩
theorem MFI.z {J' J : zJ} (z : MZ J' J) : MFI J' J := ⟨fun k _ => by rw [z.1 165 rfl], fun k _ _ => ⟨by rw [z.1 166 rfl], by rw [z.1 168 rfl]⟩, fun k _ _ => by rw [z.1 167 rfl], z.2 12 (by decide) (by decide), z.2 13 (by decide) (by decide)⟩
theorem MFI.bg {J : zJ} : MFI (zbg J) J := ⟨fun k a => zbg_r (by omega), fun k _ _ => ⟨by rw [zbg_of 166 rfl], by rw [zbg_of 168 rfl]⟩, fun k _ _ => by rw [zbg_of 167 rfl], zbg_f (by decide) (by decide) (by decide), zbg_f (by decide) (by decide) (by decide)⟩
/-- what stays, and what the act's own work tells -/
def MOP (Jo Jb : zJ) (m : Int) : Prop := MFI Jo Jb ∧ (∀ k, 63 ≤ k → Jo 165 k = Jb 165 k) ∧ (Jo 164 9 = Jb 164 9 ∧ Jo 164 10 = Jb 164 10 ∧ Jo 164 11 = Jb 164 11) ∧ (∀ t, 0 ≤ t → t < m → Jo 166 t = Jb 166 t ∧ Jo 168 t = Jb 168 t) ∧ (∀ k, 0 ≤ k → k < 3 * m → Jo 167 k = Jb 167 k) ∧ (∀ k, 0 ≤ k → k < 10 → Jo 169 k = Jb 169 k ∧ Jo 170 k = Jb 170 k ∧ Jo 171 k = Jb 171 k)
theorem mact_end {Jb Jo J' S : zJ} {F : zJ × Int} {n m a z : Int} {R : Int → Int → Int} (hb : tb0 Jb = S) (hS : S 165 0 = m) (hm : m ≤ 400) (hA : ∀ q, 0 ≤ q → q < 63 → Jb 165 (63 + q) = S 165 q) (u : MUr Jb n R) (hn : 0 ≤ n ∧ n ≤ 40) (h11 : 0 ≤ Jb 164 11 ∧ Jb 164 11 < 40) (p : MOP Jo Jb m) (e : tb0 Jo = F.1) (hm' : F.1 165 0 ≤ 400) (ea : F.1 164 21 = 0 → a = F.2) (k : (¬ Jo 164 21 = 0 ∧ -3 = z ∧ zOf (zbut [172]) J' (zmv Jo 165 63 0 63)) ∨ (Jo 164 21 = 0 ∧ a = z ∧ ((¬ Jo 164 10 = 40 ∧ zkL Jo = J') ∨ (Jo 164 10 = 40 ∧ zkF Jo = J')))) : MED S n R F J' z ∧ MFI J' Jb := by
  obtain ⟨pf, p5, ⟨p9, p10, p11⟩, p6, p7, p0⟩ := p
  have e21 : F.1 164 21 = Jo 164 21 := by rw [← e]; rfl
  have mb := MBT.tb hb (by omega)
  have mo := MBT.tb e hm'
  have u0 := u.1
  rcases k with ⟨k1, k2, k3⟩ | ⟨k1, k2, k3⟩
  · refine ⟨Or.inl ⟨by rw [e21]; exact k1, k2.symm, ⟨⟨?_, fun k a b => ?_⟩, fun k a b => ?_, fun t a b => ?_, fun k a b => ?_⟩, u.of ?_ ?_ (fun k a => ?_)⟩, pf.tr ⟨fun k a => ?_, fun k _ _ => ⟨by rw [k3 166 rfl]; rfl, by rw [k3 168 rfl]; rfl⟩, fun k _ _ => by rw [k3 167 rfl]; rfl, by rw [k3 164 rfl]; rfl, by rw [k3 164 rfl]; rfl⟩⟩
    · rw [k3 164 rfl]; exact p9.trans mb.1.1
    · rw [k3 169 rfl, k3 170 rfl, k3 171 rfl]
      obtain ⟨q1, q2, q3⟩ := p0 k a b
      obtain ⟨r1, r2, r3⟩ := mb.1.2 k a b
      exact ⟨q1.trans r1, q2.trans r2, q3.trans r3⟩
    · rw [k3 165 rfl, zmv5, if_pos (by omega), show 63 + (k - 0) = 63 + k from by omega, p5 _ (by omega)]
      exact hA k a b
    · rw [k3 166 rfl, k3 168 rfl]
      obtain ⟨q1, q2⟩ := p6 t a (by omega)
      obtain ⟨r1, r2⟩ := mb.2.2.1 t a b
      exact ⟨q1.trans r1, q2.trans r2⟩
    · rw [k3 167 rfl]
      exact (p7 k a (by omega)).trans (mb.2.2.2 k a b)
    · rw [k3 164 rfl]; exact p10
    · rw [k3 164 rfl]; exact p11
    · rw [k3 165 rfl, zmv5, if_neg (by omega)]; exact p5 k (by omega)
    · rw [k3 165 rfl, zmv5, if_neg (by omega)]
  · have hr : ∀ q, 0 ≤ q → q < 63 → Jo 165 (63 + q) = S 165 q := fun q a b => (p5 _ (by omega)).trans (hA q a b)
    rcases k3 with ⟨k4, k5⟩ | ⟨k4, k5⟩
    · have f4 : ∀ k, ¬ k = 10 → J' 164 k = Jo 164 k := fun k q => by rw [← k5]; unfold zkL; rw [zup_ne q]; rfl
      have f10 : J' 164 10 = Jo 164 10 + 1 := by rw [← k5]; exact zup_at
      have f5 : ∀ k, J' 165 k = if 189 + 63 * ((Jo 164 11 + Jo 164 10) % 40) ≤ k ∧ k < 189 + 63 * ((Jo 164 11 + Jo 164 10) % 40) + 63 then Jo 165 (63 + (k - (189 + 63 * ((Jo 164 11 + Jo 164 10) % 40)))) else Jo 165 k := fun k => by rw [← k5]; rfl
      have fo : zOf (zbut [164, 165]) J' Jo := by rw [← k5]; exact zOf.up rfl (zOf.mv rfl zOf.rf)
      have et : tb0 J' = F.1 := by
        rw [← e]
        refine tb0_of (f4 9 (by decide)) (f4 21 (by decide)) (fun k a b => ?_) (fun k _ _ => ⟨by rw [fo 166 rfl], by rw [fo 168 rfl]⟩) (fun k _ _ => by rw [fo 167 rfl]) (fun k _ _ => ⟨by rw [fo 169 rfl], by rw [fo 170 rfl], by rw [fo 171 rfl]⟩)
        rw [f5, if_neg (by omega)]
      refine ⟨Or.inr ⟨by rw [e21]; exact k1, k2.symm.trans (ea (by rw [e21]; exact k1)), MBT.tb et hm', ?_⟩, pf.tr ⟨fun k a => by rw [f5, if_neg (by omega)], fun k _ _ => ⟨by rw [fo 166 rfl], by rw [fo 168 rfl]⟩, fun k _ _ => by rw [fo 167 rfl], f4 12 (by decide), f4 13 (by decide)⟩⟩
      unfold psn psh
      rw [if_pos (by omega), if_pos (by omega)]
      refine ⟨by omega, fun k a b q c d => ?_⟩
      rw [f4 11 (by decide), f5]
      dsimp only
      by_cases hk : k = n
      · subst hk
        rw [if_pos (by omega), if_pos rfl]
        rw [show 63 + (189 + 63 * ((Jo 164 11 + k) % 40) + q - (189 + 63 * ((Jo 164 11 + Jo 164 10) % 40))) = 63 + q from by omega]
        exact hr q c d
      · rw [if_neg (by omega), if_neg hk, p5 _ (by omega), p11]
        exact u.2 k a (by omega) q c d
    · have f4 : ∀ k, ¬ k = 10 → ¬ k = 11 → J' 164 k = Jo 164 k := fun k q r => by rw [← k5]; unfold zkF; rw [zup_ne q]; show zup (zup Jo 164 11 ((Jo 164 11 + 1) % 40)) 164 10 (Jo 164 10 - 1) 164 k = _; rw [zup_ne q, zup_ne r]
      have f10 : J' 164 10 = 40 := by rw [← k5]; unfold zkF; rw [zup_at]; omega
      have f11 : J' 164 11 = (Jo 164 11 + 1) % 40 := by rw [← k5]; unfold zkF; rw [zup_ne (by decide)]; rfl
      have f5 : ∀ k, J' 165 k = if 189 + 63 * (((Jo 164 11 + 1) % 40 + (Jo 164 10 - 1)) % 40) ≤ k ∧ k < 189 + 63 * (((Jo 164 11 + 1) % 40 + (Jo 164 10 - 1)) % 40) + 63 then Jo 165 (63 + (k - (189 + 63 * (((Jo 164 11 + 1) % 40 + (Jo 164 10 - 1)) % 40)))) else Jo 165 k := fun k => by rw [← k5]; rfl
      have fo : zOf (zbut [164, 165]) J' Jo := by rw [← k5]; exact zOf.up rfl (zOf.mv rfl (zOf.up rfl (zOf.up rfl zOf.rf)))
      have et : tb0 J' = F.1 := by
        rw [← e]
        refine tb0_of (f4 9 (by decide) (by decide)) (f4 21 (by decide) (by decide)) (fun k a b => ?_) (fun k _ _ => ⟨by rw [fo 166 rfl], by rw [fo 168 rfl]⟩) (fun k _ _ => by rw [fo 167 rfl]) (fun k _ _ => ⟨by rw [fo 169 rfl], by rw [fo 170 rfl], by rw [fo 171 rfl]⟩)
        rw [f5, if_neg (by omega)]
      refine ⟨Or.inr ⟨by rw [e21]; exact k1, k2.symm.trans (ea (by rw [e21]; exact k1)), MBT.tb et hm', ?_⟩, pf.tr ⟨fun k a => by rw [f5, if_neg (by omega)], fun k _ _ => ⟨by rw [fo 166 rfl], by rw [fo 168 rfl]⟩, fun k _ _ => by rw [fo 167 rfl], f4 12 (by decide) (by decide), f4 13 (by decide) (by decide)⟩⟩
      unfold psn psh
      rw [if_neg (by omega), if_neg (by omega)]
      refine ⟨f10, fun k a b q c d => ?_⟩
      rw [f11, f5]
      dsimp only
      by_cases hk : k = 39
      · subst hk
        rw [if_pos (by omega), if_pos rfl]
        rw [show 63 + (189 + 63 * (((Jo 164 11 + 1) % 40 + 39) % 40) + q - (189 + 63 * (((Jo 164 11 + 1) % 40 + (Jo 164 10 - 1)) % 40))) = 63 + q from by omega]
        exact hr q c d
      · rw [if_neg (by omega), if_neg hk, p5 _ (by omega), show ((Jo 164 11 + 1) % 40 + k) % 40 = (Jb 164 11 + (k + 1)) % 40 from by omega]
        exact u.2 (k + 1) (by omega) (by omega) q c d
end
section
/-! ===== variable, make of the reference, exact ===== -/
theorem x_tmA {l : Launch} {G : tb_G} (hl : l.stackTraces = false) (n : Nat) (J : zJ) (h x y w : Int) (hr_h : -2147483648 ≤ h ∧ h < 2147483648) (hr_x : -2147483648 ≤ x ∧ x < 2147483648) (hr_y : -2147483648 ≤ y ∧ y < 2147483648) (hr_w : -2147483648 ≤ w ∧ w < 2147483648) (b r d s m : Int) (hM : MS J b r d s m) (hh : -8 ≤ h ∧ h < s) (h21 : J 164 21 = 0) (hg : (0 < arh (fun k => J 170 (d + k)) h → 0 ≤ x ∧ x < m) ∧ (1 < arh (fun k => J 170 (d + k)) h → 0 ≤ y ∧ y < m) ∧ (2 < arh (fun k => J 170 (d + k)) h → 0 ≤ w ∧ w < m)) : tz_Ok l G M_X12_termOf 2 0 0 [.ref 164, zi h, zi x, zi y, zi w] n J (zqi (fun z J' => tmX J J' b r m (arh (fun k => J 170 (d + k)) h) h x y w z)) zN := by
  have hA := arh_rg hM.2.2.2.2.2.1 hh.2
  by_cases h0 : h < 0
  · have e : arh (fun k => J 170 (d + k)) h = 0 := by unfold arh; rw [if_pos h0]
    rw [e] at hg ⊢
    exact x_tmN hl n J h x y w hr_h hr_x hr_y hr_w b r d s m hM hh h0 h21 hg
  · have e : arh (fun k => J 170 (d + k)) h = J 170 (d + h) := by unfold arh; rw [if_neg h0]
    have hA : 0 ≤ J 170 (d + h) ∧ J 170 (d + h) ≤ 3 := by rw [← e]; exact hA
    rcases (show J 170 (d + h) = 0 ∨ J 170 (d + h) = 1 ∨ J 170 (d + h) = 2 ∨ J 170 (d + h) = 3 by omega) with q | q | q | q
    · rw [e, q] at hg ⊢
      exact x_tm0 hl n J h x y w hr_h hr_x hr_y hr_w b r d s m hM hh ⟨by omega, q⟩ h21 hg
    · rw [e, q] at hg ⊢
      exact x_tm1 hl n J h x y w hr_h hr_x hr_y hr_w b r d s m hM hh ⟨by omega, q⟩ h21 hg
    · rw [e, q] at hg ⊢
      exact x_tm2 hl n J h x y w hr_h hr_x hr_y hr_w b r d s m hM hh ⟨by omega, q⟩ h21 hg
    · rw [e, q] at hg ⊢
      exact x_tm3 hl n J h x y w hr_h hr_x hr_y hr_w b r d s m hM hh ⟨by omega, q⟩ h21 hg
set_option maxHeartbeats 4000000 in
set_option maxRecDepth 100000 in
theorem x_tmF {l : Launch} {G : tb_G} (hl : l.stackTraces = false) (n : Nat) (J : zJ) (h : Int) (x : Int) (y : Int) (w : Int) (hr_h : -2147483648 ≤ h ∧ h < 2147483648) (hr_x : -2147483648 ≤ x ∧ x < 2147483648) (hr_y : -2147483648 ≤ y ∧ y < 2147483648) (hr_w : -2147483648 ≤ w ∧ w < 2147483648)  (hf : ¬ J 164 21 = 0) : tz_Ok l G M_X12_termOf 2 0 0 [.ref 164, zi h, zi x, zi y, zi w] n J (zqi (fun z J' => z = 0 ∧ J = J')) zN := by
  refine tz_Ok.of hl (by decide +kernel) rfl (tb_c1 rfl) (Nat.le_of_ble_eq_true rfl) ?_
  show tz_At l G M_X12_termOf (tb_rm 2 0 0) none (tb_ZM G 0 0 (zQ n 0 (zqi (fun z J' => z = 0 ∧ J = J'))) (zX n 0 zN)) 0 0 n J 0 [some (.ref 164), some (zi h), some (zi x), some (zi y), some (zi w), none, none, none] []
  refine tz_aload_n (pc := 0) dX12_termOf_0 rfl rfl ?_
  refine tz_fI (pc := 1) (kz := 21) (v := (J 164 21)) dX12_termOf_1 fl_X12_92 i_164_21 rfl rfl (fun r_1 => ?_)
  refine tz_if_eqF (pc := 4) (tgt := 9) (by omega) dX12_termOf_4 (by decide) (by omega) ?_
  refine tz_iconst (pc := 7) dX12_termOf_7 ?_
  exact tz_iret (pc := 8) (z := 0) dX12_termOf_8 rfl (Nat.le_of_ble_eq_true rfl) (Nat.le_of_ble_eq_true rfl) ⟨Nat.le_refl _, Nat.le_add_right _ _⟩ ⟨_, rfl, (by decide), ⟨rfl, rfl⟩⟩

/-- the term of a head and arguments: as the function says -/
theorem o_termOf {l : Launch} {G : tb_G} (hl : l.stackTraces = false) (n : Nat) (J : zJ) (h x y w : Int) (hr_h : -2147483648 ≤ h ∧ h < 2147483648) (hr_x : -2147483648 ≤ x ∧ x < 2147483648) (hr_y : -2147483648 ≤ y ∧ y < 2147483648) (hr_w : -2147483648 ≤ w ∧ w < 2147483648) (s m : Int) (hM : MS J 0 0 0 s m) (hs : J 164 9 = s) (hh : -8 ≤ h ∧ h < s) (hg : J 164 21 = 0 → (0 < arh (fun k => J 170 (0 + k)) h → 0 ≤ x ∧ x < m) ∧ (1 < arh (fun k => J 170 (0 + k)) h → 0 ≤ y ∧ y < m) ∧ (2 < arh (fun k => J 170 (0 + k)) h → 0 ≤ w ∧ w < m)) : tz_Ok l G M_X12_termOf 2 0 0 [.ref 164, zi h, zi x, zi y, zi w] n J (zqi (fun z J' => (tb0 J' = (tmO (tb0 J) h x y w).1 ∧ z = (tmO (tb0 J) h x y w).2) ∧ ∃ m', MG [] [] (fun _ => false) J' J 0 0 0 s m m' ∧ (J' 164 21 = 0 → 0 ≤ z ∧ z < m'))) zN := by
  by_cases h21 : J 164 21 = 0
  · exact (x_tmA hl n J h x y w hr_h hr_x hr_y hr_w 0 0 0 s m hM hh h21 (hg h21)).mono (fun r J' _ ⟨z, a, b, t⟩ => ⟨z, a, b, o_tm hM hs rfl hh h21 (hg h21) t, by
      obtain ⟨m', q1, q2⟩ := tmX.mg hM rfl hh h21 (hg h21) t
      exact ⟨m', q1, fun _ => q2⟩⟩) (fun _ _ _ h => h)
  · refine (x_tmF hl n J h x y w hr_h hr_x hr_y hr_w h21).mono (fun r J' _ ⟨z, a, b, c, d⟩ => ⟨z, a, b, ?_, m, by rw [← d]; exact MG.rf hM, fun q => absurd (by rw [d]; exact q) h21⟩) (fun _ _ _ h => h)
    subst d
    unfold tmO
    rw [if_neg (show ¬ tb0 J 164 21 = 0 from h21)]
    exact ⟨rfl, c⟩
theorem MOP.mg {Jo Jb : zJ} {s m m' : Int} (g : MG [] [] (fun _ => false) Jo Jb 0 0 0 s m m') : MOP Jo Jb m := by
  obtain ⟨g1, g2, ⟨f1, f2, f3, f4⟩, g4⟩ := g
  refine ⟨⟨fun k a => f2 k (by omega) rfl, fun k a b => f1.1 k (by omega), fun k a b => f1.2 k (by omega), f3 12 rfl, f3 13 rfl⟩, fun k a => f2 k (by omega) rfl, ⟨f3 9 rfl, f3 10 rfl, f3 11 rfl⟩, fun t a b => ?_, fun k a b => ?_, fun k _ _ => ⟨by rw [f4 169 rfl], by rw [f4 170 rfl], by rw [f4 171 rfl]⟩⟩
  · have := (g2 t a b).1
    rw [Int.zero_add] at this
    exact this
  · have := (g2 (k / 3) (by omega) (by omega)).2 (k % 3) (by omega) (by omega)
    rw [show 3 * (0 + k / 3) + k % 3 = k from by omega] at this
    exact this
theorem tbz_z {J0 J : zJ} (z : MZ J0 J) : zup (tb0 J0) 164 21 0 = zup (tb0 J) 164 21 0 := by
  have e : tb0 (zup J0 164 21 0) = tb0 (zup J 164 21 0) := tb0_of (z.2 9 (by decide) (by decide)) rfl (fun k _ _ => by show J0 165 k = J 165 k; rw [z.1 165 rfl]) (fun k _ _ => ⟨by show J0 166 k = J 166 k; rw [z.1 166 rfl], by show J0 168 k = J 168 k; rw [z.1 168 rfl]⟩) (fun k _ _ => by show J0 167 k = J 167 k; rw [z.1 167 rfl]) (fun k _ _ => ⟨by show J0 169 k = J 169 k; rw [z.1 169 rfl], by show J0 170 k = J 170 k; rw [z.1 170 rfl], by show J0 171 k = J 171 k; rw [z.1 171 rfl]⟩)
  have f : ∀ J : zJ, tb0 (zup J 164 21 0) = zup (tb0 J) 164 21 0 := fun J => by
    funext c k
    by_cases h4 : c = 164
    · subst h4
      show (if k = 9 ∨ k = 21 then (if k = 21 then (0 : Int) else J 164 k) else 0) = if k = 21 then 0 else if k = 9 ∨ k = 21 then J 164 k else 0
      (repeat' split) <;> first | rfl | omega
    · rw [zup_nc h4]
      unfold tb0
      rw [if_neg h4, if_neg h4]
      have e : ∀ d, ¬ d = 164 → zup J 164 21 0 d = J d := fun d q => zup_nc q
      rw [e 165 (by decide), e 167 (by decide), e c h4]
  rw [← f, ← f]
  exact e
/-- the reference's state, as an act takes it up -/
def tbz (J : zJ) : zJ := zup (tb0 J) 164 21 0
theorem MBT.z {J' J : zJ} {m : Int} (h : MI J m) (z : MZ J' J) : MBT J' (tbz J) := by
  have t := h.told
  unfold tbz
  rw [← tbz_z z]
  have b := MBT.tb (J := J') rfl (by show J' 165 0 ≤ 400; rw [z.1 165 rfl]; omega)
  exact b
theorem MUr.z {J' J : zJ} {n : Int} {R : Int → Int → Int} (u : MUr J n R) (z : MZ J' J) : MUr J' n R := u.of (z.2 10 (by decide) (by decide)) (z.2 11 (by decide) (by decide)) (fun k _ => by rw [z.1 165 rfl])
theorem mbeg {J0 Jb J : zJ} {m pn : Int} {RR : Int → Int → Int} (hI : MI J m) (z : MZ J0 J) (hj : zbg J0 = Jb) (u : MUr J pn RR) : (tb0 Jb = tbz J ∧ tbz J 165 0 = m ∧ m ≤ 400 ∧ ∀ q, 0 ≤ q → q < 63 → Jb 165 (63 + q) = tbz J 165 q) ∧ MUr Jb pn RR ∧ (0 ≤ pn ∧ pn ≤ 40) ∧ (0 ≤ Jb 164 11 ∧ Jb 164 11 < 40) ∧ MFI Jb J := by
  have t := hI.told
  have e5 : J0 165 = J 165 := z.1 165 rfl
  have e11 : Jb 164 11 = J 164 11 := by rw [← hj, zbg_f (by decide) (by decide) (by decide)]; exact z.2 11 (by decide) (by decide)
  refine ⟨⟨by rw [← hj, tb0_bg]; exact tbz_z z, t.2.2.1, t.2.1.2, fun q a b => ?_⟩, u.of ?_ e11 (fun k a => ?_), by rw [← u.1]; exact t.2.2.2.2.1.1, by rw [e11]; exact t.2.2.2.2.1.2, by rw [← hj]; exact (MFI.z z).tr MFI.bg⟩
  · rw [← hj, zbg_a ⟨a, b⟩, e5]
    show _ = if 0 ≤ q ∧ q < 63 then J 165 q else 0
    rw [if_pos ⟨a, b⟩]
  · rw [← hj, zbg_f (by decide) (by decide) (by decide)]; exact z.2 10 (by decide) (by decide)
  · rw [← hj, zbg_r (by omega), e5]
theorem AE {S J' Jb J : zJ} {F : zJ × Int} {n z : Int} {R : Int → Int → Int} {P Q : Prop} (q : MQr J' J) (b : MFI Jb J) (e : MED S n R F J' z ∧ MFI J' Jb) (p : P) : MQr J' J ∧ MFI J' J ∧ ((P ∧ MED S n R F J' z) ∨ Q) := ⟨q, b.tr e.2, Or.inl ⟨p, e.1⟩⟩
set_option maxHeartbeats 4000000 in
set_option maxRecDepth 100000 in
theorem o_varTerm {l : Launch} {G : tb_G} (hl : l.stackTraces = false) (n : Nat) (J : zJ) (v : Int) (hr_v : -2147483648 ≤ v ∧ v < 2147483648) (s m : Int) (hM : MS J 0 0 0 s m) (hs : J 164 9 = s) (hv : 0 ≤ v ∧ v < 8) : tz_Ok l G M_X12_variableTerm 3 0 0 [.ref 164, zi v] n J (zqi (fun z J' => (tb0 J' = (tmO (tb0 J) (-1 - v) 0 0 0).1 ∧ z = (tmO (tb0 J) (-1 - v) 0 0 0).2) ∧ ∃ m', MG [] [] (fun _ => false) J' J 0 0 0 s m m' ∧ (J' 164 21 = 0 → 0 ≤ z ∧ z < m'))) zN := by
  refine tz_Ok.of hl (by decide +kernel) rfl (tb_c1 rfl) (Nat.le_of_ble_eq_true rfl) ?_
  show tz_At l G M_X12_variableTerm (tb_rm 3 0 0) none (tb_ZM G 0 0 (zQ n 0 (zqi (fun z J' => (tb0 J' = (tmO (tb0 J) (-1 - v) 0 0 0).1 ∧ z = (tmO (tb0 J) (-1 - v) 0 0 0).2) ∧ ∃ m', MG [] [] (fun _ => false) J' J 0 0 0 s m m' ∧ (J' 164 21 = 0 → 0 ≤ z ∧ z < m')))) (zX n 0 zN)) 0 0 n J 0 [some (.ref 164), some (zi v)] []
  have hT := hM.told
  refine tz_aload_n (pc := 0) dX12_variableTerm_0 rfl rfl ?_
  refine tz_iconst (pc := 1) dX12_variableTerm_1 ?_
  refine tz_iload_n (pc := 2) dX12_variableTerm_2 rfl rfl ?_
  refine tz_isub (pc := 3) (v := (-1) - v) dX12_variableTerm_3 rfl ?_
  refine tz_iconst (pc := 4) dX12_variableTerm_4 ?_
  refine tz_iconst (pc := 5) dX12_variableTerm_5 ?_
  refine tz_iconst (pc := 6) dX12_variableTerm_6 ?_
  refine tz_cV (pc := 7) (o_termOf hl n _ _ _ _ _ (by omega) (by decide) (by decide) (by decide) s m hM hs (by omega) (fun _ => by rw [show arh (fun k => J 170 (0 + k)) (-1 - v) = 0 from by unfold arh; rw [if_pos (by omega)]]; exact ⟨fun q => by omega, fun q => by omega, fun q => by omega⟩)) vl_X12_107 dX12_variableTerm_7 o_164 rfl rfl (Nat.le_of_ble_eq_true rfl) ⟨(Nat.le_of_ble_eq_true rfl), (Nat.le_of_ble_eq_true rfl)⟩ rfl rfl (Nat.le_of_ble_eq_true rfl) (Nat.le_of_ble_eq_true rfl) (fun r9 J_7 hq9 => ?_)
  obtain ⟨z_7, rfl, hz_7, e9, m9, g9, h9⟩ := hq9
  exact tz_iret (pc := 10) (z := z_7) dX12_variableTerm_10 rfl (Nat.le_of_ble_eq_true rfl) (Nat.le_of_ble_eq_true rfl) ⟨Nat.le_refl _, Nat.le_add_right _ _⟩ ⟨_, rfl, (by omega), ⟨e9, m9, g9, h9⟩⟩

set_option maxHeartbeats 4000000 in
set_option maxRecDepth 100000 in
theorem v_qvariable {l : Launch} {G : tb_G} (hl : l.stackTraces = false) (n : Nat) (J : zJ) (x : Int) (hr_x : -2147483648 ≤ x ∧ x < 2147483648) (m : Int) (pn : Int) (RR : Int → Int → Int) (hI : MI J m) (u9 : MUr J pn RR) : tz_Ok l G M_X12_variable 4 0 0 [.ref 164, zi x] n J (zqi (fun z J' => MQr J' J ∧ MFI J' J ∧ (((0 ≤ x ∧ x < 8) ∧ MED (tbz J) pn RR (tmO (tbz J) (-1 - x) 0 0 0) J' z) ∨ (¬ (0 ≤ x ∧ x < 8) ∧ z = -1 ∧ MBT J' (tbz J) ∧ MUr J' pn RR)))) zN := by
  refine tz_Ok.of hl (by decide +kernel) rfl (tb_c1 rfl) (Nat.le_of_ble_eq_true rfl) ?_
  show tz_At l G M_X12_variable (tb_rm 4 0 0) none (tb_ZM G 0 0 (zQ n 0 (zqi (fun z J' => MQr J' J ∧ MFI J' J ∧ (((0 ≤ x ∧ x < 8) ∧ MED (tbz J) pn RR (tmO (tbz J) (-1 - x) 0 0 0) J' z) ∨ (¬ (0 ≤ x ∧ x < 8) ∧ z = -1 ∧ MBT J' (tbz J) ∧ MUr J' pn RR))))) (zX n 0 zN)) 0 0 n J 0 [some (.ref 164), some (zi x)] []
  have hT := hI.told
  have hW := hI.row
  have hM := hI.1
  have hL := hI.2.1
  refine tz_aload_n (pc := 0) dX12_variable_0 rfl rfl ?_
  refine tz_iconst (pc := 1) dX12_variable_1 ?_
  refine tz_pI (pc := 2) (kz := 8) dX12_variable_2 fl_X12_68 i_164_8 rfl rfl (by decide) ?_
  refine tz_iload_n (pc := 5) dX12_variable_5 rfl rfl ?_
  refine tz_iconst (pc := 6) dX12_variable_6 ?_
  refine tz_bipush (pc := 7) dX12_variable_7 (by decide) ?_
  refine tz_cS (pc := 9) (m_within hl n _ _ _ _ (by omega) (by decide) (by decide)) sl_X12_283 dX12_variable_9 rfl rfl (Nat.le_of_ble_eq_true rfl) ⟨(Nat.le_of_ble_eq_true rfl), (Nat.le_of_ble_eq_true rfl)⟩ rfl rfl (Nat.le_of_ble_eq_true rfl) (Nat.le_of_ble_eq_true rfl) (fun r9 J_9 hq9 => ?_)
  obtain ⟨z_9, rfl, hz_9, rfl, hw_9⟩ := hq9
  refine tz_if_ne (pc := 12) (tgt := 22) dX12_variable_12 (by decide) (by omega) (fun h_12 => ?_) (fun h_12 => ?_)
  · refine tz_aload_n (pc := 22) dX12_variable_22 rfl rfl ?_
    refine tz_cV (pc := 23) (m_begins hl n _) vl_X12_400 dX12_variable_23 o_164 rfl rfl (Nat.le_of_ble_eq_true rfl) ⟨(Nat.le_of_ble_eq_true rfl), (Nat.le_of_ble_eq_true rfl)⟩ rfl rfl (Nat.le_of_ble_eq_true rfl) (Nat.le_of_ble_eq_true rfl) (fun r9 J_23 hq9 => ?_)
    obtain ⟨rfl, hj_23⟩ := hq9
    have a_23 : AM J_23 J m m := by rw [← hj_23]; exact AM.begin (hI.z (MZ.up (k := 8) MZ.rf (by decide))) ⟨MZ.lo (MZ.up (k := 8) MZ.rf (by decide)), SC.z (MZ.up (k := 8) MZ.rf (by decide))⟩
    have br_23 : ∀ k, (k < 63 ∨ 126 ≤ k) → J_23 165 k = ((zup J 164 8 0) : zJ) 165 k := fun k hk => by rw [← hj_23]; exact zbg_r hk
    have bl_23 : ∀ k, ¬ k = 34 → ¬ k = 33 → ¬ k = 21 → J_23 164 k = ((zup J 164 8 0) : zJ) 164 k := fun k u v w => by rw [← hj_23]; exact zbg_f u v w
    have bo_23 : zOf (zbut [164, 165]) J_23 (zup J 164 8 0) := by rw [← hj_23]; exact zbg_of
    have b3_23 : J_23 164 21 = 0 ∧ J_23 164 33 = 0 ∧ J_23 164 34 = 0 := by rw [← hj_23]; exact ⟨rfl, rfl, rfl⟩
    have s9_23 : J_23 164 9 = J 164 9 := (bl_23 9 (by decide) (by decide) (by decide)).trans ((MZ.up (k := 8) MZ.rf (by decide)).2 9 (by decide) (by decide))
    obtain ⟨⟨bt_23, bs_23, bm_23, ba_23⟩, bu_23, bn_23, bf_23, bi_23⟩ := mbeg hI (MZ.up (k := 8) MZ.rf (by decide)) hj_23 u9
    refine tz_aload_n (pc := 26) dX12_variable_26 rfl rfl ?_
    refine tz_aload_n (pc := 27) dX12_variable_27 rfl rfl ?_
    refine tz_iload_n (pc := 28) dX12_variable_28 rfl rfl ?_
    refine tz_cV (pc := 29) (o_varTerm hl n _ _ (by omega) (J_23 164 9) m (a_23).1.1 rfl (by omega)) vl_X12_180 dX12_variable_29 o_164 rfl rfl (Nat.le_of_ble_eq_true rfl) ⟨(Nat.le_of_ble_eq_true rfl), (Nat.le_of_ble_eq_true rfl)⟩ rfl rfl (Nat.le_of_ble_eq_true rfl) (Nat.le_of_ble_eq_true rfl) (fun r9 J_29 hq9 => ?_)
    obtain ⟨z_29, rfl, hz_29, e_29, m_29, g_29, h_29⟩ := hq9
    have a_29 := AM.grow0 a_23 g_29 (fun c hc => by simp at hc) (fun k x y => by simp; omega) rfl
    have lm_29 := a_29.1.2.2
    rw [bt_23] at e_29
    refine tz_cV (pc := 32) (m_keeps hl n _ _ (by omega) (a_29).2.2.2.1.1.1 (a_29).2.2.2.1.1.2) vl_X12_403 dX12_variable_32 o_164 rfl rfl (Nat.le_of_ble_eq_true rfl) ⟨(Nat.le_of_ble_eq_true rfl), (Nat.le_of_ble_eq_true rfl)⟩ rfl rfl (Nat.le_of_ble_eq_true rfl) (Nat.le_of_ble_eq_true rfl) (fun r9 J_32 hq9 => ?_)
    obtain ⟨z_32, rfl, hz_32, k_32⟩ := hq9
    exact tz_iret (pc := 35) (z := z_32) dX12_variable_35 rfl (Nat.le_of_ble_eq_true rfl) (Nat.le_of_ble_eq_true rfl) ⟨Nat.le_refl _, Nat.le_add_right _ _⟩ ⟨_, rfl, (by omega), (AE (AM.keep a_29 k_32) bi_23 (mact_end bt_23 bs_23 bm_23 ba_23 bu_23 bn_23 bf_23 (MOP.mg g_29) e_29.1 (by rw [← e_29.1]; show J_29 165 0 ≤ 400; have t9 := g_29.1.1.told; have s9 := g_29.1.1.2.2.2.2.1; omega) (fun _ => e_29.2) k_32) (by omega))⟩
  · refine tz_aload_n (pc := 15) dX12_variable_15 rfl rfl ?_
    refine tz_iconst (pc := 16) dX12_variable_16 ?_
    refine tz_iconst (pc := 17) dX12_variable_17 ?_
    refine tz_cV (pc := 18) (m_refuses hl n _ _ _ (by decide) (by decide) (by decide)) vl_X12_391 dX12_variable_18 o_164 rfl rfl (Nat.le_of_ble_eq_true rfl) ⟨(Nat.le_of_ble_eq_true rfl), (Nat.le_of_ble_eq_true rfl)⟩ rfl rfl (Nat.le_of_ble_eq_true rfl) (Nat.le_of_ble_eq_true rfl) (fun r9 J_18 hq9 => ?_)
    obtain ⟨z_18, rfl, hz_18, rfl, f_18⟩ := hq9
    have y_18 : MZ J_18 J := MZ.tr (MZ.up (k := 8) MZ.rf (by decide)) (MZ.c f_18 (by decide))
    exact tz_iret (pc := 21) (z := (-1)) dX12_variable_21 rfl (Nat.le_of_ble_eq_true rfl) (Nat.le_of_ble_eq_true rfl) ⟨Nat.le_refl _, Nat.le_add_right _ _⟩ ⟨_, rfl, (by decide), ⟨MQr.z hI y_18, MFI.z y_18, Or.inr ⟨by omega, rfl, MBT.z hI y_18, u9.z y_18⟩⟩⟩

set_option maxHeartbeats 4000000 in
set_option maxRecDepth 100000 in
theorem v_qmake {l : Launch} {G : tb_G} (hl : l.stackTraces = false) (n : Nat) (J : zJ) (x : Int) (y : Int) (v : Int) (w : Int) (hr_x : -2147483648 ≤ x ∧ x < 2147483648) (hr_y : -2147483648 ≤ y ∧ y < 2147483648) (hr_v : -2147483648 ≤ v ∧ v < 2147483648) (hr_w : -2147483648 ≤ w ∧ w < 2147483648) (m : Int) (pn : Int) (RR : Int → Int → Int) (hI : MI J m) (u9 : MUr J pn RR) : tz_Ok l G M_X12_make 3 0 0 [.ref 164, zi x, zi y, zi v, zi w] n J (zqi (fun z J' => MQr J' J ∧ MFI J' J ∧ ((((0 ≤ x ∧ x < J 164 9) ∧ (0 < J 170 x → 0 ≤ y ∧ y < J 165 0) ∧ (1 < J 170 x → 0 ≤ v ∧ v < J 165 0) ∧ (2 < J 170 x → 0 ≤ w ∧ w < J 165 0)) ∧ MED (tbz J) pn RR (tmO (tbz J) x y v w) J' z) ∨ (¬ ((0 ≤ x ∧ x < J 164 9) ∧ (0 < J 170 x → 0 ≤ y ∧ y < J 165 0) ∧ (1 < J 170 x → 0 ≤ v ∧ v < J 165 0) ∧ (2 < J 170 x → 0 ≤ w ∧ w < J 165 0)) ∧ z = -1 ∧ MBT J' (tbz J) ∧ MUr J' pn RR)))) zN := by
  refine tz_Ok.of hl (by decide +kernel) rfl (tb_c1 rfl) (Nat.le_of_ble_eq_true rfl) ?_
  show tz_At l G M_X12_make (tb_rm 3 0 0) none (tb_ZM G 0 0 (zQ n 0 (zqi (fun z J' => MQr J' J ∧ MFI J' J ∧ ((((0 ≤ x ∧ x < J 164 9) ∧ (0 < J 170 x → 0 ≤ y ∧ y < J 165 0) ∧ (1 < J 170 x → 0 ≤ v ∧ v < J 165 0) ∧ (2 < J 170 x → 0 ≤ w ∧ w < J 165 0)) ∧ MED (tbz J) pn RR (tmO (tbz J) x y v w) J' z) ∨ (¬ ((0 ≤ x ∧ x < J 164 9) ∧ (0 < J 170 x → 0 ≤ y ∧ y < J 165 0) ∧ (1 < J 170 x → 0 ≤ v ∧ v < J 165 0) ∧ (2 < J 170 x → 0 ≤ w ∧ w < J 165 0)) ∧ z = -1 ∧ MBT J' (tbz J) ∧ MUr J' pn RR))))) (zX n 0 zN)) 0 0 n J 0 [some (.ref 164), some (zi x), some (zi y), some (zi v), some (zi w), none] []
  have hT := hI.told
  have hW := hI.row
  have hM := hI.1
  have hL := hI.2.1
  refine tz_aload_n (pc := 0) dX12_make_0 rfl rfl ?_
  refine tz_iconst (pc := 1) dX12_make_1 ?_
  refine tz_pI (pc := 2) (kz := 8) dX12_make_2 fl_X12_68 i_164_8 rfl rfl (by decide) ?_
  refine tz_aload_n (pc := 5) dX12_make_5 rfl rfl ?_
  refine tz_iload_n (pc := 6) dX12_make_6 rfl rfl ?_
  refine tz_cV (pc := 7) (m_isSym hl n _ _ (by omega) (by rw [(show ((zup J 164 8 0) : zJ) 164 9 = (J 164 9) from rfl)]; omega)) vl_X12_369 dX12_make_7 o_164 rfl rfl (Nat.le_of_ble_eq_true rfl) ⟨(Nat.le_of_ble_eq_true rfl), (Nat.le_of_ble_eq_true rfl)⟩ rfl rfl (Nat.le_of_ble_eq_true rfl) (Nat.le_of_ble_eq_true rfl) (fun r9 J_7 hq9 => ?_)
  obtain ⟨z_7, rfl, hz_7, rfl, ht_7⟩ := hq9
  rw [(show ((zup J 164 8 0) : zJ) 164 9 = (J 164 9) from rfl)] at ht_7
  refine tz_if_eq (pc := 10) (tgt := 22) dX12_make_10 (by decide) (by omega) (fun h_10 => ?_) (fun h_10 => ?_)
  · refine tz_iconst (pc := 22) dX12_make_22 ?_
    refine tz_istore (pc := 23) (L2 := [_, _, _, _, _, _]) dX12_make_23 (by decide) rfl ?_
    refine tz_aload_n (pc := 25) dX12_make_25 rfl rfl ?_
    refine tz_iload_n (pc := 26) dX12_make_26 rfl rfl ?_
    refine tz_cV (pc := 27) (m_isSym hl n _ _ (by omega) (by rw [(show ((zup J 164 8 0) : zJ) 164 9 = (J 164 9) from rfl)]; omega)) vl_X12_369 dX12_make_27 o_164 rfl rfl (Nat.le_of_ble_eq_true rfl) ⟨(Nat.le_of_ble_eq_true rfl), (Nat.le_of_ble_eq_true rfl)⟩ rfl rfl (Nat.le_of_ble_eq_true rfl) (Nat.le_of_ble_eq_true rfl) (fun r9 J_27 hq9 => ?_)
    obtain ⟨z_27, rfl, hz_27, rfl, ht_27⟩ := hq9
    rw [(show ((zup J 164 8 0) : zJ) 164 9 = (J 164 9) from rfl)] at ht_27
    refine tz_if_eq (pc := 30) (tgt := 75) dX12_make_30 (by decide) (by omega) (fun h_30 => ?_) (fun h_30 => ?_)
    · refine tz_aload_n (pc := 75) dX12_make_75 rfl rfl ?_
      refine tz_iconst (pc := 76) dX12_make_76 ?_
      refine tz_iconst (pc := 77) dX12_make_77 ?_
      refine tz_cV (pc := 78) (m_refuses hl n _ _ _ (by decide) (by decide) (by decide)) vl_X12_391 dX12_make_78 o_164 rfl rfl (Nat.le_of_ble_eq_true rfl) ⟨(Nat.le_of_ble_eq_true rfl), (Nat.le_of_ble_eq_true rfl)⟩ rfl rfl (Nat.le_of_ble_eq_true rfl) (Nat.le_of_ble_eq_true rfl) (fun r9 J_78 hq9 => ?_)
      obtain ⟨z_78, rfl, hz_78, rfl, f_78⟩ := hq9
      have y_78 : MZ J_78 J := MZ.tr (MZ.up (k := 8) MZ.rf (by decide)) (MZ.c f_78 (by decide))
      exact tz_iret (pc := 81) (z := (-1)) dX12_make_81 rfl (Nat.le_of_ble_eq_true rfl) (Nat.le_of_ble_eq_true rfl) ⟨Nat.le_refl _, Nat.le_add_right _ _⟩ ⟨_, rfl, (by decide), ⟨MQr.z hI y_78, MFI.z y_78, Or.inr ⟨by omega, rfl, MBT.z hI y_78, u9.z y_78⟩⟩⟩
    · refine tz_iload (pc := 33) dX12_make_33 rfl ?_
      refine tz_if_leT (pc := 35) (tgt := 46) (by decide) dX12_make_35 (by decide) (by decide) ?_
      refine tz_iload (pc := 46) dX12_make_46 rfl ?_
      refine tz_iconst (pc := 48) dX12_make_48 ?_
      refine tz_icmp_leT (pc := 49) (tgt := 60) (by decide) dX12_make_49 (by decide) (by decide) (by decide) ?_
      refine tz_iload (pc := 60) dX12_make_60 rfl ?_
      refine tz_iconst (pc := 62) dX12_make_62 ?_
      refine tz_icmp_leT (pc := 63) (tgt := 82) (by decide) dX12_make_63 (by decide) (by decide) (by decide) ?_
      refine tz_aload_n (pc := 82) dX12_make_82 rfl rfl ?_
      refine tz_cV (pc := 83) (m_begins hl n _) vl_X12_400 dX12_make_83 o_164 rfl rfl (Nat.le_of_ble_eq_true rfl) ⟨(Nat.le_of_ble_eq_true rfl), (Nat.le_of_ble_eq_true rfl)⟩ rfl rfl (Nat.le_of_ble_eq_true rfl) (Nat.le_of_ble_eq_true rfl) (fun r9 J_83 hq9 => ?_)
      obtain ⟨rfl, hj_83⟩ := hq9
      have a_83 : AM J_83 J m m := by rw [← hj_83]; exact AM.begin (hI.z (MZ.up (k := 8) MZ.rf (by decide))) ⟨MZ.lo (MZ.up (k := 8) MZ.rf (by decide)), SC.z (MZ.up (k := 8) MZ.rf (by decide))⟩
      have br_83 : ∀ k, (k < 63 ∨ 126 ≤ k) → J_83 165 k = ((zup J 164 8 0) : zJ) 165 k := fun k hk => by rw [← hj_83]; exact zbg_r hk
      have bl_83 : ∀ k, ¬ k = 34 → ¬ k = 33 → ¬ k = 21 → J_83 164 k = ((zup J 164 8 0) : zJ) 164 k := fun k u v w => by rw [← hj_83]; exact zbg_f u v w
      have bo_83 : zOf (zbut [164, 165]) J_83 (zup J 164 8 0) := by rw [← hj_83]; exact zbg_of
      have b3_83 : J_83 164 21 = 0 ∧ J_83 164 33 = 0 ∧ J_83 164 34 = 0 := by rw [← hj_83]; exact ⟨rfl, rfl, rfl⟩
      have s9_83 : J_83 164 9 = J 164 9 := (bl_83 9 (by decide) (by decide) (by decide)).trans ((MZ.up (k := 8) MZ.rf (by decide)).2 9 (by decide) (by decide))
      obtain ⟨⟨bt_83, bs_83, bm_83, ba_83⟩, bu_83, bn_83, bf_83, bi_83⟩ := mbeg hI (MZ.up (k := 8) MZ.rf (by decide)) hj_83 u9
      refine tz_aload_n (pc := 86) dX12_make_86 rfl rfl ?_
      refine tz_aload_n (pc := 87) dX12_make_87 rfl rfl ?_
      refine tz_iload_n (pc := 88) dX12_make_88 rfl rfl ?_
      refine tz_iload_n (pc := 89) dX12_make_89 rfl rfl ?_
      refine tz_iload_n (pc := 90) dX12_make_90 rfl rfl ?_
      refine tz_iload (pc := 91) dX12_make_91 rfl ?_
      have ea_83 : J_83 170 = J 170 := (bo_83 170 rfl)
      refine tz_cV (pc := 93) (o_termOf hl n _ _ _ _ _ (by omega) (by omega) (by omega) (by omega) (J_83 164 9) m (a_83).1.1 rfl (by omega) (fun _ => by rw [arh_pos (by omega)]; simp only [Int.zero_add, ea_83]; omega)) vl_X12_107 dX12_make_93 o_164 rfl rfl (Nat.le_of_ble_eq_true rfl) ⟨(Nat.le_of_ble_eq_true rfl), (Nat.le_of_ble_eq_true rfl)⟩ rfl rfl (Nat.le_of_ble_eq_true rfl) (Nat.le_of_ble_eq_true rfl) (fun r9 J_93 hq9 => ?_)
      obtain ⟨z_93, rfl, hz_93, e_93, m_93, g_93, h_93⟩ := hq9
      have a_93 := AM.grow0 a_83 g_93 (fun c hc => by simp at hc) (fun k x y => by simp; omega) rfl
      have lm_93 := a_93.1.2.2
      rw [bt_83] at e_93
      refine tz_cV (pc := 96) (m_keeps hl n _ _ (by omega) (a_93).2.2.2.1.1.1 (a_93).2.2.2.1.1.2) vl_X12_403 dX12_make_96 o_164 rfl rfl (Nat.le_of_ble_eq_true rfl) ⟨(Nat.le_of_ble_eq_true rfl), (Nat.le_of_ble_eq_true rfl)⟩ rfl rfl (Nat.le_of_ble_eq_true rfl) (Nat.le_of_ble_eq_true rfl) (fun r9 J_96 hq9 => ?_)
      obtain ⟨z_96, rfl, hz_96, k_96⟩ := hq9
      exact tz_iret (pc := 99) (z := z_96) dX12_make_99 rfl (Nat.le_of_ble_eq_true rfl) (Nat.le_of_ble_eq_true rfl) ⟨Nat.le_refl _, Nat.le_add_right _ _⟩ ⟨_, rfl, (by omega), (AE (AM.keep a_93 k_96) bi_83 (mact_end bt_83 bs_83 bm_83 ba_83 bu_83 bn_83 bf_83 (MOP.mg g_93) e_93.1 (by rw [← e_93.1]; show J_93 165 0 ≤ 400; have t9 := g_93.1.1.told; have s9 := g_93.1.1.2.2.2.2.1; omega) (fun _ => e_93.2) k_96) (by omega))⟩
  · refine tz_aload_n (pc := 13) dX12_make_13 rfl rfl ?_
    refine tz_fR (pc := 14) dX12_make_14 fl_X12_25 r_164_5 ?_
    refine tz_iload_n (pc := 17) dX12_make_17 rfl rfl ?_
    refine tz_aL (pc := 18) (z := x) (v := (J 170 x)) dX12_make_18 a_170 rfl (by omega) rfl (fun r_18 => ?_)
    refine tz_goto (pc := 19) (tgt := 23) dX12_make_19 (by decide) ?_
    refine tz_istore (pc := 23) (L2 := [_, _, _, _, _, _]) dX12_make_23 (by decide) rfl ?_
    refine tz_aload_n (pc := 25) dX12_make_25 rfl rfl ?_
    refine tz_iload_n (pc := 26) dX12_make_26 rfl rfl ?_
    refine tz_cV (pc := 27) (m_isSym hl n _ _ (by omega) (by rw [(show ((zup J 164 8 0) : zJ) 164 9 = (J 164 9) from rfl)]; omega)) vl_X12_369 dX12_make_27 o_164 rfl rfl (Nat.le_of_ble_eq_true rfl) ⟨(Nat.le_of_ble_eq_true rfl), (Nat.le_of_ble_eq_true rfl)⟩ rfl rfl (Nat.le_of_ble_eq_true rfl) (Nat.le_of_ble_eq_true rfl) (fun r9 J_27 hq9 => ?_)
    obtain ⟨z_27, rfl, hz_27, rfl, ht_27⟩ := hq9
    rw [(show ((zup J 164 8 0) : zJ) 164 9 = (J 164 9) from rfl)] at ht_27
    refine tz_if_eq (pc := 30) (tgt := 75) dX12_make_30 (by decide) (by omega) (fun h_30 => ?_) (fun h_30 => ?_)
    · refine tz_aload_n (pc := 75) dX12_make_75 rfl rfl ?_
      refine tz_iconst (pc := 76) dX12_make_76 ?_
      refine tz_iconst (pc := 77) dX12_make_77 ?_
      refine tz_cV (pc := 78) (m_refuses hl n _ _ _ (by decide) (by decide) (by decide)) vl_X12_391 dX12_make_78 o_164 rfl rfl (Nat.le_of_ble_eq_true rfl) ⟨(Nat.le_of_ble_eq_true rfl), (Nat.le_of_ble_eq_true rfl)⟩ rfl rfl (Nat.le_of_ble_eq_true rfl) (Nat.le_of_ble_eq_true rfl) (fun r9 J_78 hq9 => ?_)
      obtain ⟨z_78, rfl, hz_78, rfl, f_78⟩ := hq9
      have y_78 : MZ J_78 J := MZ.tr (MZ.up (k := 8) MZ.rf (by decide)) (MZ.c f_78 (by decide))
      exact tz_iret (pc := 81) (z := (-1)) dX12_make_81 rfl (Nat.le_of_ble_eq_true rfl) (Nat.le_of_ble_eq_true rfl) ⟨Nat.le_refl _, Nat.le_add_right _ _⟩ ⟨_, rfl, (by decide), ⟨MQr.z hI y_78, MFI.z y_78, Or.inr ⟨by omega, rfl, MBT.z hI y_78, u9.z y_78⟩⟩⟩
    · refine tz_iload (pc := 33) dX12_make_33 rfl ?_
      refine tz_if_le (pc := 35) (tgt := 46) dX12_make_35 (by decide) (by omega) (fun h_35 => ?_) (fun h_35 => ?_)
      · refine tz_iload (pc := 46) dX12_make_46 rfl ?_
        refine tz_iconst (pc := 48) dX12_make_48 ?_
        refine tz_icmp_le (pc := 49) (tgt := 60) dX12_make_49 (by decide) (by omega) (by decide) (fun h_49 => ?_) (fun h_49 => ?_)
        · refine tz_iload (pc := 60) dX12_make_60 rfl ?_
          refine tz_iconst (pc := 62) dX12_make_62 ?_
          refine tz_icmp_le (pc := 63) (tgt := 82) dX12_make_63 (by decide) (by omega) (by decide) (fun h_63 => ?_) (fun h_63 => ?_)
          · refine tz_aload_n (pc := 82) dX12_make_82 rfl rfl ?_
            refine tz_cV (pc := 83) (m_begins hl n _) vl_X12_400 dX12_make_83 o_164 rfl rfl (Nat.le_of_ble_eq_true rfl) ⟨(Nat.le_of_ble_eq_true rfl), (Nat.le_of_ble_eq_true rfl)⟩ rfl rfl (Nat.le_of_ble_eq_true rfl) (Nat.le_of_ble_eq_true rfl) (fun r9 J_83 hq9 => ?_)
            obtain ⟨rfl, hj_83⟩ := hq9
            have a_83 : AM J_83 J m m := by rw [← hj_83]; exact AM.begin (hI.z (MZ.up (k := 8) MZ.rf (by decide))) ⟨MZ.lo (MZ.up (k := 8) MZ.rf (by decide)), SC.z (MZ.up (k := 8) MZ.rf (by decide))⟩
            have br_83 : ∀ k, (k < 63 ∨ 126 ≤ k) → J_83 165 k = ((zup J 164 8 0) : zJ) 165 k := fun k hk => by rw [← hj_83]; exact zbg_r hk
            have bl_83 : ∀ k, ¬ k = 34 → ¬ k = 33 → ¬ k = 21 → J_83 164 k = ((zup J 164 8 0) : zJ) 164 k := fun k u v w => by rw [← hj_83]; exact zbg_f u v w
            have bo_83 : zOf (zbut [164, 165]) J_83 (zup J 164 8 0) := by rw [← hj_83]; exact zbg_of
            have b3_83 : J_83 164 21 = 0 ∧ J_83 164 33 = 0 ∧ J_83 164 34 = 0 := by rw [← hj_83]; exact ⟨rfl, rfl, rfl⟩
            have s9_83 : J_83 164 9 = J 164 9 := (bl_83 9 (by decide) (by decide) (by decide)).trans ((MZ.up (k := 8) MZ.rf (by decide)).2 9 (by decide) (by decide))
            obtain ⟨⟨bt_83, bs_83, bm_83, ba_83⟩, bu_83, bn_83, bf_83, bi_83⟩ := mbeg hI (MZ.up (k := 8) MZ.rf (by decide)) hj_83 u9
            refine tz_aload_n (pc := 86) dX12_make_86 rfl rfl ?_
            refine tz_aload_n (pc := 87) dX12_make_87 rfl rfl ?_
            refine tz_iload_n (pc := 88) dX12_make_88 rfl rfl ?_
            refine tz_iload_n (pc := 89) dX12_make_89 rfl rfl ?_
            refine tz_iload_n (pc := 90) dX12_make_90 rfl rfl ?_
            refine tz_iload (pc := 91) dX12_make_91 rfl ?_
            have ea_83 : J_83 170 = J 170 := (bo_83 170 rfl)
            refine tz_cV (pc := 93) (o_termOf hl n _ _ _ _ _ (by omega) (by omega) (by omega) (by omega) (J_83 164 9) m (a_83).1.1 rfl (by omega) (fun _ => by rw [arh_pos (by omega)]; simp only [Int.zero_add, ea_83]; omega)) vl_X12_107 dX12_make_93 o_164 rfl rfl (Nat.le_of_ble_eq_true rfl) ⟨(Nat.le_of_ble_eq_true rfl), (Nat.le_of_ble_eq_true rfl)⟩ rfl rfl (Nat.le_of_ble_eq_true rfl) (Nat.le_of_ble_eq_true rfl) (fun r9 J_93 hq9 => ?_)
            obtain ⟨z_93, rfl, hz_93, e_93, m_93, g_93, h_93⟩ := hq9
            have a_93 := AM.grow0 a_83 g_93 (fun c hc => by simp at hc) (fun k x y => by simp; omega) rfl
            have lm_93 := a_93.1.2.2
            rw [bt_83] at e_93
            refine tz_cV (pc := 96) (m_keeps hl n _ _ (by omega) (a_93).2.2.2.1.1.1 (a_93).2.2.2.1.1.2) vl_X12_403 dX12_make_96 o_164 rfl rfl (Nat.le_of_ble_eq_true rfl) ⟨(Nat.le_of_ble_eq_true rfl), (Nat.le_of_ble_eq_true rfl)⟩ rfl rfl (Nat.le_of_ble_eq_true rfl) (Nat.le_of_ble_eq_true rfl) (fun r9 J_96 hq9 => ?_)
            obtain ⟨z_96, rfl, hz_96, k_96⟩ := hq9
            exact tz_iret (pc := 99) (z := z_96) dX12_make_99 rfl (Nat.le_of_ble_eq_true rfl) (Nat.le_of_ble_eq_true rfl) ⟨Nat.le_refl _, Nat.le_add_right _ _⟩ ⟨_, rfl, (by omega), (AE (AM.keep a_93 k_96) bi_83 (mact_end bt_83 bs_83 bm_83 ba_83 bu_83 bn_83 bf_83 (MOP.mg g_93) e_93.1 (by rw [← e_93.1]; show J_93 165 0 ≤ 400; have t9 := g_93.1.1.told; have s9 := g_93.1.1.2.2.2.2.1; omega) (fun _ => e_93.2) k_96) (by omega))⟩
          · refine tz_aload_n (pc := 66) dX12_make_66 rfl rfl ?_
            refine tz_iload (pc := 67) dX12_make_67 rfl ?_
            refine tz_cV (pc := 69) (m_isTerm hl n _ _ (by omega) (by rw [(show ((zup J 164 8 0) : zJ) 165 0 = (J 165 0) from rfl)]; omega)) vl_X12_376 dX12_make_69 o_164 rfl rfl (Nat.le_of_ble_eq_true rfl) ⟨(Nat.le_of_ble_eq_true rfl), (Nat.le_of_ble_eq_true rfl)⟩ rfl rfl (Nat.le_of_ble_eq_true rfl) (Nat.le_of_ble_eq_true rfl) (fun r9 J_69 hq9 => ?_)
            obtain ⟨z_69, rfl, hz_69, rfl, ht_69⟩ := hq9
            rw [(show ((zup J 164 8 0) : zJ) 165 0 = (J 165 0) from rfl)] at ht_69
            refine tz_if_ne (pc := 72) (tgt := 82) dX12_make_72 (by decide) (by omega) (fun h_72 => ?_) (fun h_72 => ?_)
            · refine tz_aload_n (pc := 82) dX12_make_82 rfl rfl ?_
              refine tz_cV (pc := 83) (m_begins hl n _) vl_X12_400 dX12_make_83 o_164 rfl rfl (Nat.le_of_ble_eq_true rfl) ⟨(Nat.le_of_ble_eq_true rfl), (Nat.le_of_ble_eq_true rfl)⟩ rfl rfl (Nat.le_of_ble_eq_true rfl) (Nat.le_of_ble_eq_true rfl) (fun r9 J_83 hq9 => ?_)
              obtain ⟨rfl, hj_83⟩ := hq9
              have a_83 : AM J_83 J m m := by rw [← hj_83]; exact AM.begin (hI.z (MZ.up (k := 8) MZ.rf (by decide))) ⟨MZ.lo (MZ.up (k := 8) MZ.rf (by decide)), SC.z (MZ.up (k := 8) MZ.rf (by decide))⟩
              have br_83 : ∀ k, (k < 63 ∨ 126 ≤ k) → J_83 165 k = ((zup J 164 8 0) : zJ) 165 k := fun k hk => by rw [← hj_83]; exact zbg_r hk
              have bl_83 : ∀ k, ¬ k = 34 → ¬ k = 33 → ¬ k = 21 → J_83 164 k = ((zup J 164 8 0) : zJ) 164 k := fun k u v w => by rw [← hj_83]; exact zbg_f u v w
              have bo_83 : zOf (zbut [164, 165]) J_83 (zup J 164 8 0) := by rw [← hj_83]; exact zbg_of
              have b3_83 : J_83 164 21 = 0 ∧ J_83 164 33 = 0 ∧ J_83 164 34 = 0 := by rw [← hj_83]; exact ⟨rfl, rfl, rfl⟩
              have s9_83 : J_83 164 9 = J 164 9 := (bl_83 9 (by decide) (by decide) (by decide)).trans ((MZ.up (k := 8) MZ.rf (by decide)).2 9 (by decide) (by decide))
              obtain ⟨⟨bt_83, bs_83, bm_83, ba_83⟩, bu_83, bn_83, bf_83, bi_83⟩ := mbeg hI (MZ.up (k := 8) MZ.rf (by decide)) hj_83 u9
              refine tz_aload_n (pc := 86) dX12_make_86 rfl rfl ?_
              refine tz_aload_n (pc := 87) dX12_make_87 rfl rfl ?_
              refine tz_iload_n (pc := 88) dX12_make_88 rfl rfl ?_
              refine tz_iload_n (pc := 89) dX12_make_89 rfl rfl ?_
              refine tz_iload_n (pc := 90) dX12_make_90 rfl rfl ?_
              refine tz_iload (pc := 91) dX12_make_91 rfl ?_
              have ea_83 : J_83 170 = J 170 := (bo_83 170 rfl)
              refine tz_cV (pc := 93) (o_termOf hl n _ _ _ _ _ (by omega) (by omega) (by omega) (by omega) (J_83 164 9) m (a_83).1.1 rfl (by omega) (fun _ => by rw [arh_pos (by omega)]; simp only [Int.zero_add, ea_83]; omega)) vl_X12_107 dX12_make_93 o_164 rfl rfl (Nat.le_of_ble_eq_true rfl) ⟨(Nat.le_of_ble_eq_true rfl), (Nat.le_of_ble_eq_true rfl)⟩ rfl rfl (Nat.le_of_ble_eq_true rfl) (Nat.le_of_ble_eq_true rfl) (fun r9 J_93 hq9 => ?_)
              obtain ⟨z_93, rfl, hz_93, e_93, m_93, g_93, h_93⟩ := hq9
              have a_93 := AM.grow0 a_83 g_93 (fun c hc => by simp at hc) (fun k x y => by simp; omega) rfl
              have lm_93 := a_93.1.2.2
              rw [bt_83] at e_93
              refine tz_cV (pc := 96) (m_keeps hl n _ _ (by omega) (a_93).2.2.2.1.1.1 (a_93).2.2.2.1.1.2) vl_X12_403 dX12_make_96 o_164 rfl rfl (Nat.le_of_ble_eq_true rfl) ⟨(Nat.le_of_ble_eq_true rfl), (Nat.le_of_ble_eq_true rfl)⟩ rfl rfl (Nat.le_of_ble_eq_true rfl) (Nat.le_of_ble_eq_true rfl) (fun r9 J_96 hq9 => ?_)
              obtain ⟨z_96, rfl, hz_96, k_96⟩ := hq9
              exact tz_iret (pc := 99) (z := z_96) dX12_make_99 rfl (Nat.le_of_ble_eq_true rfl) (Nat.le_of_ble_eq_true rfl) ⟨Nat.le_refl _, Nat.le_add_right _ _⟩ ⟨_, rfl, (by omega), (AE (AM.keep a_93 k_96) bi_83 (mact_end bt_83 bs_83 bm_83 ba_83 bu_83 bn_83 bf_83 (MOP.mg g_93) e_93.1 (by rw [← e_93.1]; show J_93 165 0 ≤ 400; have t9 := g_93.1.1.told; have s9 := g_93.1.1.2.2.2.2.1; omega) (fun _ => e_93.2) k_96) (by omega))⟩
            · refine tz_aload_n (pc := 75) dX12_make_75 rfl rfl ?_
              refine tz_iconst (pc := 76) dX12_make_76 ?_
              refine tz_iconst (pc := 77) dX12_make_77 ?_
              refine tz_cV (pc := 78) (m_refuses hl n _ _ _ (by decide) (by decide) (by decide)) vl_X12_391 dX12_make_78 o_164 rfl rfl (Nat.le_of_ble_eq_true rfl) ⟨(Nat.le_of_ble_eq_true rfl), (Nat.le_of_ble_eq_true rfl)⟩ rfl rfl (Nat.le_of_ble_eq_true rfl) (Nat.le_of_ble_eq_true rfl) (fun r9 J_78 hq9 => ?_)
              obtain ⟨z_78, rfl, hz_78, rfl, f_78⟩ := hq9
              have y_78 : MZ J_78 J := MZ.tr (MZ.up (k := 8) MZ.rf (by decide)) (MZ.c f_78 (by decide))
              exact tz_iret (pc := 81) (z := (-1)) dX12_make_81 rfl (Nat.le_of_ble_eq_true rfl) (Nat.le_of_ble_eq_true rfl) ⟨Nat.le_refl _, Nat.le_add_right _ _⟩ ⟨_, rfl, (by decide), ⟨MQr.z hI y_78, MFI.z y_78, Or.inr ⟨by omega, rfl, MBT.z hI y_78, u9.z y_78⟩⟩⟩
        · refine tz_aload_n (pc := 52) dX12_make_52 rfl rfl ?_
          refine tz_iload_n (pc := 53) dX12_make_53 rfl rfl ?_
          refine tz_cV (pc := 54) (m_isTerm hl n _ _ (by omega) (by rw [(show ((zup J 164 8 0) : zJ) 165 0 = (J 165 0) from rfl)]; omega)) vl_X12_376 dX12_make_54 o_164 rfl rfl (Nat.le_of_ble_eq_true rfl) ⟨(Nat.le_of_ble_eq_true rfl), (Nat.le_of_ble_eq_true rfl)⟩ rfl rfl (Nat.le_of_ble_eq_true rfl) (Nat.le_of_ble_eq_true rfl) (fun r9 J_54 hq9 => ?_)
          obtain ⟨z_54, rfl, hz_54, rfl, ht_54⟩ := hq9
          rw [(show ((zup J 164 8 0) : zJ) 165 0 = (J 165 0) from rfl)] at ht_54
          refine tz_if_eq (pc := 57) (tgt := 75) dX12_make_57 (by decide) (by omega) (fun h_57 => ?_) (fun h_57 => ?_)
          · refine tz_aload_n (pc := 75) dX12_make_75 rfl rfl ?_
            refine tz_iconst (pc := 76) dX12_make_76 ?_
            refine tz_iconst (pc := 77) dX12_make_77 ?_
            refine tz_cV (pc := 78) (m_refuses hl n _ _ _ (by decide) (by decide) (by decide)) vl_X12_391 dX12_make_78 o_164 rfl rfl (Nat.le_of_ble_eq_true rfl) ⟨(Nat.le_of_ble_eq_true rfl), (Nat.le_of_ble_eq_true rfl)⟩ rfl rfl (Nat.le_of_ble_eq_true rfl) (Nat.le_of_ble_eq_true rfl) (fun r9 J_78 hq9 => ?_)
            obtain ⟨z_78, rfl, hz_78, rfl, f_78⟩ := hq9
            have y_78 : MZ J_78 J := MZ.tr (MZ.up (k := 8) MZ.rf (by decide)) (MZ.c f_78 (by decide))
            exact tz_iret (pc := 81) (z := (-1)) dX12_make_81 rfl (Nat.le_of_ble_eq_true rfl) (Nat.le_of_ble_eq_true rfl) ⟨Nat.le_refl _, Nat.le_add_right _ _⟩ ⟨_, rfl, (by decide), ⟨MQr.z hI y_78, MFI.z y_78, Or.inr ⟨by omega, rfl, MBT.z hI y_78, u9.z y_78⟩⟩⟩
          · refine tz_iload (pc := 60) dX12_make_60 rfl ?_
            refine tz_iconst (pc := 62) dX12_make_62 ?_
            refine tz_icmp_le (pc := 63) (tgt := 82) dX12_make_63 (by decide) (by omega) (by decide) (fun h_63 => ?_) (fun h_63 => ?_)
            · refine tz_aload_n (pc := 82) dX12_make_82 rfl rfl ?_
              refine tz_cV (pc := 83) (m_begins hl n _) vl_X12_400 dX12_make_83 o_164 rfl rfl (Nat.le_of_ble_eq_true rfl) ⟨(Nat.le_of_ble_eq_true rfl), (Nat.le_of_ble_eq_true rfl)⟩ rfl rfl (Nat.le_of_ble_eq_true rfl) (Nat.le_of_ble_eq_true rfl) (fun r9 J_83 hq9 => ?_)
              obtain ⟨rfl, hj_83⟩ := hq9
              have a_83 : AM J_83 J m m := by rw [← hj_83]; exact AM.begin (hI.z (MZ.up (k := 8) MZ.rf (by decide))) ⟨MZ.lo (MZ.up (k := 8) MZ.rf (by decide)), SC.z (MZ.up (k := 8) MZ.rf (by decide))⟩
              have br_83 : ∀ k, (k < 63 ∨ 126 ≤ k) → J_83 165 k = ((zup J 164 8 0) : zJ) 165 k := fun k hk => by rw [← hj_83]; exact zbg_r hk
              have bl_83 : ∀ k, ¬ k = 34 → ¬ k = 33 → ¬ k = 21 → J_83 164 k = ((zup J 164 8 0) : zJ) 164 k := fun k u v w => by rw [← hj_83]; exact zbg_f u v w
              have bo_83 : zOf (zbut [164, 165]) J_83 (zup J 164 8 0) := by rw [← hj_83]; exact zbg_of
              have b3_83 : J_83 164 21 = 0 ∧ J_83 164 33 = 0 ∧ J_83 164 34 = 0 := by rw [← hj_83]; exact ⟨rfl, rfl, rfl⟩
              have s9_83 : J_83 164 9 = J 164 9 := (bl_83 9 (by decide) (by decide) (by decide)).trans ((MZ.up (k := 8) MZ.rf (by decide)).2 9 (by decide) (by decide))
              obtain ⟨⟨bt_83, bs_83, bm_83, ba_83⟩, bu_83, bn_83, bf_83, bi_83⟩ := mbeg hI (MZ.up (k := 8) MZ.rf (by decide)) hj_83 u9
              refine tz_aload_n (pc := 86) dX12_make_86 rfl rfl ?_
              refine tz_aload_n (pc := 87) dX12_make_87 rfl rfl ?_
              refine tz_iload_n (pc := 88) dX12_make_88 rfl rfl ?_
              refine tz_iload_n (pc := 89) dX12_make_89 rfl rfl ?_
              refine tz_iload_n (pc := 90) dX12_make_90 rfl rfl ?_
              refine tz_iload (pc := 91) dX12_make_91 rfl ?_
              have ea_83 : J_83 170 = J 170 := (bo_83 170 rfl)
              refine tz_cV (pc := 93) (o_termOf hl n _ _ _ _ _ (by omega) (by omega) (by omega) (by omega) (J_83 164 9) m (a_83).1.1 rfl (by omega) (fun _ => by rw [arh_pos (by omega)]; simp only [Int.zero_add, ea_83]; omega)) vl_X12_107 dX12_make_93 o_164 rfl rfl (Nat.le_of_ble_eq_true rfl) ⟨(Nat.le_of_ble_eq_true rfl), (Nat.le_of_ble_eq_true rfl)⟩ rfl rfl (Nat.le_of_ble_eq_true rfl) (Nat.le_of_ble_eq_true rfl) (fun r9 J_93 hq9 => ?_)
              obtain ⟨z_93, rfl, hz_93, e_93, m_93, g_93, h_93⟩ := hq9
              have a_93 := AM.grow0 a_83 g_93 (fun c hc => by simp at hc) (fun k x y => by simp; omega) rfl
              have lm_93 := a_93.1.2.2
              rw [bt_83] at e_93
              refine tz_cV (pc := 96) (m_keeps hl n _ _ (by omega) (a_93).2.2.2.1.1.1 (a_93).2.2.2.1.1.2) vl_X12_403 dX12_make_96 o_164 rfl rfl (Nat.le_of_ble_eq_true rfl) ⟨(Nat.le_of_ble_eq_true rfl), (Nat.le_of_ble_eq_true rfl)⟩ rfl rfl (Nat.le_of_ble_eq_true rfl) (Nat.le_of_ble_eq_true rfl) (fun r9 J_96 hq9 => ?_)
              obtain ⟨z_96, rfl, hz_96, k_96⟩ := hq9
              exact tz_iret (pc := 99) (z := z_96) dX12_make_99 rfl (Nat.le_of_ble_eq_true rfl) (Nat.le_of_ble_eq_true rfl) ⟨Nat.le_refl _, Nat.le_add_right _ _⟩ ⟨_, rfl, (by omega), (AE (AM.keep a_93 k_96) bi_83 (mact_end bt_83 bs_83 bm_83 ba_83 bu_83 bn_83 bf_83 (MOP.mg g_93) e_93.1 (by rw [← e_93.1]; show J_93 165 0 ≤ 400; have t9 := g_93.1.1.told; have s9 := g_93.1.1.2.2.2.2.1; omega) (fun _ => e_93.2) k_96) (by omega))⟩
            · refine tz_aload_n (pc := 66) dX12_make_66 rfl rfl ?_
              refine tz_iload (pc := 67) dX12_make_67 rfl ?_
              refine tz_cV (pc := 69) (m_isTerm hl n _ _ (by omega) (by rw [(show ((zup J 164 8 0) : zJ) 165 0 = (J 165 0) from rfl)]; omega)) vl_X12_376 dX12_make_69 o_164 rfl rfl (Nat.le_of_ble_eq_true rfl) ⟨(Nat.le_of_ble_eq_true rfl), (Nat.le_of_ble_eq_true rfl)⟩ rfl rfl (Nat.le_of_ble_eq_true rfl) (Nat.le_of_ble_eq_true rfl) (fun r9 J_69 hq9 => ?_)
              obtain ⟨z_69, rfl, hz_69, rfl, ht_69⟩ := hq9
              rw [(show ((zup J 164 8 0) : zJ) 165 0 = (J 165 0) from rfl)] at ht_69
              refine tz_if_ne (pc := 72) (tgt := 82) dX12_make_72 (by decide) (by omega) (fun h_72 => ?_) (fun h_72 => ?_)
              · refine tz_aload_n (pc := 82) dX12_make_82 rfl rfl ?_
                refine tz_cV (pc := 83) (m_begins hl n _) vl_X12_400 dX12_make_83 o_164 rfl rfl (Nat.le_of_ble_eq_true rfl) ⟨(Nat.le_of_ble_eq_true rfl), (Nat.le_of_ble_eq_true rfl)⟩ rfl rfl (Nat.le_of_ble_eq_true rfl) (Nat.le_of_ble_eq_true rfl) (fun r9 J_83 hq9 => ?_)
                obtain ⟨rfl, hj_83⟩ := hq9
                have a_83 : AM J_83 J m m := by rw [← hj_83]; exact AM.begin (hI.z (MZ.up (k := 8) MZ.rf (by decide))) ⟨MZ.lo (MZ.up (k := 8) MZ.rf (by decide)), SC.z (MZ.up (k := 8) MZ.rf (by decide))⟩
                have br_83 : ∀ k, (k < 63 ∨ 126 ≤ k) → J_83 165 k = ((zup J 164 8 0) : zJ) 165 k := fun k hk => by rw [← hj_83]; exact zbg_r hk
                have bl_83 : ∀ k, ¬ k = 34 → ¬ k = 33 → ¬ k = 21 → J_83 164 k = ((zup J 164 8 0) : zJ) 164 k := fun k u v w => by rw [← hj_83]; exact zbg_f u v w
                have bo_83 : zOf (zbut [164, 165]) J_83 (zup J 164 8 0) := by rw [← hj_83]; exact zbg_of
                have b3_83 : J_83 164 21 = 0 ∧ J_83 164 33 = 0 ∧ J_83 164 34 = 0 := by rw [← hj_83]; exact ⟨rfl, rfl, rfl⟩
                have s9_83 : J_83 164 9 = J 164 9 := (bl_83 9 (by decide) (by decide) (by decide)).trans ((MZ.up (k := 8) MZ.rf (by decide)).2 9 (by decide) (by decide))
                obtain ⟨⟨bt_83, bs_83, bm_83, ba_83⟩, bu_83, bn_83, bf_83, bi_83⟩ := mbeg hI (MZ.up (k := 8) MZ.rf (by decide)) hj_83 u9
                refine tz_aload_n (pc := 86) dX12_make_86 rfl rfl ?_
                refine tz_aload_n (pc := 87) dX12_make_87 rfl rfl ?_
                refine tz_iload_n (pc := 88) dX12_make_88 rfl rfl ?_
                refine tz_iload_n (pc := 89) dX12_make_89 rfl rfl ?_
                refine tz_iload_n (pc := 90) dX12_make_90 rfl rfl ?_
                refine tz_iload (pc := 91) dX12_make_91 rfl ?_
                have ea_83 : J_83 170 = J 170 := (bo_83 170 rfl)
                refine tz_cV (pc := 93) (o_termOf hl n _ _ _ _ _ (by omega) (by omega) (by omega) (by omega) (J_83 164 9) m (a_83).1.1 rfl (by omega) (fun _ => by rw [arh_pos (by omega)]; simp only [Int.zero_add, ea_83]; omega)) vl_X12_107 dX12_make_93 o_164 rfl rfl (Nat.le_of_ble_eq_true rfl) ⟨(Nat.le_of_ble_eq_true rfl), (Nat.le_of_ble_eq_true rfl)⟩ rfl rfl (Nat.le_of_ble_eq_true rfl) (Nat.le_of_ble_eq_true rfl) (fun r9 J_93 hq9 => ?_)
                obtain ⟨z_93, rfl, hz_93, e_93, m_93, g_93, h_93⟩ := hq9
                have a_93 := AM.grow0 a_83 g_93 (fun c hc => by simp at hc) (fun k x y => by simp; omega) rfl
                have lm_93 := a_93.1.2.2
                rw [bt_83] at e_93
                refine tz_cV (pc := 96) (m_keeps hl n _ _ (by omega) (a_93).2.2.2.1.1.1 (a_93).2.2.2.1.1.2) vl_X12_403 dX12_make_96 o_164 rfl rfl (Nat.le_of_ble_eq_true rfl) ⟨(Nat.le_of_ble_eq_true rfl), (Nat.le_of_ble_eq_true rfl)⟩ rfl rfl (Nat.le_of_ble_eq_true rfl) (Nat.le_of_ble_eq_true rfl) (fun r9 J_96 hq9 => ?_)
                obtain ⟨z_96, rfl, hz_96, k_96⟩ := hq9
                exact tz_iret (pc := 99) (z := z_96) dX12_make_99 rfl (Nat.le_of_ble_eq_true rfl) (Nat.le_of_ble_eq_true rfl) ⟨Nat.le_refl _, Nat.le_add_right _ _⟩ ⟨_, rfl, (by omega), (AE (AM.keep a_93 k_96) bi_83 (mact_end bt_83 bs_83 bm_83 ba_83 bu_83 bn_83 bf_83 (MOP.mg g_93) e_93.1 (by rw [← e_93.1]; show J_93 165 0 ≤ 400; have t9 := g_93.1.1.told; have s9 := g_93.1.1.2.2.2.2.1; omega) (fun _ => e_93.2) k_96) (by omega))⟩
              · refine tz_aload_n (pc := 75) dX12_make_75 rfl rfl ?_
                refine tz_iconst (pc := 76) dX12_make_76 ?_
                refine tz_iconst (pc := 77) dX12_make_77 ?_
                refine tz_cV (pc := 78) (m_refuses hl n _ _ _ (by decide) (by decide) (by decide)) vl_X12_391 dX12_make_78 o_164 rfl rfl (Nat.le_of_ble_eq_true rfl) ⟨(Nat.le_of_ble_eq_true rfl), (Nat.le_of_ble_eq_true rfl)⟩ rfl rfl (Nat.le_of_ble_eq_true rfl) (Nat.le_of_ble_eq_true rfl) (fun r9 J_78 hq9 => ?_)
                obtain ⟨z_78, rfl, hz_78, rfl, f_78⟩ := hq9
                have y_78 : MZ J_78 J := MZ.tr (MZ.up (k := 8) MZ.rf (by decide)) (MZ.c f_78 (by decide))
                exact tz_iret (pc := 81) (z := (-1)) dX12_make_81 rfl (Nat.le_of_ble_eq_true rfl) (Nat.le_of_ble_eq_true rfl) ⟨Nat.le_refl _, Nat.le_add_right _ _⟩ ⟨_, rfl, (by decide), ⟨MQr.z hI y_78, MFI.z y_78, Or.inr ⟨by omega, rfl, MBT.z hI y_78, u9.z y_78⟩⟩⟩
      · refine tz_aload_n (pc := 38) dX12_make_38 rfl rfl ?_
        refine tz_iload_n (pc := 39) dX12_make_39 rfl rfl ?_
        refine tz_cV (pc := 40) (m_isTerm hl n _ _ (by omega) (by rw [(show ((zup J 164 8 0) : zJ) 165 0 = (J 165 0) from rfl)]; omega)) vl_X12_376 dX12_make_40 o_164 rfl rfl (Nat.le_of_ble_eq_true rfl) ⟨(Nat.le_of_ble_eq_true rfl), (Nat.le_of_ble_eq_true rfl)⟩ rfl rfl (Nat.le_of_ble_eq_true rfl) (Nat.le_of_ble_eq_true rfl) (fun r9 J_40 hq9 => ?_)
        obtain ⟨z_40, rfl, hz_40, rfl, ht_40⟩ := hq9
        rw [(show ((zup J 164 8 0) : zJ) 165 0 = (J 165 0) from rfl)] at ht_40
        refine tz_if_eq (pc := 43) (tgt := 75) dX12_make_43 (by decide) (by omega) (fun h_43 => ?_) (fun h_43 => ?_)
        · refine tz_aload_n (pc := 75) dX12_make_75 rfl rfl ?_
          refine tz_iconst (pc := 76) dX12_make_76 ?_
          refine tz_iconst (pc := 77) dX12_make_77 ?_
          refine tz_cV (pc := 78) (m_refuses hl n _ _ _ (by decide) (by decide) (by decide)) vl_X12_391 dX12_make_78 o_164 rfl rfl (Nat.le_of_ble_eq_true rfl) ⟨(Nat.le_of_ble_eq_true rfl), (Nat.le_of_ble_eq_true rfl)⟩ rfl rfl (Nat.le_of_ble_eq_true rfl) (Nat.le_of_ble_eq_true rfl) (fun r9 J_78 hq9 => ?_)
          obtain ⟨z_78, rfl, hz_78, rfl, f_78⟩ := hq9
          have y_78 : MZ J_78 J := MZ.tr (MZ.up (k := 8) MZ.rf (by decide)) (MZ.c f_78 (by decide))
          exact tz_iret (pc := 81) (z := (-1)) dX12_make_81 rfl (Nat.le_of_ble_eq_true rfl) (Nat.le_of_ble_eq_true rfl) ⟨Nat.le_refl _, Nat.le_add_right _ _⟩ ⟨_, rfl, (by decide), ⟨MQr.z hI y_78, MFI.z y_78, Or.inr ⟨by omega, rfl, MBT.z hI y_78, u9.z y_78⟩⟩⟩
        · refine tz_iload (pc := 46) dX12_make_46 rfl ?_
          refine tz_iconst (pc := 48) dX12_make_48 ?_
          refine tz_icmp_le (pc := 49) (tgt := 60) dX12_make_49 (by decide) (by omega) (by decide) (fun h_49 => ?_) (fun h_49 => ?_)
          · refine tz_iload (pc := 60) dX12_make_60 rfl ?_
            refine tz_iconst (pc := 62) dX12_make_62 ?_
            refine tz_icmp_le (pc := 63) (tgt := 82) dX12_make_63 (by decide) (by omega) (by decide) (fun h_63 => ?_) (fun h_63 => ?_)
            · refine tz_aload_n (pc := 82) dX12_make_82 rfl rfl ?_
              refine tz_cV (pc := 83) (m_begins hl n _) vl_X12_400 dX12_make_83 o_164 rfl rfl (Nat.le_of_ble_eq_true rfl) ⟨(Nat.le_of_ble_eq_true rfl), (Nat.le_of_ble_eq_true rfl)⟩ rfl rfl (Nat.le_of_ble_eq_true rfl) (Nat.le_of_ble_eq_true rfl) (fun r9 J_83 hq9 => ?_)
              obtain ⟨rfl, hj_83⟩ := hq9
              have a_83 : AM J_83 J m m := by rw [← hj_83]; exact AM.begin (hI.z (MZ.up (k := 8) MZ.rf (by decide))) ⟨MZ.lo (MZ.up (k := 8) MZ.rf (by decide)), SC.z (MZ.up (k := 8) MZ.rf (by decide))⟩
              have br_83 : ∀ k, (k < 63 ∨ 126 ≤ k) → J_83 165 k = ((zup J 164 8 0) : zJ) 165 k := fun k hk => by rw [← hj_83]; exact zbg_r hk
              have bl_83 : ∀ k, ¬ k = 34 → ¬ k = 33 → ¬ k = 21 → J_83 164 k = ((zup J 164 8 0) : zJ) 164 k := fun k u v w => by rw [← hj_83]; exact zbg_f u v w
              have bo_83 : zOf (zbut [164, 165]) J_83 (zup J 164 8 0) := by rw [← hj_83]; exact zbg_of
              have b3_83 : J_83 164 21 = 0 ∧ J_83 164 33 = 0 ∧ J_83 164 34 = 0 := by rw [← hj_83]; exact ⟨rfl, rfl, rfl⟩
              have s9_83 : J_83 164 9 = J 164 9 := (bl_83 9 (by decide) (by decide) (by decide)).trans ((MZ.up (k := 8) MZ.rf (by decide)).2 9 (by decide) (by decide))
              obtain ⟨⟨bt_83, bs_83, bm_83, ba_83⟩, bu_83, bn_83, bf_83, bi_83⟩ := mbeg hI (MZ.up (k := 8) MZ.rf (by decide)) hj_83 u9
              refine tz_aload_n (pc := 86) dX12_make_86 rfl rfl ?_
              refine tz_aload_n (pc := 87) dX12_make_87 rfl rfl ?_
              refine tz_iload_n (pc := 88) dX12_make_88 rfl rfl ?_
              refine tz_iload_n (pc := 89) dX12_make_89 rfl rfl ?_
              refine tz_iload_n (pc := 90) dX12_make_90 rfl rfl ?_
              refine tz_iload (pc := 91) dX12_make_91 rfl ?_
              have ea_83 : J_83 170 = J 170 := (bo_83 170 rfl)
              refine tz_cV (pc := 93) (o_termOf hl n _ _ _ _ _ (by omega) (by omega) (by omega) (by omega) (J_83 164 9) m (a_83).1.1 rfl (by omega) (fun _ => by rw [arh_pos (by omega)]; simp only [Int.zero_add, ea_83]; omega)) vl_X12_107 dX12_make_93 o_164 rfl rfl (Nat.le_of_ble_eq_true rfl) ⟨(Nat.le_of_ble_eq_true rfl), (Nat.le_of_ble_eq_true rfl)⟩ rfl rfl (Nat.le_of_ble_eq_true rfl) (Nat.le_of_ble_eq_true rfl) (fun r9 J_93 hq9 => ?_)
              obtain ⟨z_93, rfl, hz_93, e_93, m_93, g_93, h_93⟩ := hq9
              have a_93 := AM.grow0 a_83 g_93 (fun c hc => by simp at hc) (fun k x y => by simp; omega) rfl
              have lm_93 := a_93.1.2.2
              rw [bt_83] at e_93
              refine tz_cV (pc := 96) (m_keeps hl n _ _ (by omega) (a_93).2.2.2.1.1.1 (a_93).2.2.2.1.1.2) vl_X12_403 dX12_make_96 o_164 rfl rfl (Nat.le_of_ble_eq_true rfl) ⟨(Nat.le_of_ble_eq_true rfl), (Nat.le_of_ble_eq_true rfl)⟩ rfl rfl (Nat.le_of_ble_eq_true rfl) (Nat.le_of_ble_eq_true rfl) (fun r9 J_96 hq9 => ?_)
              obtain ⟨z_96, rfl, hz_96, k_96⟩ := hq9
              exact tz_iret (pc := 99) (z := z_96) dX12_make_99 rfl (Nat.le_of_ble_eq_true rfl) (Nat.le_of_ble_eq_true rfl) ⟨Nat.le_refl _, Nat.le_add_right _ _⟩ ⟨_, rfl, (by omega), (AE (AM.keep a_93 k_96) bi_83 (mact_end bt_83 bs_83 bm_83 ba_83 bu_83 bn_83 bf_83 (MOP.mg g_93) e_93.1 (by rw [← e_93.1]; show J_93 165 0 ≤ 400; have t9 := g_93.1.1.told; have s9 := g_93.1.1.2.2.2.2.1; omega) (fun _ => e_93.2) k_96) (by omega))⟩
            · refine tz_aload_n (pc := 66) dX12_make_66 rfl rfl ?_
              refine tz_iload (pc := 67) dX12_make_67 rfl ?_
              refine tz_cV (pc := 69) (m_isTerm hl n _ _ (by omega) (by rw [(show ((zup J 164 8 0) : zJ) 165 0 = (J 165 0) from rfl)]; omega)) vl_X12_376 dX12_make_69 o_164 rfl rfl (Nat.le_of_ble_eq_true rfl) ⟨(Nat.le_of_ble_eq_true rfl), (Nat.le_of_ble_eq_true rfl)⟩ rfl rfl (Nat.le_of_ble_eq_true rfl) (Nat.le_of_ble_eq_true rfl) (fun r9 J_69 hq9 => ?_)
              obtain ⟨z_69, rfl, hz_69, rfl, ht_69⟩ := hq9
              rw [(show ((zup J 164 8 0) : zJ) 165 0 = (J 165 0) from rfl)] at ht_69
              refine tz_if_ne (pc := 72) (tgt := 82) dX12_make_72 (by decide) (by omega) (fun h_72 => ?_) (fun h_72 => ?_)
              · refine tz_aload_n (pc := 82) dX12_make_82 rfl rfl ?_
                refine tz_cV (pc := 83) (m_begins hl n _) vl_X12_400 dX12_make_83 o_164 rfl rfl (Nat.le_of_ble_eq_true rfl) ⟨(Nat.le_of_ble_eq_true rfl), (Nat.le_of_ble_eq_true rfl)⟩ rfl rfl (Nat.le_of_ble_eq_true rfl) (Nat.le_of_ble_eq_true rfl) (fun r9 J_83 hq9 => ?_)
                obtain ⟨rfl, hj_83⟩ := hq9
                have a_83 : AM J_83 J m m := by rw [← hj_83]; exact AM.begin (hI.z (MZ.up (k := 8) MZ.rf (by decide))) ⟨MZ.lo (MZ.up (k := 8) MZ.rf (by decide)), SC.z (MZ.up (k := 8) MZ.rf (by decide))⟩
                have br_83 : ∀ k, (k < 63 ∨ 126 ≤ k) → J_83 165 k = ((zup J 164 8 0) : zJ) 165 k := fun k hk => by rw [← hj_83]; exact zbg_r hk
                have bl_83 : ∀ k, ¬ k = 34 → ¬ k = 33 → ¬ k = 21 → J_83 164 k = ((zup J 164 8 0) : zJ) 164 k := fun k u v w => by rw [← hj_83]; exact zbg_f u v w
                have bo_83 : zOf (zbut [164, 165]) J_83 (zup J 164 8 0) := by rw [← hj_83]; exact zbg_of
                have b3_83 : J_83 164 21 = 0 ∧ J_83 164 33 = 0 ∧ J_83 164 34 = 0 := by rw [← hj_83]; exact ⟨rfl, rfl, rfl⟩
                have s9_83 : J_83 164 9 = J 164 9 := (bl_83 9 (by decide) (by decide) (by decide)).trans ((MZ.up (k := 8) MZ.rf (by decide)).2 9 (by decide) (by decide))
                obtain ⟨⟨bt_83, bs_83, bm_83, ba_83⟩, bu_83, bn_83, bf_83, bi_83⟩ := mbeg hI (MZ.up (k := 8) MZ.rf (by decide)) hj_83 u9
                refine tz_aload_n (pc := 86) dX12_make_86 rfl rfl ?_
                refine tz_aload_n (pc := 87) dX12_make_87 rfl rfl ?_
                refine tz_iload_n (pc := 88) dX12_make_88 rfl rfl ?_
                refine tz_iload_n (pc := 89) dX12_make_89 rfl rfl ?_
                refine tz_iload_n (pc := 90) dX12_make_90 rfl rfl ?_
                refine tz_iload (pc := 91) dX12_make_91 rfl ?_
                have ea_83 : J_83 170 = J 170 := (bo_83 170 rfl)
                refine tz_cV (pc := 93) (o_termOf hl n _ _ _ _ _ (by omega) (by omega) (by omega) (by omega) (J_83 164 9) m (a_83).1.1 rfl (by omega) (fun _ => by rw [arh_pos (by omega)]; simp only [Int.zero_add, ea_83]; omega)) vl_X12_107 dX12_make_93 o_164 rfl rfl (Nat.le_of_ble_eq_true rfl) ⟨(Nat.le_of_ble_eq_true rfl), (Nat.le_of_ble_eq_true rfl)⟩ rfl rfl (Nat.le_of_ble_eq_true rfl) (Nat.le_of_ble_eq_true rfl) (fun r9 J_93 hq9 => ?_)
                obtain ⟨z_93, rfl, hz_93, e_93, m_93, g_93, h_93⟩ := hq9
                have a_93 := AM.grow0 a_83 g_93 (fun c hc => by simp at hc) (fun k x y => by simp; omega) rfl
                have lm_93 := a_93.1.2.2
                rw [bt_83] at e_93
                refine tz_cV (pc := 96) (m_keeps hl n _ _ (by omega) (a_93).2.2.2.1.1.1 (a_93).2.2.2.1.1.2) vl_X12_403 dX12_make_96 o_164 rfl rfl (Nat.le_of_ble_eq_true rfl) ⟨(Nat.le_of_ble_eq_true rfl), (Nat.le_of_ble_eq_true rfl)⟩ rfl rfl (Nat.le_of_ble_eq_true rfl) (Nat.le_of_ble_eq_true rfl) (fun r9 J_96 hq9 => ?_)
                obtain ⟨z_96, rfl, hz_96, k_96⟩ := hq9
                exact tz_iret (pc := 99) (z := z_96) dX12_make_99 rfl (Nat.le_of_ble_eq_true rfl) (Nat.le_of_ble_eq_true rfl) ⟨Nat.le_refl _, Nat.le_add_right _ _⟩ ⟨_, rfl, (by omega), (AE (AM.keep a_93 k_96) bi_83 (mact_end bt_83 bs_83 bm_83 ba_83 bu_83 bn_83 bf_83 (MOP.mg g_93) e_93.1 (by rw [← e_93.1]; show J_93 165 0 ≤ 400; have t9 := g_93.1.1.told; have s9 := g_93.1.1.2.2.2.2.1; omega) (fun _ => e_93.2) k_96) (by omega))⟩
              · refine tz_aload_n (pc := 75) dX12_make_75 rfl rfl ?_
                refine tz_iconst (pc := 76) dX12_make_76 ?_
                refine tz_iconst (pc := 77) dX12_make_77 ?_
                refine tz_cV (pc := 78) (m_refuses hl n _ _ _ (by decide) (by decide) (by decide)) vl_X12_391 dX12_make_78 o_164 rfl rfl (Nat.le_of_ble_eq_true rfl) ⟨(Nat.le_of_ble_eq_true rfl), (Nat.le_of_ble_eq_true rfl)⟩ rfl rfl (Nat.le_of_ble_eq_true rfl) (Nat.le_of_ble_eq_true rfl) (fun r9 J_78 hq9 => ?_)
                obtain ⟨z_78, rfl, hz_78, rfl, f_78⟩ := hq9
                have y_78 : MZ J_78 J := MZ.tr (MZ.up (k := 8) MZ.rf (by decide)) (MZ.c f_78 (by decide))
                exact tz_iret (pc := 81) (z := (-1)) dX12_make_81 rfl (Nat.le_of_ble_eq_true rfl) (Nat.le_of_ble_eq_true rfl) ⟨Nat.le_refl _, Nat.le_add_right _ _⟩ ⟨_, rfl, (by decide), ⟨MQr.z hI y_78, MFI.z y_78, Or.inr ⟨by omega, rfl, MBT.z hI y_78, u9.z y_78⟩⟩⟩
          · refine tz_aload_n (pc := 52) dX12_make_52 rfl rfl ?_
            refine tz_iload_n (pc := 53) dX12_make_53 rfl rfl ?_
            refine tz_cV (pc := 54) (m_isTerm hl n _ _ (by omega) (by rw [(show ((zup J 164 8 0) : zJ) 165 0 = (J 165 0) from rfl)]; omega)) vl_X12_376 dX12_make_54 o_164 rfl rfl (Nat.le_of_ble_eq_true rfl) ⟨(Nat.le_of_ble_eq_true rfl), (Nat.le_of_ble_eq_true rfl)⟩ rfl rfl (Nat.le_of_ble_eq_true rfl) (Nat.le_of_ble_eq_true rfl) (fun r9 J_54 hq9 => ?_)
            obtain ⟨z_54, rfl, hz_54, rfl, ht_54⟩ := hq9
            rw [(show ((zup J 164 8 0) : zJ) 165 0 = (J 165 0) from rfl)] at ht_54
            refine tz_if_eq (pc := 57) (tgt := 75) dX12_make_57 (by decide) (by omega) (fun h_57 => ?_) (fun h_57 => ?_)
            · refine tz_aload_n (pc := 75) dX12_make_75 rfl rfl ?_
              refine tz_iconst (pc := 76) dX12_make_76 ?_
              refine tz_iconst (pc := 77) dX12_make_77 ?_
              refine tz_cV (pc := 78) (m_refuses hl n _ _ _ (by decide) (by decide) (by decide)) vl_X12_391 dX12_make_78 o_164 rfl rfl (Nat.le_of_ble_eq_true rfl) ⟨(Nat.le_of_ble_eq_true rfl), (Nat.le_of_ble_eq_true rfl)⟩ rfl rfl (Nat.le_of_ble_eq_true rfl) (Nat.le_of_ble_eq_true rfl) (fun r9 J_78 hq9 => ?_)
              obtain ⟨z_78, rfl, hz_78, rfl, f_78⟩ := hq9
              have y_78 : MZ J_78 J := MZ.tr (MZ.up (k := 8) MZ.rf (by decide)) (MZ.c f_78 (by decide))
              exact tz_iret (pc := 81) (z := (-1)) dX12_make_81 rfl (Nat.le_of_ble_eq_true rfl) (Nat.le_of_ble_eq_true rfl) ⟨Nat.le_refl _, Nat.le_add_right _ _⟩ ⟨_, rfl, (by decide), ⟨MQr.z hI y_78, MFI.z y_78, Or.inr ⟨by omega, rfl, MBT.z hI y_78, u9.z y_78⟩⟩⟩
            · refine tz_iload (pc := 60) dX12_make_60 rfl ?_
              refine tz_iconst (pc := 62) dX12_make_62 ?_
              refine tz_icmp_le (pc := 63) (tgt := 82) dX12_make_63 (by decide) (by omega) (by decide) (fun h_63 => ?_) (fun h_63 => ?_)
              · refine tz_aload_n (pc := 82) dX12_make_82 rfl rfl ?_
                refine tz_cV (pc := 83) (m_begins hl n _) vl_X12_400 dX12_make_83 o_164 rfl rfl (Nat.le_of_ble_eq_true rfl) ⟨(Nat.le_of_ble_eq_true rfl), (Nat.le_of_ble_eq_true rfl)⟩ rfl rfl (Nat.le_of_ble_eq_true rfl) (Nat.le_of_ble_eq_true rfl) (fun r9 J_83 hq9 => ?_)
                obtain ⟨rfl, hj_83⟩ := hq9
                have a_83 : AM J_83 J m m := by rw [← hj_83]; exact AM.begin (hI.z (MZ.up (k := 8) MZ.rf (by decide))) ⟨MZ.lo (MZ.up (k := 8) MZ.rf (by decide)), SC.z (MZ.up (k := 8) MZ.rf (by decide))⟩
                have br_83 : ∀ k, (k < 63 ∨ 126 ≤ k) → J_83 165 k = ((zup J 164 8 0) : zJ) 165 k := fun k hk => by rw [← hj_83]; exact zbg_r hk
                have bl_83 : ∀ k, ¬ k = 34 → ¬ k = 33 → ¬ k = 21 → J_83 164 k = ((zup J 164 8 0) : zJ) 164 k := fun k u v w => by rw [← hj_83]; exact zbg_f u v w
                have bo_83 : zOf (zbut [164, 165]) J_83 (zup J 164 8 0) := by rw [← hj_83]; exact zbg_of
                have b3_83 : J_83 164 21 = 0 ∧ J_83 164 33 = 0 ∧ J_83 164 34 = 0 := by rw [← hj_83]; exact ⟨rfl, rfl, rfl⟩
                have s9_83 : J_83 164 9 = J 164 9 := (bl_83 9 (by decide) (by decide) (by decide)).trans ((MZ.up (k := 8) MZ.rf (by decide)).2 9 (by decide) (by decide))
                obtain ⟨⟨bt_83, bs_83, bm_83, ba_83⟩, bu_83, bn_83, bf_83, bi_83⟩ := mbeg hI (MZ.up (k := 8) MZ.rf (by decide)) hj_83 u9
                refine tz_aload_n (pc := 86) dX12_make_86 rfl rfl ?_
                refine tz_aload_n (pc := 87) dX12_make_87 rfl rfl ?_
                refine tz_iload_n (pc := 88) dX12_make_88 rfl rfl ?_
                refine tz_iload_n (pc := 89) dX12_make_89 rfl rfl ?_
                refine tz_iload_n (pc := 90) dX12_make_90 rfl rfl ?_
                refine tz_iload (pc := 91) dX12_make_91 rfl ?_
                have ea_83 : J_83 170 = J 170 := (bo_83 170 rfl)
                refine tz_cV (pc := 93) (o_termOf hl n _ _ _ _ _ (by omega) (by omega) (by omega) (by omega) (J_83 164 9) m (a_83).1.1 rfl (by omega) (fun _ => by rw [arh_pos (by omega)]; simp only [Int.zero_add, ea_83]; omega)) vl_X12_107 dX12_make_93 o_164 rfl rfl (Nat.le_of_ble_eq_true rfl) ⟨(Nat.le_of_ble_eq_true rfl), (Nat.le_of_ble_eq_true rfl)⟩ rfl rfl (Nat.le_of_ble_eq_true rfl) (Nat.le_of_ble_eq_true rfl) (fun r9 J_93 hq9 => ?_)
                obtain ⟨z_93, rfl, hz_93, e_93, m_93, g_93, h_93⟩ := hq9
                have a_93 := AM.grow0 a_83 g_93 (fun c hc => by simp at hc) (fun k x y => by simp; omega) rfl
                have lm_93 := a_93.1.2.2
                rw [bt_83] at e_93
                refine tz_cV (pc := 96) (m_keeps hl n _ _ (by omega) (a_93).2.2.2.1.1.1 (a_93).2.2.2.1.1.2) vl_X12_403 dX12_make_96 o_164 rfl rfl (Nat.le_of_ble_eq_true rfl) ⟨(Nat.le_of_ble_eq_true rfl), (Nat.le_of_ble_eq_true rfl)⟩ rfl rfl (Nat.le_of_ble_eq_true rfl) (Nat.le_of_ble_eq_true rfl) (fun r9 J_96 hq9 => ?_)
                obtain ⟨z_96, rfl, hz_96, k_96⟩ := hq9
                exact tz_iret (pc := 99) (z := z_96) dX12_make_99 rfl (Nat.le_of_ble_eq_true rfl) (Nat.le_of_ble_eq_true rfl) ⟨Nat.le_refl _, Nat.le_add_right _ _⟩ ⟨_, rfl, (by omega), (AE (AM.keep a_93 k_96) bi_83 (mact_end bt_83 bs_83 bm_83 ba_83 bu_83 bn_83 bf_83 (MOP.mg g_93) e_93.1 (by rw [← e_93.1]; show J_93 165 0 ≤ 400; have t9 := g_93.1.1.told; have s9 := g_93.1.1.2.2.2.2.1; omega) (fun _ => e_93.2) k_96) (by omega))⟩
              · refine tz_aload_n (pc := 66) dX12_make_66 rfl rfl ?_
                refine tz_iload (pc := 67) dX12_make_67 rfl ?_
                refine tz_cV (pc := 69) (m_isTerm hl n _ _ (by omega) (by rw [(show ((zup J 164 8 0) : zJ) 165 0 = (J 165 0) from rfl)]; omega)) vl_X12_376 dX12_make_69 o_164 rfl rfl (Nat.le_of_ble_eq_true rfl) ⟨(Nat.le_of_ble_eq_true rfl), (Nat.le_of_ble_eq_true rfl)⟩ rfl rfl (Nat.le_of_ble_eq_true rfl) (Nat.le_of_ble_eq_true rfl) (fun r9 J_69 hq9 => ?_)
                obtain ⟨z_69, rfl, hz_69, rfl, ht_69⟩ := hq9
                rw [(show ((zup J 164 8 0) : zJ) 165 0 = (J 165 0) from rfl)] at ht_69
                refine tz_if_ne (pc := 72) (tgt := 82) dX12_make_72 (by decide) (by omega) (fun h_72 => ?_) (fun h_72 => ?_)
                · refine tz_aload_n (pc := 82) dX12_make_82 rfl rfl ?_
                  refine tz_cV (pc := 83) (m_begins hl n _) vl_X12_400 dX12_make_83 o_164 rfl rfl (Nat.le_of_ble_eq_true rfl) ⟨(Nat.le_of_ble_eq_true rfl), (Nat.le_of_ble_eq_true rfl)⟩ rfl rfl (Nat.le_of_ble_eq_true rfl) (Nat.le_of_ble_eq_true rfl) (fun r9 J_83 hq9 => ?_)
                  obtain ⟨rfl, hj_83⟩ := hq9
                  have a_83 : AM J_83 J m m := by rw [← hj_83]; exact AM.begin (hI.z (MZ.up (k := 8) MZ.rf (by decide))) ⟨MZ.lo (MZ.up (k := 8) MZ.rf (by decide)), SC.z (MZ.up (k := 8) MZ.rf (by decide))⟩
                  have br_83 : ∀ k, (k < 63 ∨ 126 ≤ k) → J_83 165 k = ((zup J 164 8 0) : zJ) 165 k := fun k hk => by rw [← hj_83]; exact zbg_r hk
                  have bl_83 : ∀ k, ¬ k = 34 → ¬ k = 33 → ¬ k = 21 → J_83 164 k = ((zup J 164 8 0) : zJ) 164 k := fun k u v w => by rw [← hj_83]; exact zbg_f u v w
                  have bo_83 : zOf (zbut [164, 165]) J_83 (zup J 164 8 0) := by rw [← hj_83]; exact zbg_of
                  have b3_83 : J_83 164 21 = 0 ∧ J_83 164 33 = 0 ∧ J_83 164 34 = 0 := by rw [← hj_83]; exact ⟨rfl, rfl, rfl⟩
                  have s9_83 : J_83 164 9 = J 164 9 := (bl_83 9 (by decide) (by decide) (by decide)).trans ((MZ.up (k := 8) MZ.rf (by decide)).2 9 (by decide) (by decide))
                  obtain ⟨⟨bt_83, bs_83, bm_83, ba_83⟩, bu_83, bn_83, bf_83, bi_83⟩ := mbeg hI (MZ.up (k := 8) MZ.rf (by decide)) hj_83 u9
                  refine tz_aload_n (pc := 86) dX12_make_86 rfl rfl ?_
                  refine tz_aload_n (pc := 87) dX12_make_87 rfl rfl ?_
                  refine tz_iload_n (pc := 88) dX12_make_88 rfl rfl ?_
                  refine tz_iload_n (pc := 89) dX12_make_89 rfl rfl ?_
                  refine tz_iload_n (pc := 90) dX12_make_90 rfl rfl ?_
                  refine tz_iload (pc := 91) dX12_make_91 rfl ?_
                  have ea_83 : J_83 170 = J 170 := (bo_83 170 rfl)
                  refine tz_cV (pc := 93) (o_termOf hl n _ _ _ _ _ (by omega) (by omega) (by omega) (by omega) (J_83 164 9) m (a_83).1.1 rfl (by omega) (fun _ => by rw [arh_pos (by omega)]; simp only [Int.zero_add, ea_83]; omega)) vl_X12_107 dX12_make_93 o_164 rfl rfl (Nat.le_of_ble_eq_true rfl) ⟨(Nat.le_of_ble_eq_true rfl), (Nat.le_of_ble_eq_true rfl)⟩ rfl rfl (Nat.le_of_ble_eq_true rfl) (Nat.le_of_ble_eq_true rfl) (fun r9 J_93 hq9 => ?_)
                  obtain ⟨z_93, rfl, hz_93, e_93, m_93, g_93, h_93⟩ := hq9
                  have a_93 := AM.grow0 a_83 g_93 (fun c hc => by simp at hc) (fun k x y => by simp; omega) rfl
                  have lm_93 := a_93.1.2.2
                  rw [bt_83] at e_93
                  refine tz_cV (pc := 96) (m_keeps hl n _ _ (by omega) (a_93).2.2.2.1.1.1 (a_93).2.2.2.1.1.2) vl_X12_403 dX12_make_96 o_164 rfl rfl (Nat.le_of_ble_eq_true rfl) ⟨(Nat.le_of_ble_eq_true rfl), (Nat.le_of_ble_eq_true rfl)⟩ rfl rfl (Nat.le_of_ble_eq_true rfl) (Nat.le_of_ble_eq_true rfl) (fun r9 J_96 hq9 => ?_)
                  obtain ⟨z_96, rfl, hz_96, k_96⟩ := hq9
                  exact tz_iret (pc := 99) (z := z_96) dX12_make_99 rfl (Nat.le_of_ble_eq_true rfl) (Nat.le_of_ble_eq_true rfl) ⟨Nat.le_refl _, Nat.le_add_right _ _⟩ ⟨_, rfl, (by omega), (AE (AM.keep a_93 k_96) bi_83 (mact_end bt_83 bs_83 bm_83 ba_83 bu_83 bn_83 bf_83 (MOP.mg g_93) e_93.1 (by rw [← e_93.1]; show J_93 165 0 ≤ 400; have t9 := g_93.1.1.told; have s9 := g_93.1.1.2.2.2.2.1; omega) (fun _ => e_93.2) k_96) (by omega))⟩
                · refine tz_aload_n (pc := 75) dX12_make_75 rfl rfl ?_
                  refine tz_iconst (pc := 76) dX12_make_76 ?_
                  refine tz_iconst (pc := 77) dX12_make_77 ?_
                  refine tz_cV (pc := 78) (m_refuses hl n _ _ _ (by decide) (by decide) (by decide)) vl_X12_391 dX12_make_78 o_164 rfl rfl (Nat.le_of_ble_eq_true rfl) ⟨(Nat.le_of_ble_eq_true rfl), (Nat.le_of_ble_eq_true rfl)⟩ rfl rfl (Nat.le_of_ble_eq_true rfl) (Nat.le_of_ble_eq_true rfl) (fun r9 J_78 hq9 => ?_)
                  obtain ⟨z_78, rfl, hz_78, rfl, f_78⟩ := hq9
                  have y_78 : MZ J_78 J := MZ.tr (MZ.up (k := 8) MZ.rf (by decide)) (MZ.c f_78 (by decide))
                  exact tz_iret (pc := 81) (z := (-1)) dX12_make_81 rfl (Nat.le_of_ble_eq_true rfl) (Nat.le_of_ble_eq_true rfl) ⟨Nat.le_refl _, Nat.le_add_right _ _⟩ ⟨_, rfl, (by decide), ⟨MQr.z hI y_78, MFI.z y_78, Or.inr ⟨by omega, rfl, MBT.z hI y_78, u9.z y_78⟩⟩⟩

end
