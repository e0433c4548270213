/-! ===== unify of the class, exact ===== -/
theorem bt_01 {a v : Int} : zand (zshr a v) 1 = 0 ∨ bt a v := by
  unfold bt zand zshr
  simp only [Int32.ofInt_toInt]
  rw [show Int32.ofInt 1 = 1 from rfl]
  rcases i1_01 (Int32.ofInt a >>> (Int32.ofInt v &&& 31)) with h | h
  · exact Or.inl (by rw [h]; rfl)
  · exact Or.inr (by rw [h]; rfl)
set_option maxHeartbeats 4000000 in
set_option maxRecDepth 100000 in
theorem u_boundOf {l : Launch} {G : tb_G} (hl : l.stackTraces = false) (n : Nat) (J : zJ) (x : Int) (hr_x : -2147483648 ≤ x ∧ x < 2147483648) (m0 : Int) (T sh lvv ρ : Int → Int) (m : Int) (C : CT J m) (hm : J 6 12 = m) (hU : UI J 0 m) (hm0 : m0 ≤ m) (hx : VN 400 m0 x) (hxv : J 7 x < 0) (hV : SLV m0 T sh lvv ρ J m) (hC : CRO m0 T sh lvv ρ J) : tz_Ok l G M_X10_boundOf 21 0 0 [.ref 145, zi x] n J (zqi (fun z J' => ∃ m', UG J' J m m' ∧ (z = -3 ∨ (-1 ≤ z ∧ z < m')) ∧ SLV m0 T sh lvv ρ J' m' ∧ ∀ S, S 164 21 = 0 → A0 J S → nNO m0 J → BNX m0 ρ S x z J')) zN := by
  refine tz_Ok.of hl (by decide +kernel) rfl (tb_c1 rfl) (Nat.le_of_ble_eq_true rfl) ?_
  show tz_At l G M_X10_boundOf (tb_rm 21 0 0) none (tb_ZM G 0 0 (zQ n 0 (zqi (fun z J' => ∃ m', UG J' J m m' ∧ (z = -3 ∨ (-1 ≤ z ∧ z < m')) ∧ SLV m0 T sh lvv ρ J' m' ∧ ∀ S, S 164 21 = 0 → A0 J S → nNO m0 J → BNX m0 ρ S x z J'))) (zX n 0 zN)) 0 0 n J 0 [some (.ref 145), some (zi x), none] []
  have hb := C.told
  have hxz := hx.z
  refine tz_iload_n (pc := 0) dX10_boundOf_0 rfl rfl ?_
  refine tz_if_ge (pc := 1) (tgt := 7) dX10_boundOf_1 (by decide) (by omega) (fun h_1 => ?_) (fun h_1 => ?_)
  · refine tz_aload_n (pc := 7) dX10_boundOf_7 rfl rfl ?_
    refine tz_iload_n (pc := 8) dX10_boundOf_8 rfl rfl ?_
    refine tz_cV (pc := 9) (u_topM hl n _ _ (by omega) 0 m 400 m0 hb.2 (Or.inl (by omega)) hU hV.1 (Or.inl rfl) hx) vl_X10_54 dX10_boundOf_9 o_145 rfl rfl (Nat.le_of_ble_eq_true rfl) ⟨(Nat.le_of_ble_eq_true rfl), (Nat.le_of_ble_eq_true rfl)⟩ rfl rfl (Nat.le_of_ble_eq_true rfl) (Nat.le_of_ble_eq_true rfl) (fun r9 J9 hq9 => ?_)
    obtain ⟨z9, rfl, hz_9, ⟨u_9, ⟨v_9, w_9⟩, f_9⟩, e_9, t_9⟩ := hq9
    have q_9 := UG.top (UG.rf C hm hU) u_9 f_9
    have l_9 := hV.e e_9 (fun q hq => f_9 q (by simp [zbut]; omega))
    have o_9 : z9 = T x := by rw [t_9, (hV.2.1 x hx).1]
    have x_9 := hC.1 x hx
    rw [← o_9] at x_9
    have ax9 : J9 146 z9 = J9 145 10 := by rw [w_9, u_9.2.1]
    have c9 : CRO m0 T sh lvv ρ J9 := hC.gj (m' := m) hm0 q_9.1.2.2.2.1
    have sh9 : J9 148 z9 = sh z9 := by rw [← (l_9.2.1 z9 x_9.1).2.1]; unfold usV; rw [if_pos ax9]
    refine tz_istore_n (pc := 12) (L2 := [_, _, _]) dX10_boundOf_12 rfl (by decide) rfl ?_
    have hu9 := u_9.at hb.2 v_9 w_9
    have hv9 := v_9.z
    have hl9 := hu9.2.2.2.1.z
    have hs9 := hu9.2.2.1
    refine tz_aload_n (pc := 13) dX10_boundOf_13 rfl rfl ?_
    refine tz_fR (pc := 14) dX10_boundOf_14 fl_X10_18 r_145_3 ?_
    refine tz_iload_n (pc := 17) dX10_boundOf_17 rfl rfl ?_
    refine tz_aL (pc := 18) (z := z9) (v := (J9 148 z9)) dX10_boundOf_18 a_148 rfl (by omega) rfl (fun r_18 => ?_)
    refine tz_iconst (pc := 19) dX10_boundOf_19 ?_
    refine tz_icmp_eq (pc := 20) (tgt := 30) dX10_boundOf_20 (by decide) (by omega) (by decide) (fun h_20 => ?_) (fun h_20 => ?_)
    · refine tz_aload_n (pc := 30) dX10_boundOf_30 rfl rfl ?_
      refine tz_fR (pc := 31) dX10_boundOf_31 fl_X10_21 r_145_4 ?_
      refine tz_iload_n (pc := 34) dX10_boundOf_34 rfl rfl ?_
      refine tz_aL (pc := 35) (z := z9) (v := (J9 149 z9)) dX10_boundOf_35 a_149 rfl (by omega) rfl (fun r_35 => ?_)
      refine tz_iload_n (pc := 36) dX10_boundOf_36 rfl rfl ?_
      refine tz_icmp_ne (pc := 37) (tgt := 44) dX10_boundOf_37 (by decide) (by omega) (by omega) (fun h_37 => ?_) (fun h_37 => ?_)
      · refine tz_aload_n (pc := 44) dX10_boundOf_44 rfl rfl ?_
        refine tz_fR (pc := 45) dX10_boundOf_45 fl_X10_21 r_145_4 ?_
        refine tz_iload_n (pc := 48) dX10_boundOf_48 rfl rfl ?_
        refine tz_aL (pc := 49) (z := z9) (v := (J9 149 z9)) dX10_boundOf_49 a_149 rfl (by omega) rfl (fun r_49 => ?_)
        exact tz_iret (pc := 50) (z := (J9 149 z9)) dX10_boundOf_50 rfl (Nat.le_of_ble_eq_true rfl) (Nat.le_of_ble_eq_true rfl) ⟨Nat.le_refl _, Nat.le_add_right _ _⟩ ⟨_, rfl, (by omega), (by have cr9 := (c9.2 z9 x_9.1 x_9.2.1).1 (by rw [← sh9]; omega); have lv9 := (l_9.2.1 z9 x_9.1).2.2; have l8 : ulV J9 z9 = -1 - J9 7 (J9 149 z9) := (by unfold ulV; rw [if_pos ax9]; unfold tm; rw [if_pos (by omega)]); have e9 : J9 149 z9 = ρ z9 := ct_vu q_9.1.2.1 hl9 (by have := cr9.1.z; omega) (by omega) (by omega); have r9 := x_9.2.2; have p9 := cr9.1.z; exact ⟨m, q_9, by omega, l_9, fun S hS E N => bnx_v hS (E.f (fun c hc => f_9 c (by simp [zbut]; omega))) (N.e e_9) (by have t9 := (E.tm C hm (t := ρ x) (by omega)).1; have q8 := cr9.2.1; rw [← r9, f_9 7 rfl] at q8; omega) (by omega) (by omega)⟩)⟩
      · refine tz_iconst (pc := 40) dX10_boundOf_40 ?_
        refine tz_goto (pc := 41) (tgt := 50) dX10_boundOf_41 (by decide) ?_
        exact tz_iret (pc := 50) (z := (-1)) dX10_boundOf_50 rfl (Nat.le_of_ble_eq_true rfl) (Nat.le_of_ble_eq_true rfl) ⟨Nat.le_refl _, Nat.le_add_right _ _⟩ ⟨_, rfl, (by decide), (by have cr9 := (c9.2 z9 x_9.1 x_9.2.1).1 (by rw [← sh9]; omega); have lv9 := (l_9.2.1 z9 x_9.1).2.2; have l8 : ulV J9 z9 = -1 - J9 7 (J9 149 z9) := (by unfold ulV; rw [if_pos ax9]; unfold tm; rw [if_pos (by omega)]); have e9 : J9 149 z9 = ρ z9 := ct_vu q_9.1.2.1 hl9 (by have := cr9.1.z; omega) (by omega) (by omega); have r9 := x_9.2.2; have p9 := cr9.1.z; exact ⟨m, q_9, by omega, l_9, fun S hS E N => bnx_v hS (E.f (fun c hc => f_9 c (by simp [zbut]; omega))) (N.e e_9) (by have t9 := (E.tm C hm (t := ρ x) (by omega)).1; have q8 := cr9.2.1; rw [← r9, f_9 7 rfl] at q8; omega) (by omega) (by omega)⟩)⟩
    · refine tz_aload_n (pc := 23) dX10_boundOf_23 rfl rfl ?_
      refine tz_iload_n (pc := 24) dX10_boundOf_24 rfl rfl ?_
      refine tz_iconst (pc := 25) dX10_boundOf_25 ?_
      have cr9 := (c9.2 z9 x_9.1 x_9.2.1).2 (by rw [← sh9]; omega)
      refine tz_cV (pc := 26) (u_solvedClass hl n 7 _ _ _ (by omega) (by omega) m0 T sh lvv ρ m q_9.1.2.1 q_9.1.2.2.1 u_9.1 hm0 x_9.1 l_9 c9 ax9 x_9.2.1 (by decide)) vl_X10_102 dX10_boundOf_26 o_145 rfl rfl (Nat.le_of_ble_eq_true rfl) ⟨(Nat.le_of_ble_eq_true rfl), (Nat.le_of_ble_eq_true rfl)⟩ rfl rfl (Nat.le_of_ble_eq_true rfl) (Nat.le_of_ble_eq_true rfl) (fun r9 J_26 hq9 => ?_)
      obtain ⟨z_26, rfl, hz_26, m1, g1, h1, l1, gc1, ex1⟩ := hq9
      exact tz_iret (pc := 29) (z := z_26) dX10_boundOf_29 rfl (Nat.le_of_ble_eq_true rfl) (Nat.le_of_ble_eq_true rfl) ⟨Nat.le_refl _, Nat.le_add_right _ _⟩ ⟨_, rfl, (by omega), ⟨m1, q_9.tr g1, by omega, l1, fun S hS E N => bnx_s g1.1.2.1 h1 (ex1 S hS (E.f (fun c hc => f_9 c (by simp [zbut]; omega))) (N.e e_9)) x_9.2.2 (fun q9 => by rw [x_9.2.2, cr9.2.2] at q9; have c8 := cr9.2.1; rw [q9, f_9 7 rfl] at c8; omega)⟩⟩
  · refine tz_bipush (pc := 4) dX10_boundOf_4 (by decide) ?_
    exact tz_iret (pc := 6) (z := (-3)) dX10_boundOf_6 rfl (Nat.le_of_ble_eq_true rfl) (Nat.le_of_ble_eq_true rfl) ⟨Nat.le_refl _, Nat.le_add_right _ _⟩ ⟨_, rfl, (by decide), (by exfalso; omega)⟩

set_option maxHeartbeats 4000000 in
set_option maxRecDepth 100000 in
theorem u_bindAll {l : Launch} {G : tb_G} (hl : l.stackTraces = false) (n : Nat) (J : zJ) (bs : Int) (hr_bs : -2147483648 ≤ bs ∧ bs < 2147483648) (T sh lvv ρ : Int → Int) (S : zJ) (m : Int) (C : CT J m) (hm : J 6 12 = m) (hU : UI J 0 m) (hL : LI (J 19) m) (h0 : 0 ≤ J 145 10) (hS : S 164 21 = 0) (E : A0 J S) (W : RW (J 19) (S 165)) (hV : SLV m T sh lvv ρ J m) (hC : CRO m T sh lvv ρ J) (N : nNO m J) (hbv : ∀ v, 0 ≤ v → v < 8 → bt bs v → ∃ t, (0 ≤ t ∧ t < m) ∧ J 7 t = -1 - v) : tz_Ok l G M_X10_bindAll 22 0 0 [.ref 145, zi bs, .ref 19, zi 7] n J (zqi (fun z J' => ∃ m', GX [19, 146, 147, 148, 149, 150, 154] J' J m m' ∧ RU J' ∧ LI (J' 19) m' ∧ (z = -3 ∨ z = 1) ∧ ((z = -3 ∧ ¬ (bnO ρ bs S 8) 164 21 = 0) ∨ (0 ≤ z ∧ (bnO ρ bs S 8) 164 21 = 0 ∧ A0 J' (bnO ρ bs S 8) ∧ z = 1 ∧ RW (J' 19) ((bnO ρ bs S 8) 165))))) zN := by
  refine tz_Ok.of hl (by decide +kernel) rfl (tb_c1 rfl) (Nat.le_of_ble_eq_true rfl) ?_
  show tz_At l G M_X10_bindAll (tb_rm 22 0 0) none (tb_ZM G 0 0 (zQ n 0 (zqi (fun z J' => ∃ m', GX [19, 146, 147, 148, 149, 150, 154] J' J m m' ∧ RU J' ∧ LI (J' 19) m' ∧ (z = -3 ∨ z = 1) ∧ ((z = -3 ∧ ¬ (bnO ρ bs S 8) 164 21 = 0) ∨ (0 ≤ z ∧ (bnO ρ bs S 8) 164 21 = 0 ∧ A0 J' (bnO ρ bs S 8) ∧ z = 1 ∧ RW (J' 19) ((bnO ρ bs S 8) 165)))))) (zX n 0 zN)) 0 0 n J 0 [some (.ref 145), some (zi bs), some (.ref 19), some (zi 7), none, none] []
  have hb := C.told
  refine tz_iconst (pc := 0) dX10_bindAll_0 ?_
  refine tz_istore (pc := 1) (L2 := [_, _, _, _, _, _]) dX10_bindAll_1 (by decide) rfl ?_
  have loop3 : ∀ (f9 : Nat) (v : Int) (d5 : Option Value) (J1 : zJ) (m1 : Int), ((8 - v).toNat) < f9 → (0 ≤ v ∧ v ≤ 8) → (GX [19, 146, 147, 148, 149, 150, 154] J1 J m m1) → (UI J1 0 m1) → (LI (J1 19) m1) → (BST m T sh lvv ρ bs S J1 m1 v) → tz_At l G M_X10_bindAll (tb_rm 22 0 0) none (tb_ZM G 0 0 (zQ n 0 (zqi (fun z J' => ∃ m', GX [19, 146, 147, 148, 149, 150, 154] J' J m m' ∧ RU J' ∧ LI (J' 19) m' ∧ (z = -3 ∨ z = 1) ∧ ((z = -3 ∧ ¬ (bnO ρ bs S 8) 164 21 = 0) ∨ (0 ≤ z ∧ (bnO ρ bs S 8) 164 21 = 0 ∧ A0 J' (bnO ρ bs S 8) ∧ z = 1 ∧ RW (J' 19) ((bnO ρ bs S 8) 165)))))) (zX n 0 zN)) 0 0 n J1 3 [some (.ref 145), some (zi bs), some (.ref 19), some (zi 7), some (zi v), d5] [] := by
    intro f9
    induction f9 with
    | zero => intro v d5 J1 m1 hm9; exact absurd hm9 (Nat.not_lt_zero _)
    | succ f9 ih3 =>
      intro v d5 J1 m1 hm3 hv g1 u1 l1 B1
      have b1 := g1.2.1.told
      have e1 := congrFun (g1.2.2.2.2 145 rfl) 10
      refine tz_iload (pc := 3) dX10_bindAll_3 rfl ?_
      refine tz_bipush (pc := 5) dX10_bindAll_5 (by decide) ?_
      refine tz_icmp_ge (pc := 7) (tgt := 62) dX10_bindAll_7 (by decide) (by omega) (by decide) (fun h_7 => ?_) (fun h_7 => ?_)
      · refine tz_iconst (pc := 62) dX10_bindAll_62 ?_
        exact tz_iret (pc := 63) (z := 1) dX10_bindAll_63 rfl (Nat.le_of_ble_eq_true rfl) (Nat.le_of_ble_eq_true rfl) ⟨Nat.le_refl _, Nat.le_add_right _ _⟩ ⟨_, rfl, (by decide), (by have v9 : v.toNat = 8 := (by omega); obtain ⟨f9, a9, w9, _, _⟩ := B1; rw [v9] at f9 a9 w9; exact ⟨m1, g1, u1.rest (by omega), l1, by omega, Or.inr ⟨by decide, f9, a9, rfl, w9⟩⟩)⟩
      · refine tz_iload_n (pc := 10) dX10_bindAll_10 rfl rfl ?_
        refine tz_iload (pc := 11) dX10_bindAll_11 rfl ?_
        refine tz_ishr (pc := 13) (v := zshr bs v) dX10_bindAll_13 rfl ?_
        have r_13 := zshr_rg bs v
        refine tz_iconst (pc := 14) dX10_bindAll_14 ?_
        refine tz_iand (pc := 15) (v := zand (zshr bs v) 1) dX10_bindAll_15 rfl ?_
        refine tz_if_ne (pc := 16) (tgt := 23) dX10_bindAll_16 (by decide) (zand_rg _ _) (fun h_16 => ?_) (fun h_16 => ?_)
        · refine tz_aload_n (pc := 23) dX10_bindAll_23 rfl rfl ?_
          refine tz_aload_n (pc := 24) dX10_bindAll_24 rfl rfl ?_
          refine tz_fR (pc := 25) dX10_bindAll_25 fl_X10_46 r_145_0 ?_
          refine tz_iload (pc := 28) dX10_bindAll_28 rfl ?_
          have bt9 : bt bs v := bt_01.resolve_left (by omega)
          obtain ⟨t9, th9, te9⟩ := hbv v (by omega) (by omega) bt9
          have lm9 := g1.1
          refine tz_cV (pc := 30) (c_varTerm hl n _ _ (by omega) m1 g1.2.1 g1.2.2.1 (by omega)) vl_X10_96 dX10_bindAll_30 o_6 rfl rfl (Nat.le_of_ble_eq_true rfl) ⟨(Nat.le_of_ble_eq_true rfl), (Nat.le_of_ble_eq_true rfl)⟩ rfl rfl (Nat.le_of_ble_eq_true rfl) (Nat.le_of_ble_eq_true rfl) (fun r9 J_30 hq9 => ?_)
          obtain ⟨z_30, rfl, hz_30, p_30⟩ := hq9
          obtain ⟨m4, g4, h9⟩ := GR.made p_30 b1.2.1
          obtain ⟨zt9, A9, of9⟩ := bst_v B1.2.1 B1.1 g1.2.1 g1.2.2.1 (by omega) (t := t9) (by omega) (by rw [(g1.2.2.2.1.1 t9 th9.1 th9.2).1]; exact te9) p_30
          have bi9 := (B1.is g4 lm9 u1 A9).resolve_right (by omega)
          have lm8 := g4.1
          have cr9 := hC.gj (m' := m) (Int.le_refl _) ((g4.2.2.2.1.cut lm9).tr g1.2.2.2.1)
          have v79 : J_30 7 z_30 < 0 := by rw [zt9, (g4.2.2.2.1.1 t9 (by omega) (by omega)).1, (g1.2.2.2.1.1 t9 th9.1 th9.2).1, te9]; omega
          refine tz_cV (pc := 33) (u_boundOf hl n _ _ (by omega) m T sh lvv ρ m4 g4.2.1 g4.2.2.1 (UG.made0 u1 g4) (by omega) (by rw [zt9]; exact ⟨by omega, by omega⟩) v79 bi9.1 cr9) vl_X10_99 dX10_bindAll_33 o_145 rfl rfl (Nat.le_of_ble_eq_true rfl) ⟨(Nat.le_of_ble_eq_true rfl), (Nat.le_of_ble_eq_true rfl)⟩ rfl rfl (Nat.le_of_ble_eq_true rfl) (Nat.le_of_ble_eq_true rfl) (fun r9 J_33 hq9 => ?_)
          obtain ⟨z_33, rfl, hz_33, m5, h4, h5, V5, x5⟩ := hq9
          have g5 := GX.b (g1.tr g4.x) h4
          have r19 : J_33 19 = J1 19 := by rw [h4.1.2.2.2.2 19 rfl, g4.2.2.2.2 19 rfl]
          have l5 : LI (J_33 19) m5 := by rw [r19]; exact l1.mono (by have := g4.1; have := h4.1.1; omega)
          have b5 := g5.2.1.told
          have b9 := B1.yes (m3 := m5) (by omega) l1 bt9 (of9.trans zt9.symm) (by omega) (x5 _ (by rw [zup_nc (by decide)]; exact B1.1) bi9.2.2 bi9.2.1) r19 V5
          refine tz_istore (pc := 36) (L2 := [_, _, _, _, _, _]) dX10_bindAll_36 (by decide) rfl ?_
          refine tz_iload (pc := 38) dX10_bindAll_38 rfl ?_
          refine tz_bipush (pc := 40) dX10_bindAll_40 (by decide) ?_
          refine tz_icmp_ne (pc := 42) (tgt := 48) dX10_bindAll_42 (by decide) (by omega) (by decide) (fun h_42 => ?_) (fun h_42 => ?_)
          · refine tz_aload_n (pc := 48) dX10_bindAll_48 rfl rfl ?_
            refine tz_iload_n (pc := 49) dX10_bindAll_49 rfl rfl ?_
            refine tz_iload (pc := 50) dX10_bindAll_50 rfl ?_
            refine tz_iadd (pc := 52) (v := 7 + v) dX10_bindAll_52 rfl ?_
            refine tz_iload (pc := 53) dX10_bindAll_53 rfl ?_
            refine tz_aS (pc := 55) (z := (7 + v)) dX10_bindAll_55 a_19 rfl (by omega) (by omega) ?_
            refine tz_iinc (pc := 56) (z := v + 1) (L2 := [_, _, _, _, _, _]) dX10_bindAll_56 rfl (by omega) rfl ?_
            refine tz_goto (pc := 59) (tgt := 3) dX10_bindAll_59 (by decide) ?_
            exact ih3 (v + 1) _ _ m5 (by omega) (by omega) (GX.off g5 rfl (zOf.up rfl zOf.rf)) (h4.2.1.of (Int.le_refl _) rfl (fun c hc => zup_nc (by omega))) (LI.bind l5 (by omega) (by omega)) (b9.2 (by omega))
          · refine tz_bipush (pc := 45) dX10_bindAll_45 (by decide) ?_
            exact tz_iret (pc := 47) (z := (-3)) dX10_bindAll_47 rfl (Nat.le_of_ble_eq_true rfl) (Nat.le_of_ble_eq_true rfl) ⟨Nat.le_refl _, Nat.le_add_right _ _⟩ ⟨_, rfl, (by decide), ⟨m5, g5, h4.2.1.rest (by have := congrFun (g5.2.2.2.2 145 rfl) 10; omega), l5, Or.inl rfl, Or.inl ⟨rfl, b9.1 (by omega)⟩⟩⟩
        · refine tz_iconst (pc := 19) dX10_bindAll_19 ?_
          refine tz_goto (pc := 20) (tgt := 36) dX10_bindAll_20 (by decide) ?_
          refine tz_istore (pc := 36) (L2 := [_, _, _, _, _, _]) dX10_bindAll_36 (by decide) rfl ?_
          refine tz_iload (pc := 38) dX10_bindAll_38 rfl ?_
          refine tz_bipush (pc := 40) dX10_bindAll_40 (by decide) ?_
          refine tz_icmp_neT (pc := 42) (tgt := 48) (by decide) dX10_bindAll_42 (by decide) (by decide) (by decide) ?_
          refine tz_aload_n (pc := 48) dX10_bindAll_48 rfl rfl ?_
          refine tz_iload_n (pc := 49) dX10_bindAll_49 rfl rfl ?_
          refine tz_iload (pc := 50) dX10_bindAll_50 rfl ?_
          refine tz_iadd (pc := 52) (v := 7 + v) dX10_bindAll_52 rfl ?_
          refine tz_iload (pc := 53) dX10_bindAll_53 rfl ?_
          refine tz_aS (pc := 55) (z := (7 + v)) dX10_bindAll_55 a_19 rfl (by omega) (by decide) ?_
          refine tz_iinc (pc := 56) (z := v + 1) (L2 := [_, _, _, _, _, _]) dX10_bindAll_56 rfl (by omega) rfl ?_
          refine tz_goto (pc := 59) (tgt := 3) dX10_bindAll_59 (by decide) ?_
          exact ih3 (v + 1) _ _ m1 (by omega) (by omega) (GX.off g1 rfl (zOf.up rfl zOf.rf)) (u1.of (Int.le_refl _) rfl (fun c hc => zup_nc (by omega))) (LI.bind l1 (by omega) (by omega)) (B1.no (by omega) l1 (by unfold bt; omega))
  exact loop3 _ 0 none _ m (Nat.lt_succ_self _) (by omega) (GX.rf C hm) hU hL ⟨hS, E, W, hV, N⟩

