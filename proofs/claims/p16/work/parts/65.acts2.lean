theorem CQ.k {J' J1 J : zJ} {m : Int} (k : CI J' m ∧ zOf fkp J' J1) (e1 : J1 145 10 ≤ J 145 10 + 24000) (e0 : J1 0 = J 0) (f : zOf fou J1 J) : CQ J' J := ⟨⟨m, k.1⟩, by rw [k.2 145 rfl]; exact e1, (k.2 0 rfl).trans e0, (k.2.mono (fun c hc => by have := of_decide_eq_true hc; exact decide_eq_true (by omega))).tr f⟩
theorem AC.led {J' J : zJ} {m0 m : Int} (h : AC J m0 m) (f : zOf (zbut [19]) J' J) (hL : LI (J' 19) m) : AC J' m0 m := h.gx (X := [19]) ((GX.rf h.1.1.1 h.1.1.2.1).off rfl f) rfl hL (h.1.2.1.of (f 145 rfl) (f 146 rfl))
theorem LI.got {J : zJ} {m : Int} (h : LI (J 19) m) (hg : gOK (J 140) m) : LI (zcp J 140 19 0 7 8 19) m := by
  obtain ⟨h1, h2, h3, h4, h5⟩ := h
  have e : ∀ k, (k < 7 ∨ 15 ≤ k) → zcp J 140 19 0 7 8 19 k = J 19 k := fun k hk => zcp_out (by omega)
  unfold LI
  rw [e 1 (by omega), e 4 (by omega), e 5 (by omega), e 6 (by omega)]
  refine ⟨h1, fun v a b => ?_, fun i a b => ?_, fun i a b => ?_, fun i a b => ?_⟩
  · rw [zcp_in (by omega), show (0 : Int) + (7 + v - 7) = v by omega]
    exact hg v a b
  · rw [e (15 + i) (by omega), e (23 + i) (by omega)]
    exact h3 i a b
  · rw [e (31 + i) (by omega)]
    exact h4 i a b
  · rw [e (43 + i) (by omega), e (52 + i) (by omega)]
    exact h5 i a b
set_option maxHeartbeats 4000000 in
set_option maxRecDepth 100000 in
theorem c_undo4 {l : Launch} {G : tb_G} (hl : l.stackTraces = false) (n : Nat) (J : zJ)    (h6 : J 5 6 = 0) : tz_Ok l G M_X0_undoLast 4 0 0 [.ref 5] n J (zqi (fun z J' => -1 = z ∧ J = J')) zN := by
  refine tz_Ok.of hl (by decide +kernel) rfl (tb_c1 rfl) (Nat.le_of_ble_eq_true rfl) ?_
  show tz_At l G M_X0_undoLast (tb_rm 4 0 0) none (tb_ZM G 0 0 (zQ n 0 (zqi (fun z J' => -1 = z ∧ J = J'))) (zX n 0 zN)) 0 0 n J 0 [some (.ref 5)] []
  refine tz_aload_n (pc := 0) dX0_undoLast_0 rfl rfl ?_
  refine tz_fI (pc := 1) (kz := 6) (v := 0) dX0_undoLast_1 fl_X0_29 i_5_6 rfl h6 (fun _ => ?_)
  refine tz_if_neF (pc := 4) (tgt := 9) (by decide) dX0_undoLast_4 (by decide) (by decide) ?_
  refine tz_iconst (pc := 7) dX0_undoLast_7 ?_
  exact tz_iret (pc := 8) (z := (-1)) dX0_undoLast_8 rfl (Nat.le_of_ble_eq_true rfl) (Nat.le_of_ble_eq_true rfl) ⟨Nat.le_refl _, Nat.le_add_right _ _⟩ ⟨_, rfl, (by decide), ⟨rfl, rfl⟩⟩

set_option maxHeartbeats 4000000 in
set_option maxRecDepth 100000 in
theorem c_lostBy {l : Launch} {G : tb_G} (hl : l.stackTraces = false) (n : Nat) (J : zJ) (s : Int) (y : Int) (hr_s : -2147483648 ≤ s ∧ s < 2147483648) (hr_y : -2147483648 ≤ y ∧ y < 2147483648) (m : Int) (C : CT J m) (hm : J 6 12 = m) (hL : LI (J 19) m) (hy : 0 ≤ y ∧ y ≤ 20) : tz_Ok l G M_X11_lostBy 12 0 0 [.ref 0, zi s, zi y] n J (zqi (fun z J' => ∃ m', GX [19, 140, 141, 158, 159, 160, 161] J' J m m' ∧ LI (J' 19) m')) zN := by
  refine tz_Ok.of hl (by decide +kernel) rfl (tb_c1 rfl) (Nat.le_of_ble_eq_true rfl) ?_
  show tz_At l G M_X11_lostBy (tb_rm 12 0 0) none (tb_ZM G 0 0 (zQ n 0 (zqi (fun z J' => ∃ m', GX [19, 140, 141, 158, 159, 160, 161] J' J m m' ∧ LI (J' 19) m'))) (zX n 0 zN)) 0 0 n J 0 [some (.ref 0), some (zi s), some (zi y), none, none, none, none] []
  refine tz_aload_n (pc := 0) dX11_lostBy_0 rfl rfl ?_
  refine tz_fR (pc := 1) dX11_lostBy_1 fl_X11_62 r_0_7 ?_
  refine tz_iload_n (pc := 4) dX11_lostBy_4 rfl rfl ?_
  refine tz_pI (pc := 5) (kz := 5) dX11_lostBy_5 fl_X11_369 i_141_5 rfl rfl (by omega) ?_
  refine tz_aload_n (pc := 8) dX11_lostBy_8 rfl rfl ?_
  refine tz_fR (pc := 9) dX11_lostBy_9 fl_X11_90 r_0_10 ?_
  refine tz_cV (pc := 12) (c_allow hl n _) vl_X11_344 dX11_lostBy_12 o_158 rfl rfl (Nat.le_of_ble_eq_true rfl) ⟨(Nat.le_of_ble_eq_true rfl), (Nat.le_of_ble_eq_true rfl)⟩ rfl rfl (Nat.le_of_ble_eq_true rfl) (Nat.le_of_ble_eq_true rfl) (fun r9 Jc hq9 => ?_)
  obtain ⟨rfl, hj2⟩ := hq9
  have g0 : GX [19, 140, 141, 158, 159, 160, 161] Jc J m m := (GX.rf C hm).off rfl (by rw [← hj2]; exact zOf.up rfl (zOf.up rfl zOf.rf))
  have l0 : LI (Jc 19) m := by rw [← hj2]; exact hL
  refine tz_iconst (pc := 15) dX11_lostBy_15 ?_
  refine tz_istore_n (pc := 16) (L2 := [_, _, _, _, _, _, _]) dX11_lostBy_16 rfl (by decide) rfl ?_
  refine tz_iconst (pc := 17) dX11_lostBy_17 ?_
  refine tz_istore (pc := 18) (L2 := [_, _, _, _, _, _, _]) dX11_lostBy_18 (by decide) rfl ?_
  have loop20 : ∀ (f9 : Nat) (q : Int) (k : Int) (d5 : Option Value) (d6 : Option Value) (J1 : zJ) (m1 : Int), ((20 - k).toNat) < f9 → ((0 ≤ k ∧ k ≤ y) ∧ (-3300 * k ≤ q ∧ q ≤ 3300 * k)) → (GX [19, 140, 141, 158, 159, 160, 161] J1 J m m1) → (LI (J1 19) m1) → tz_At l G M_X11_lostBy (tb_rm 12 0 0) none (tb_ZM G 0 0 (zQ n 0 (zqi (fun z J' => ∃ m', GX [19, 140, 141, 158, 159, 160, 161] J' J m m' ∧ LI (J' 19) m'))) (zX n 0 zN)) 0 0 n J1 20 [some (.ref 0), some (zi s), some (zi y), some (zi q), some (zi k), d5, d6] [] := by
    intro f9
    induction f9 with
    | zero => intro q k d5 d6 J1 m1 hm9; exact absurd hm9 (Nat.not_lt_zero _)
    | succ f9 ih20 =>
      intro q k d5 d6 J1 m1 hm20 hk g1 l1
      refine tz_iload (pc := 20) dX11_lostBy_20 rfl ?_
      refine tz_iload_n (pc := 22) dX11_lostBy_22 rfl rfl ?_
      refine tz_icmp_ge (pc := 23) (tgt := 100) dX11_lostBy_23 (by decide) (by omega) (by omega) (fun h_23 => ?_) (fun h_23 => ?_)
      · refine tz_iload_n (pc := 100) dX11_lostBy_100 rfl rfl ?_
        exact tz_iret (pc := 101) (z := q) dX11_lostBy_101 rfl (Nat.le_of_ble_eq_true rfl) (Nat.le_of_ble_eq_true rfl) ⟨Nat.le_refl _, Nat.le_add_right _ _⟩ ⟨_, rfl, (by omega), (by first | exact ⟨m3, q3, l3⟩ | exact ⟨m2, q2, l2⟩ | exact ⟨m1, g1, l1⟩)⟩
      · refine tz_aload_n (pc := 26) dX11_lostBy_26 rfl rfl ?_
        refine tz_fR (pc := 27) dX11_lostBy_27 fl_X11_62 r_0_7 ?_
        refine tz_iconst (pc := 30) dX11_lostBy_30 ?_
        refine tz_cV (pc := 31) (c_drawn hl n _ _ (by decide) m1 g1.2.1 g1.2.2.1) vl_X11_372 dX11_lostBy_31 o_141 rfl rfl (Nat.le_of_ble_eq_true rfl) ⟨(Nat.le_of_ble_eq_true rfl), (Nat.le_of_ble_eq_true rfl)⟩ rfl rfl (Nat.le_of_ble_eq_true rfl) (Nat.le_of_ble_eq_true rfl) (fun r9 J2 hq9 => ?_)
        obtain ⟨zd, rfl, hz_31, m2, g2, h2⟩ := hq9
        have q2 : GX [19, 140, 141, 158, 159, 160, 161] J2 J m m2 := g1.tr (g2.mono (fun c hc => by simp at hc ⊢; omega))
        have l2 : LI (J2 19) m2 := by rw [g2.2.2.2.2 19 rfl]; exact l1.mono g2.1
        have t2 := g2.2.1.told
        refine tz_istore (pc := 34) (L2 := [_, _, _, _, _, _, _]) dX11_lostBy_34 (by decide) rfl ?_
        refine tz_iload (pc := 36) dX11_lostBy_36 rfl ?_
        refine tz_if_ge (pc := 38) (tgt := 46) dX11_lostBy_38 (by decide) (by omega) (fun h_38 => ?_) (fun h_38 => ?_)
        · refine tz_aload_n (pc := 46) dX11_lostBy_46 rfl rfl ?_
          refine tz_fR (pc := 47) dX11_lostBy_47 fl_X11_90 r_0_10 ?_
          refine tz_iload (pc := 50) dX11_lostBy_50 rfl ?_
          refine tz_cV (pc := 52) (c_normalOf hl n _ _ (by omega) m2 g2.2.1 g2.2.2.1 l2 (by omega)) vl_X11_347 dX11_lostBy_52 o_158 rfl rfl (Nat.le_of_ble_eq_true rfl) ⟨(Nat.le_of_ble_eq_true rfl), (Nat.le_of_ble_eq_true rfl)⟩ rfl rfl (Nat.le_of_ble_eq_true rfl) (Nat.le_of_ble_eq_true rfl) (fun r9 J3 hq9 => ?_)
          obtain ⟨zn, rfl, hz_52, m3, g3, l3, h3⟩ := hq9
          have q3 : GX [19, 140, 141, 158, 159, 160, 161] J3 J m m3 := q2.tr (g3.mono (fun c hc => by simp at hc ⊢; omega))
          have t3 := g3.2.1.told
          have e3 := g3.1
          refine tz_istore (pc := 55) (L2 := [_, _, _, _, _, _, _]) dX11_lostBy_55 (by decide) rfl ?_
          refine tz_iload (pc := 57) dX11_lostBy_57 rfl ?_
          refine tz_if_ge (pc := 59) (tgt := 64) dX11_lostBy_59 (by decide) (by omega) (fun h_59 => ?_) (fun h_59 => ?_)
          · refine tz_iload_n (pc := 64) dX11_lostBy_64 rfl rfl ?_
            refine tz_aload_n (pc := 65) dX11_lostBy_65 rfl rfl ?_
            refine tz_fR (pc := 66) dX11_lostBy_66 fl_X11_29 r_0_1 ?_
            refine tz_fR (pc := 69) dX11_lostBy_69 fl_X11_49 r_5_0 ?_
            refine tz_fR (pc := 72) dX11_lostBy_72 fl_X11_234 r_6_5 ?_
            refine tz_iload (pc := 75) dX11_lostBy_75 rfl ?_
            have w1 := g3.2.1.nums (t := zd) (by omega) (by omega)
            refine tz_aL (pc := 77) (z := zd) (v := (J3 11 zd)) dX11_lostBy_77 a_11 rfl (by omega) rfl (fun r_77 => ?_)
            refine tz_aload_n (pc := 78) dX11_lostBy_78 rfl rfl ?_
            refine tz_fR (pc := 79) dX11_lostBy_79 fl_X11_29 r_0_1 ?_
            refine tz_fR (pc := 82) dX11_lostBy_82 fl_X11_49 r_5_0 ?_
            refine tz_fR (pc := 85) dX11_lostBy_85 fl_X11_234 r_6_5 ?_
            refine tz_iload (pc := 88) dX11_lostBy_88 rfl ?_
            have w2 := g3.2.1.nums (t := zn) (by omega) (by omega)
            refine tz_aL (pc := 90) (z := zn) (v := (J3 11 zn)) dX11_lostBy_90 a_11 rfl (by omega) rfl (fun r_90 => ?_)
            refine tz_isub (pc := 91) (v := (J3 11 zd) - (J3 11 zn)) dX11_lostBy_91 rfl ?_
            refine tz_iadd (pc := 92) (v := q + ((J3 11 zd) - (J3 11 zn))) dX11_lostBy_92 rfl ?_
            refine tz_istore_n (pc := 93) (L2 := [_, _, _, _, _, _, _]) dX11_lostBy_93 rfl (by decide) rfl ?_
            refine tz_iinc (pc := 94) (z := k + 1) (L2 := [_, _, _, _, _, _, _]) dX11_lostBy_94 rfl (by omega) rfl ?_
            refine tz_goto (pc := 97) (tgt := 20) dX11_lostBy_97 (by decide) ?_
            exact ih20 _ (k + 1) _ _ _ m3 (by omega) (by omega) q3 l3
          · refine tz_iconst (pc := 62) dX11_lostBy_62 ?_
            exact tz_iret (pc := 63) (z := (-1)) dX11_lostBy_63 rfl (Nat.le_of_ble_eq_true rfl) (Nat.le_of_ble_eq_true rfl) ⟨Nat.le_refl _, Nat.le_add_right _ _⟩ ⟨_, rfl, (by decide), (by first | exact ⟨m3, q3, l3⟩ | exact ⟨m2, q2, l2⟩ | exact ⟨m1, g1, l1⟩)⟩
        · refine tz_iload (pc := 41) dX11_lostBy_41 rfl ?_
          refine tz_goto (pc := 43) (tgt := 55) dX11_lostBy_43 (by decide) ?_
          refine tz_istore (pc := 55) (L2 := [_, _, _, _, _, _, _]) dX11_lostBy_55 (by decide) rfl ?_
          refine tz_iload (pc := 57) dX11_lostBy_57 rfl ?_
          refine tz_if_geF (pc := 59) (tgt := 64) (by omega) dX11_lostBy_59 (by decide) (by omega) ?_
          refine tz_iconst (pc := 62) dX11_lostBy_62 ?_
          exact tz_iret (pc := 63) (z := (-1)) dX11_lostBy_63 rfl (Nat.le_of_ble_eq_true rfl) (Nat.le_of_ble_eq_true rfl) ⟨Nat.le_refl _, Nat.le_add_right _ _⟩ ⟨_, rfl, (by decide), (by first | exact ⟨m3, q3, l3⟩ | exact ⟨m2, q2, l2⟩ | exact ⟨m1, g1, l1⟩)⟩
  exact loop20 _ 0 0 none none _ m (Nat.lt_succ_self _) (by omega) g0 l0

set_option maxHeartbeats 4000000 in
set_option maxRecDepth 100000 in
theorem c_yAns {l : Launch} {G : tb_G} (hl : l.stackTraces = false) (n : Nat) (J : zJ) (x : Int) (u : Int) (hr_x : -2147483648 ≤ x ∧ x < 2147483648) (hr_u : -2147483648 ≤ u ∧ u < 2147483648)   : tz_Ok l G M_X11_yearsAnswer 0 0 0 [.ref 0, zi x, zi u] n J (zqi (fun z J' => J = J')) zN := by
  refine tz_Ok.of hl (by decide +kernel) rfl (tb_c1 rfl) (Nat.le_of_ble_eq_true rfl) ?_
  show tz_At l G M_X11_yearsAnswer (tb_rm 0 0 0) none (tb_ZM G 0 0 (zQ n 0 (zqi (fun z J' => J = J'))) (zX n 0 zN)) 0 0 n J 0 [some (.ref 0), some (zi x), some (zi u), none] []
  refine tz_iload_n (pc := 0) dX11_yearsAnswer_0 rfl rfl ?_
  refine tz_if_ne (pc := 1) (tgt := 6) dX11_yearsAnswer_1 (by decide) (by omega) (fun h_1 => ?_) (fun h_1 => ?_)
  · refine tz_iload_n (pc := 6) dX11_yearsAnswer_6 rfl rfl ?_
    refine tz_iconst (pc := 7) dX11_yearsAnswer_7 ?_
    refine tz_icmp_ne (pc := 8) (tgt := 15) dX11_yearsAnswer_8 (by decide) (by omega) (by decide) (fun h_8 => ?_) (fun h_8 => ?_)
    · refine tz_iconst (pc := 15) dX11_yearsAnswer_15 ?_
      refine tz_istore_n (pc := 16) (L2 := [_, _, _, _]) dX11_yearsAnswer_16 rfl (by decide) rfl ?_
      refine tz_aload_n (pc := 17) dX11_yearsAnswer_17 rfl rfl ?_
      refine tz_fR (pc := 18) dX11_yearsAnswer_18 fl_X11_29 r_0_1 ?_
      refine tz_fR (pc := 21) dX11_yearsAnswer_21 fl_X11_156 r_5_1 ?_
      refine tz_fR (pc := 24) dX11_yearsAnswer_24 fl_X11_167 r_18_0 ?_
      refine tz_iload_n (pc := 27) dX11_yearsAnswer_27 rfl rfl ?_
      refine tz_aL (pc := 28) (z := 3) (v := (J 19 3)) dX11_yearsAnswer_28 a_19 rfl (by decide) rfl (fun r_28 => ?_)
      refine tz_aload_n (pc := 29) dX11_yearsAnswer_29 rfl rfl ?_
      refine tz_fR (pc := 30) dX11_yearsAnswer_30 fl_X11_29 r_0_1 ?_
      refine tz_fR (pc := 33) dX11_yearsAnswer_33 fl_X11_391 r_5_3 ?_
      refine tz_iload_n (pc := 36) dX11_yearsAnswer_36 rfl rfl ?_
      refine tz_aL (pc := 37) (z := 3) (v := (J 61 3)) dX11_yearsAnswer_37 a_61 rfl (by decide) rfl (fun r_37 => ?_)
      refine tz_isub (pc := 38) (v := (J 19 3) - (J 61 3)) dX11_yearsAnswer_38 rfl ?_
      refine tz_tw ?_
      have rw_39 := zw_rg ((J 19 3) - (J 61 3))
      exact tz_iret (pc := 39) (z := (zw ((J 19 3) - (J 61 3)))) dX11_yearsAnswer_39 rfl (Nat.le_of_ble_eq_true rfl) (Nat.le_of_ble_eq_true rfl) ⟨Nat.le_refl _, Nat.le_add_right _ _⟩ ⟨_, rfl, (zw_rg _), rfl⟩
    · refine tz_iconst (pc := 11) dX11_yearsAnswer_11 ?_
      refine tz_goto (pc := 12) (tgt := 16) dX11_yearsAnswer_12 (by decide) ?_
      refine tz_istore_n (pc := 16) (L2 := [_, _, _, _]) dX11_yearsAnswer_16 rfl (by decide) rfl ?_
      refine tz_aload_n (pc := 17) dX11_yearsAnswer_17 rfl rfl ?_
      refine tz_fR (pc := 18) dX11_yearsAnswer_18 fl_X11_29 r_0_1 ?_
      refine tz_fR (pc := 21) dX11_yearsAnswer_21 fl_X11_156 r_5_1 ?_
      refine tz_fR (pc := 24) dX11_yearsAnswer_24 fl_X11_167 r_18_0 ?_
      refine tz_iload_n (pc := 27) dX11_yearsAnswer_27 rfl rfl ?_
      refine tz_aL (pc := 28) (z := 2) (v := (J 19 2)) dX11_yearsAnswer_28 a_19 rfl (by decide) rfl (fun r_28 => ?_)
      refine tz_aload_n (pc := 29) dX11_yearsAnswer_29 rfl rfl ?_
      refine tz_fR (pc := 30) dX11_yearsAnswer_30 fl_X11_29 r_0_1 ?_
      refine tz_fR (pc := 33) dX11_yearsAnswer_33 fl_X11_391 r_5_3 ?_
      refine tz_iload_n (pc := 36) dX11_yearsAnswer_36 rfl rfl ?_
      refine tz_aL (pc := 37) (z := 2) (v := (J 61 2)) dX11_yearsAnswer_37 a_61 rfl (by decide) rfl (fun r_37 => ?_)
      refine tz_isub (pc := 38) (v := (J 19 2) - (J 61 2)) dX11_yearsAnswer_38 rfl ?_
      refine tz_tw ?_
      have rw_39 := zw_rg ((J 19 2) - (J 61 2))
      exact tz_iret (pc := 39) (z := (zw ((J 19 2) - (J 61 2)))) dX11_yearsAnswer_39 rfl (Nat.le_of_ble_eq_true rfl) (Nat.le_of_ble_eq_true rfl) ⟨Nat.le_refl _, Nat.le_add_right _ _⟩ ⟨_, rfl, (zw_rg _), rfl⟩
  · refine tz_iload_n (pc := 4) dX11_yearsAnswer_4 rfl rfl ?_
    exact tz_iret (pc := 5) (z := x) dX11_yearsAnswer_5 rfl (Nat.le_of_ble_eq_true rfl) (Nat.le_of_ble_eq_true rfl) ⟨Nat.le_refl _, Nat.le_add_right _ _⟩ ⟨_, rfl, (by omega), rfl⟩
