/-! ===== years of the class: what it answers ===== -/
set_option maxHeartbeats 4000000 in
set_option maxRecDepth 100000 in
theorem e_lostBy {l : Launch} {G : tb_G} (hl : l.stackTraces = false) (n : Nat) (J : zJ) (s : Int) (y : Int) (hr_s : -2147483648 ≤ s ∧ s < 2147483648) (hr_y : -2147483648 ≤ y ∧ y < 2147483648) (m : Int) (S : zJ) (C : CT J m) (hm : J 6 12 = m) (hL : LI (J 19) m) (hy : 0 ≤ y ∧ y ≤ 20) (E : A0 J S) (W : RW (J 19) (S 165)) (h21 : S 164 21 = 0) (hr9 : S 165 40 ≤ S 165 39) : tz_Ok l G M_X11_lostBy 12 0 0 [.ref 0, zi s, zi y] n J (zqi (fun z J' => ∃ m', GX [19, 140, 141, 158, 159, 160, 161] J' J m m' ∧ LI (J' 19) m' ∧ YCE J' z (yrO S s y.toNat))) zN := by
  refine tz_Ok.of hl (by decide +kernel) rfl (tb_c1 rfl) (Nat.le_of_ble_eq_true rfl) ?_
  show tz_At l G M_X11_lostBy (tb_rm 12 0 0) none (tb_ZM G 0 0 (zQ n 0 (zqi (fun z J' => ∃ m', GX [19, 140, 141, 158, 159, 160, 161] J' J m m' ∧ LI (J' 19) m' ∧ YCE J' z (yrO S s y.toNat)))) (zX n 0 zN)) 0 0 n J 0 [some (.ref 0), some (zi s), some (zi y), none, none, none, none] []
  refine tz_aload_n (pc := 0) dX11_lostBy_0 rfl rfl ?_
  refine tz_fR (pc := 1) dX11_lostBy_1 fl_X11_62 r_0_7 ?_
  refine tz_iload_n (pc := 4) dX11_lostBy_4 rfl rfl ?_
  refine tz_pI (pc := 5) (kz := 5) dX11_lostBy_5 fl_X11_369 i_141_5 rfl rfl (by omega) ?_
  refine tz_aload_n (pc := 8) dX11_lostBy_8 rfl rfl ?_
  refine tz_fR (pc := 9) dX11_lostBy_9 fl_X11_90 r_0_10 ?_
  refine tz_cV (pc := 12) (c_allow hl n _) vl_X11_344 dX11_lostBy_12 o_158 rfl rfl (Nat.le_of_ble_eq_true rfl) ⟨(Nat.le_of_ble_eq_true rfl), (Nat.le_of_ble_eq_true rfl)⟩ rfl rfl (Nat.le_of_ble_eq_true rfl) (Nat.le_of_ble_eq_true rfl) (fun r9 Jc hq9 => ?_)
  obtain ⟨rfl, hj2⟩ := hq9
  have g0 : GX [19, 140, 141, 158, 159, 160, 161] Jc J m m := (GX.rf C hm).off rfl (by rw [← hj2]; exact zOf.up rfl (zOf.up rfl zOf.rf))
  have l0 : LI (Jc 19) m := by rw [← hj2]; exact hL
  have y0 := yc_0 E W h21 hr9 hj2
  refine tz_iconst (pc := 15) dX11_lostBy_15 ?_
  refine tz_istore_n (pc := 16) (L2 := [_, _, _, _, _, _, _]) dX11_lostBy_16 rfl (by decide) rfl ?_
  refine tz_iconst (pc := 17) dX11_lostBy_17 ?_
  refine tz_istore (pc := 18) (L2 := [_, _, _, _, _, _, _]) dX11_lostBy_18 (by decide) rfl ?_
  have loop20 : ∀ (f9 : Nat) (q : Int) (k : Int) (d5 : Option Value) (d6 : Option Value) (J1 : zJ) (m1 : Int), ((20 - k).toNat) < f9 → ((0 ≤ k ∧ k ≤ y) ∧ (-3300 * k ≤ q ∧ q ≤ 3300 * k)) → (GX [19, 140, 141, 158, 159, 160, 161] J1 J m m1) → (LI (J1 19) m1) → (YCC J1 q (yrO S s k.toNat)) → tz_At l G M_X11_lostBy (tb_rm 12 0 0) none (tb_ZM G 0 0 (zQ n 0 (zqi (fun z J' => ∃ m', GX [19, 140, 141, 158, 159, 160, 161] J' J m m' ∧ LI (J' 19) m' ∧ YCE J' z (yrO S s y.toNat)))) (zX n 0 zN)) 0 0 n J1 20 [some (.ref 0), some (zi s), some (zi y), some (zi q), some (zi k), d5, d6] [] := by
    intro f9
    induction f9 with
    | zero => intro q k d5 d6 J1 m1 hm9; exact absurd hm9 (Nat.not_lt_zero _)
    | succ f9 ih20 =>
      intro q k d5 d6 J1 m1 hm20 hk g1 l1 yc
      refine tz_iload (pc := 20) dX11_lostBy_20 rfl ?_
      refine tz_iload_n (pc := 22) dX11_lostBy_22 rfl rfl ?_
      refine tz_icmp_ge (pc := 23) (tgt := 100) dX11_lostBy_23 (by decide) (by omega) (by omega) (fun h_23 => ?_) (fun h_23 => ?_)
      · refine tz_iload_n (pc := 100) dX11_lostBy_100 rfl rfl ?_
        exact tz_iret (pc := 101) (z := q) dX11_lostBy_101 rfl (Nat.le_of_ble_eq_true rfl) (Nat.le_of_ble_eq_true rfl) ⟨Nat.le_refl _, Nat.le_add_right _ _⟩ ⟨_, rfl, (by omega), (by first | exact ⟨m3, q3, l3, yc_x (by omega) (s3.1 (by omega))⟩ | exact ⟨m2, q2, l2, yc_x (by omega) (yc_f yc l1 g2 x2 (by omega))⟩ | exact ⟨m1, g1, l1, yc_e (by omega) yc⟩)⟩
      · refine tz_aload_n (pc := 26) dX11_lostBy_26 rfl rfl ?_
        refine tz_fR (pc := 27) dX11_lostBy_27 fl_X11_62 r_0_7 ?_
        refine tz_iconst (pc := 30) dX11_lostBy_30 ?_
        refine tz_cV (pc := 31) (x_drawn hl n _ _ (by decide) m1 g1.2.1 g1.2.2.1 (by decide)) vl_X11_372 dX11_lostBy_31 o_141 rfl rfl (Nat.le_of_ble_eq_true rfl) ⟨(Nat.le_of_ble_eq_true rfl), (Nat.le_of_ble_eq_true rfl)⟩ rfl rfl (Nat.le_of_ble_eq_true rfl) (Nat.le_of_ble_eq_true rfl) (fun r9 J2 hq9 => ?_)
        obtain ⟨zd, rfl, hz_31, m2, g2, h2, x2⟩ := hq9
        have q2 : GX [19, 140, 141, 158, 159, 160, 161] J2 J m m2 := g1.tr (g2.mono (fun c hc => by simp at hc ⊢; omega))
        have l2 : LI (J2 19) m2 := by rw [g2.2.2.2.2 19 rfl]; exact l1.mono g2.1
        have t2 := g2.2.1.told
        refine tz_istore (pc := 34) (L2 := [_, _, _, _, _, _, _]) dX11_lostBy_34 (by decide) rfl ?_
        refine tz_iload (pc := 36) dX11_lostBy_36 rfl ?_
        refine tz_if_ge (pc := 38) (tgt := 46) dX11_lostBy_38 (by decide) (by omega) (fun h_38 => ?_) (fun h_38 => ?_)
        · refine tz_aload_n (pc := 46) dX11_lostBy_46 rfl rfl ?_
          refine tz_fR (pc := 47) dX11_lostBy_47 fl_X11_90 r_0_10 ?_
          refine tz_iload (pc := 50) dX11_lostBy_50 rfl ?_
          refine tz_cV (pc := 52) (x_cnormalH hl n _ _ (by omega) m2 (yrD (yrO S s k.toNat)).1.1 (yrO S s k.toNat).1.2 g2.2.1 g2.2.2.1 l2 (by omega)) vl_X11_347 dX11_lostBy_52 o_158 rfl rfl (Nat.le_of_ble_eq_true rfl) ⟨(Nat.le_of_ble_eq_true rfl), (Nat.le_of_ble_eq_true rfl)⟩ rfl rfl (Nat.le_of_ble_eq_true rfl) (Nat.le_of_ble_eq_true rfl) (fun r9 J3 hq9 => ?_)
          obtain ⟨zn, rfl, hz_52, m3, g3, l3, h3, x3⟩ := hq9
          have q3 : GX [19, 140, 141, 158, 159, 160, 161] J3 J m m3 := q2.tr (g3.mono (fun c hc => by simp at hc ⊢; omega))
          have t3 := g3.2.1.told
          have e3 := g3.1
          have s3 := yc_n yc l1 g2 x2 (by omega) g3 x3 (by omega)
          refine tz_istore (pc := 55) (L2 := [_, _, _, _, _, _, _]) dX11_lostBy_55 (by decide) rfl ?_
          refine tz_iload (pc := 57) dX11_lostBy_57 rfl ?_
          refine tz_if_ge (pc := 59) (tgt := 64) dX11_lostBy_59 (by decide) (by omega) (fun h_59 => ?_) (fun h_59 => ?_)
          · refine tz_iload_n (pc := 64) dX11_lostBy_64 rfl rfl ?_
            refine tz_aload_n (pc := 65) dX11_lostBy_65 rfl rfl ?_
            refine tz_fR (pc := 66) dX11_lostBy_66 fl_X11_29 r_0_1 ?_
            refine tz_fR (pc := 69) dX11_lostBy_69 fl_X11_49 r_5_0 ?_
            refine tz_fR (pc := 72) dX11_lostBy_72 fl_X11_234 r_6_5 ?_
            refine tz_iload (pc := 75) dX11_lostBy_75 rfl ?_
            have w1 := g3.2.1.nums (t := zd) (by omega) (by omega)
            refine tz_aL (pc := 77) (z := zd) (v := (J3 11 zd)) dX11_lostBy_77 a_11 rfl (by omega) rfl (fun r_77 => ?_)
            refine tz_aload_n (pc := 78) dX11_lostBy_78 rfl rfl ?_
            refine tz_fR (pc := 79) dX11_lostBy_79 fl_X11_29 r_0_1 ?_
            refine tz_fR (pc := 82) dX11_lostBy_82 fl_X11_49 r_5_0 ?_
            refine tz_fR (pc := 85) dX11_lostBy_85 fl_X11_234 r_6_5 ?_
            refine tz_iload (pc := 88) dX11_lostBy_88 rfl ?_
            have w2 := g3.2.1.nums (t := zn) (by omega) (by omega)
            refine tz_aL (pc := 90) (z := zn) (v := (J3 11 zn)) dX11_lostBy_90 a_11 rfl (by omega) rfl (fun r_90 => ?_)
            refine tz_isub (pc := 91) (v := (J3 11 zd) - (J3 11 zn)) dX11_lostBy_91 rfl ?_
            refine tz_iadd (pc := 92) (v := q + ((J3 11 zd) - (J3 11 zn))) dX11_lostBy_92 rfl ?_
            refine tz_istore_n (pc := 93) (L2 := [_, _, _, _, _, _, _]) dX11_lostBy_93 rfl (by decide) rfl ?_
            refine tz_iinc (pc := 94) (z := k + 1) (L2 := [_, _, _, _, _, _, _]) dX11_lostBy_94 rfl (by omega) rfl ?_
            refine tz_goto (pc := 97) (tgt := 20) dX11_lostBy_97 (by decide) ?_
            exact ih20 _ (k + 1) _ _ _ m3 (by omega) (by omega) q3 l3 (by rw [yr_s (by omega)]; exact s3.2 (by omega))
          · refine tz_iconst (pc := 62) dX11_lostBy_62 ?_
            exact tz_iret (pc := 63) (z := (-1)) dX11_lostBy_63 rfl (Nat.le_of_ble_eq_true rfl) (Nat.le_of_ble_eq_true rfl) ⟨Nat.le_refl _, Nat.le_add_right _ _⟩ ⟨_, rfl, (by decide), (by first | exact ⟨m3, q3, l3, yc_x (by omega) (s3.1 (by omega))⟩ | exact ⟨m2, q2, l2, yc_x (by omega) (yc_f yc l1 g2 x2 (by omega))⟩ | exact ⟨m1, g1, l1, yc_e (by omega) yc⟩)⟩
        · refine tz_iload (pc := 41) dX11_lostBy_41 rfl ?_
          refine tz_goto (pc := 43) (tgt := 55) dX11_lostBy_43 (by decide) ?_
          refine tz_istore (pc := 55) (L2 := [_, _, _, _, _, _, _]) dX11_lostBy_55 (by decide) rfl ?_
          refine tz_iload (pc := 57) dX11_lostBy_57 rfl ?_
          refine tz_if_geF (pc := 59) (tgt := 64) (by omega) dX11_lostBy_59 (by decide) (by omega) ?_
          refine tz_iconst (pc := 62) dX11_lostBy_62 ?_
          exact tz_iret (pc := 63) (z := (-1)) dX11_lostBy_63 rfl (Nat.le_of_ble_eq_true rfl) (Nat.le_of_ble_eq_true rfl) ⟨Nat.le_refl _, Nat.le_add_right _ _⟩ ⟨_, rfl, (by decide), (by first | exact ⟨m3, q3, l3, yc_x (by omega) (s3.1 (by omega))⟩ | exact ⟨m2, q2, l2, yc_x (by omega) (yc_f yc l1 g2 x2 (by omega))⟩ | exact ⟨m1, g1, l1, yc_e (by omega) yc⟩)⟩
  exact loop20 _ 0 0 none none _ m (Nat.lt_succ_self _) (by omega) g0 l0 y0

set_option maxHeartbeats 4000000 in
set_option maxRecDepth 100000 in
theorem e_yAns {l : Launch} {G : tb_G} (hl : l.stackTraces = false) (n : Nat) (J : zJ) (x : Int) (u : Int) (hr_x : -2147483648 ≤ x ∧ x < 2147483648) (hr_u : -2147483648 ≤ u ∧ u < 2147483648)   : tz_Ok l G M_X11_yearsAnswer 0 0 0 [.ref 0, zi x, zi u] n J (zqi (fun z J' => J = J' ∧ z = if u = 0 then x else if u = 1 then zw (J 19 2 - J 61 2) else zw (J 19 3 - J 61 3))) zN := by
  refine tz_Ok.of hl (by decide +kernel) rfl (tb_c1 rfl) (Nat.le_of_ble_eq_true rfl) ?_
  show tz_At l G M_X11_yearsAnswer (tb_rm 0 0 0) none (tb_ZM G 0 0 (zQ n 0 (zqi (fun z J' => J = J' ∧ z = if u = 0 then x else if u = 1 then zw (J 19 2 - J 61 2) else zw (J 19 3 - J 61 3)))) (zX n 0 zN)) 0 0 n J 0 [some (.ref 0), some (zi x), some (zi u), none] []
  refine tz_iload_n (pc := 0) dX11_yearsAnswer_0 rfl rfl ?_
  refine tz_if_ne (pc := 1) (tgt := 6) dX11_yearsAnswer_1 (by decide) (by omega) (fun h_1 => ?_) (fun h_1 => ?_)
  · refine tz_iload_n (pc := 6) dX11_yearsAnswer_6 rfl rfl ?_
    refine tz_iconst (pc := 7) dX11_yearsAnswer_7 ?_
    refine tz_icmp_ne (pc := 8) (tgt := 15) dX11_yearsAnswer_8 (by decide) (by omega) (by decide) (fun h_8 => ?_) (fun h_8 => ?_)
    · refine tz_iconst (pc := 15) dX11_yearsAnswer_15 ?_
      refine tz_istore_n (pc := 16) (L2 := [_, _, _, _]) dX11_yearsAnswer_16 rfl (by decide) rfl ?_
      refine tz_aload_n (pc := 17) dX11_yearsAnswer_17 rfl rfl ?_
      refine tz_fR (pc := 18) dX11_yearsAnswer_18 fl_X11_29 r_0_1 ?_
      refine tz_fR (pc := 21) dX11_yearsAnswer_21 fl_X11_156 r_5_1 ?_
      refine tz_fR (pc := 24) dX11_yearsAnswer_24 fl_X11_167 r_18_0 ?_
      refine tz_iload_n (pc := 27) dX11_yearsAnswer_27 rfl rfl ?_
      refine tz_aL (pc := 28) (z := 3) (v := (J 19 3)) dX11_yearsAnswer_28 a_19 rfl (by decide) rfl (fun r_28 => ?_)
      refine tz_aload_n (pc := 29) dX11_yearsAnswer_29 rfl rfl ?_
      refine tz_fR (pc := 30) dX11_yearsAnswer_30 fl_X11_29 r_0_1 ?_
      refine tz_fR (pc := 33) dX11_yearsAnswer_33 fl_X11_391 r_5_3 ?_
      refine tz_iload_n (pc := 36) dX11_yearsAnswer_36 rfl rfl ?_
      refine tz_aL (pc := 37) (z := 3) (v := (J 61 3)) dX11_yearsAnswer_37 a_61 rfl (by decide) rfl (fun r_37 => ?_)
      refine tz_isub (pc := 38) (v := (J 19 3) - (J 61 3)) dX11_yearsAnswer_38 rfl ?_
      refine tz_tw ?_
      have rw_39 := zw_rg ((J 19 3) - (J 61 3))
      exact tz_iret (pc := 39) (z := (zw ((J 19 3) - (J 61 3)))) dX11_yearsAnswer_39 rfl (Nat.le_of_ble_eq_true rfl) (Nat.le_of_ble_eq_true rfl) ⟨Nat.le_refl _, Nat.le_add_right _ _⟩ ⟨_, rfl, (zw_rg _), ⟨rfl, by first | exact (if_pos (by omega)).symm | exact ((if_neg (by omega)).trans (if_pos (by omega))).symm | exact ((if_neg (by omega)).trans (if_neg (by omega))).symm⟩⟩
    · refine tz_iconst (pc := 11) dX11_yearsAnswer_11 ?_
      refine tz_goto (pc := 12) (tgt := 16) dX11_yearsAnswer_12 (by decide) ?_
      refine tz_istore_n (pc := 16) (L2 := [_, _, _, _]) dX11_yearsAnswer_16 rfl (by decide) rfl ?_
      refine tz_aload_n (pc := 17) dX11_yearsAnswer_17 rfl rfl ?_
      refine tz_fR (pc := 18) dX11_yearsAnswer_18 fl_X11_29 r_0_1 ?_
      refine tz_fR (pc := 21) dX11_yearsAnswer_21 fl_X11_156 r_5_1 ?_
      refine tz_fR (pc := 24) dX11_yearsAnswer_24 fl_X11_167 r_18_0 ?_
      refine tz_iload_n (pc := 27) dX11_yearsAnswer_27 rfl rfl ?_
      refine tz_aL (pc := 28) (z := 2) (v := (J 19 2)) dX11_yearsAnswer_28 a_19 rfl (by decide) rfl (fun r_28 => ?_)
      refine tz_aload_n (pc := 29) dX11_yearsAnswer_29 rfl rfl ?_
      refine tz_fR (pc := 30) dX11_yearsAnswer_30 fl_X11_29 r_0_1 ?_
      refine tz_fR (pc := 33) dX11_yearsAnswer_33 fl_X11_391 r_5_3 ?_
      refine tz_iload_n (pc := 36) dX11_yearsAnswer_36 rfl rfl ?_
      refine tz_aL (pc := 37) (z := 2) (v := (J 61 2)) dX11_yearsAnswer_37 a_61 rfl (by decide) rfl (fun r_37 => ?_)
      refine tz_isub (pc := 38) (v := (J 19 2) - (J 61 2)) dX11_yearsAnswer_38 rfl ?_
      refine tz_tw ?_
      have rw_39 := zw_rg ((J 19 2) - (J 61 2))
      exact tz_iret (pc := 39) (z := (zw ((J 19 2) - (J 61 2)))) dX11_yearsAnswer_39 rfl (Nat.le_of_ble_eq_true rfl) (Nat.le_of_ble_eq_true rfl) ⟨Nat.le_refl _, Nat.le_add_right _ _⟩ ⟨_, rfl, (zw_rg _), ⟨rfl, by first | exact (if_pos (by omega)).symm | exact ((if_neg (by omega)).trans (if_pos (by omega))).symm | exact ((if_neg (by omega)).trans (if_neg (by omega))).symm⟩⟩
  · refine tz_iload_n (pc := 4) dX11_yearsAnswer_4 rfl rfl ?_
    exact tz_iret (pc := 5) (z := x) dX11_yearsAnswer_5 rfl (Nat.le_of_ble_eq_true rfl) (Nat.le_of_ble_eq_true rfl) ⟨Nat.le_refl _, Nat.le_add_right _ _⟩ ⟨_, rfl, (by omega), ⟨rfl, by first | exact (if_pos (by omega)).symm | exact ((if_neg (by omega)).trans (if_pos (by omega))).symm | exact ((if_neg (by omega)).trans (if_neg (by omega))).symm⟩⟩

set_option maxHeartbeats 4000000 in
set_option maxRecDepth 100000 in
theorem e_years {l : Launch} {G : tb_G} (hl : l.stackTraces = false) (n : Nat) (J : zJ) (s : Int) (y : Int) (u : Int) (hr_s : -2147483648 ≤ s ∧ s < 2147483648) (hr_y : -2147483648 ≤ y ∧ y < 2147483648) (hr_u : -2147483648 ≤ u ∧ u < 2147483648) (m : Int) (S : zJ) (pn : Int) (RR : Int → Int → Int) (hI : CI J m) (h9 : J 145 10 < 1000000000) (cc : CAL J S pn RR) (h21 : S 164 21 = 0) (hr9 : S 165 40 ≤ S 165 39) (hW : ∀ k : Nat, (yrO S s k).2.2.2 = 0 → 0 ≤ (yrO S s k).2.2.1) : tz_Ok l G M_X11_years 13 1 6 [.ref 0, zi s, zi y, zi u] n J (zqi (fun z J' => CQ J' J ∧ CAL J' S pn RR ∧ ((0 ≤ u ∧ u ≤ 2) ∧ (0 ≤ y ∧ y ≤ 20)) ∧ (¬ (yrO S s y.toNat).2.2.2 = 2 → z = yrA S (yrO S s y.toNat) u))) (fun E J' => (E = "java/util/NoSuchElementException" ∧ J = J' ∧ ¬ (0 ≤ u ∧ u ≤ 2)) ∨ (E = "java/lang/IllegalArgumentException" ∧ J = J' ∧ (0 ≤ u ∧ u ≤ 2) ∧ ¬ (0 ≤ y ∧ y ≤ 20))) := by
  refine tz_Ok.of hl (by decide +kernel) rfl (tb_c1 rfl) (Nat.le_of_ble_eq_true rfl) ?_
  show tz_At l G M_X11_years (tb_rm 13 1 6) none (tb_ZM G 1 6 (zQ n 1 (zqi (fun z J' => CQ J' J ∧ CAL J' S pn RR ∧ ((0 ≤ u ∧ u ≤ 2) ∧ (0 ≤ y ∧ y ≤ 20)) ∧ (¬ (yrO S s y.toNat).2.2.2 = 2 → z = yrA S (yrO S s y.toNat) u)))) (zX n 1 (fun E J' => (E = "java/util/NoSuchElementException" ∧ J = J' ∧ ¬ (0 ≤ u ∧ u ≤ 2)) ∨ (E = "java/lang/IllegalArgumentException" ∧ J = J' ∧ (0 ≤ u ∧ u ≤ 2) ∧ ¬ (0 ≤ y ∧ y ≤ 20))))) 0 0 n J 0 [some (.ref 0), some (zi s), some (zi y), some (zi u), none, none] []
  have hC := hI.1.1.1
  have hm := hI.1.1.2.1
  have hL := hI.1.1.2.2
  have hb := hC.told
  have wb := cc.2.1.b hL
  refine tz_iload_n (pc := 0) dX11_years_0 rfl rfl ?_
  refine tz_if_lt (pc := 1) (tgt := 9) dX11_years_1 (by decide) (by omega) (fun h_1 => ?_) (fun h_1 => ?_)
  · exact tz_throwNW (pc := 9) (text := "no such question of the years") th_X11_188_192 (by decide +kernel) rfl dX11_years_9 dX11_years_12 dX11_years_13 dX11_years_16 dX11_years_19 (Nat.le_of_ble_eq_true rfl) (Nat.le_of_ble_eq_true rfl) (Nat.le_of_ble_eq_true rfl) (Nat.le_of_ble_eq_true rfl) (Nat.le_of_ble_eq_true rfl) (Nat.le_of_ble_eq_true rfl) ⟨Nat.le_refl _, Nat.le_add_right _ _⟩ (by first | exact Or.inl ⟨rfl, rfl, by omega⟩ | exact Or.inr ⟨rfl, rfl, by omega, by omega⟩)
  · refine tz_iload_n (pc := 4) dX11_years_4 rfl rfl ?_
    refine tz_iconst (pc := 5) dX11_years_5 ?_
    refine tz_icmp_le (pc := 6) (tgt := 20) dX11_years_6 (by decide) (by omega) (by decide) (fun h_6 => ?_) (fun h_6 => ?_)
    · refine tz_iload_n (pc := 20) dX11_years_20 rfl rfl ?_
      refine tz_if_lt (pc := 21) (tgt := 30) dX11_years_21 (by decide) (by omega) (fun h_21 => ?_) (fun h_21 => ?_)
      · exact tz_throwW (pc := 30) (text := "not so many years") th_X11_122_126 (by decide +kernel) rfl dX11_years_30 dX11_years_33 dX11_years_34 dX11_years_37 dX11_years_40 (Nat.le_of_ble_eq_true rfl) (Nat.le_of_ble_eq_true rfl) (Nat.le_of_ble_eq_true rfl) (Nat.le_of_ble_eq_true rfl) (Nat.le_of_ble_eq_true rfl) (Nat.le_of_ble_eq_true rfl) ⟨Nat.le_refl _, Nat.le_add_right _ _⟩ (by first | exact Or.inl ⟨rfl, rfl, by omega⟩ | exact Or.inr ⟨rfl, rfl, by omega, by omega⟩)
      · refine tz_iload_n (pc := 24) dX11_years_24 rfl rfl ?_
        refine tz_bipush (pc := 25) dX11_years_25 (by decide) ?_
        refine tz_icmp_le (pc := 27) (tgt := 41) dX11_years_27 (by decide) (by omega) (by decide) (fun h_27 => ?_) (fun h_27 => ?_)
        · refine tz_aload_n (pc := 41) dX11_years_41 rfl rfl ?_
          refine tz_fR (pc := 42) dX11_years_42 fl_X11_29 r_0_1 ?_
          refine tz_cV (pc := 45) (c_begin hl n _) vl_X11_287 dX11_years_45 o_5 rfl rfl (Nat.le_of_ble_eq_true rfl) ⟨(Nat.le_of_ble_eq_true rfl), (Nat.le_of_ble_eq_true rfl)⟩ rfl rfl (Nat.le_of_ble_eq_true rfl) (Nat.le_of_ble_eq_true rfl) (fun r9 Jb hq9 => ?_)
          obtain ⟨rfl, hj⟩ := hq9
          have hb9 : zOf (zbut [19, 61]) Jb J := by rw [← hj]; exact zOf.cp rfl (zOf.up rfl zOf.rf)
          have hb19 : ∀ k, ¬ k = 0 → Jb 19 k = J 19 k := fun k hk => by rw [← hj, zcp_nc (by decide), zup_ne hk]
          have a0 : AC Jb m m := by rw [← hj]; exact hI.begin
          have hb6 := a0.1.1.2.1
          obtain ⟨cb, kb, lb⟩ := cc.begin hI hj
          refine tz_aload_n (pc := 48) dX11_years_48 rfl rfl ?_
          refine tz_iload_n (pc := 49) dX11_years_49 rfl rfl ?_
          refine tz_iload_n (pc := 50) dX11_years_50 rfl rfl ?_
          refine tz_cV (pc := 51) (e_lostBy hl n _ _ _ (by omega) (by omega) m S a0.1.1.1 a0.1.1.2.1 a0.1.1.2.2 (by omega) cb.1 cb.2.1 h21 hr9) vl_X11_382 dX11_years_51 o_0 rfl rfl (Nat.le_of_ble_eq_true rfl) ⟨(Nat.le_of_ble_eq_true rfl), (Nat.le_of_ble_eq_true rfl)⟩ rfl rfl (Nat.le_of_ble_eq_true rfl) (Nat.le_of_ble_eq_true rfl) (fun r9 J1 hq9 => ?_)
          obtain ⟨zl, rfl, hz_51, m1, g1, l1, xe9⟩ := hq9
          have a1 := a0.gx g1 rfl l1 (a0.1.2.1.of (g1.2.2.2.2 145 rfl) (g1.2.2.2.2 146 rfl))
          have k1 : ∀ q, 0 < q → q < 61 → J1 61 q = J 19 q := fun q a b => by rw [g1.2.2.2.2 61 rfl, ← hj]; exact (zcp_in (by omega)).trans ((congrArg (zup J 19 0 (J 6 12) 19) (by omega)).trans (zup_ne (by omega)))
          have k2 : J1 61 2 = S 165 61 := (k1 2 (by decide) (by decide)).trans cc.2.1.1.2.1
          have k3 : J1 61 3 = S 165 62 := (k1 3 (by decide) (by decide)).trans cc.2.1.1.2.2
          refine tz_istore (pc := 54) (L2 := [_, _, _, _, _, _]) dX11_years_54 (by decide) rfl ?_
          refine tz_iload (pc := 56) dX11_years_56 rfl ?_
          refine tz_iconst (pc := 58) dX11_years_58 ?_
          refine tz_icmp_ne (pc := 59) (tgt := 66) dX11_years_59 (by decide) (by omega) (by decide) (fun h_59 => ?_) (fun h_59 => ?_)
          · refine tz_aload_n (pc := 66) dX11_years_66 rfl rfl ?_
            refine tz_iload (pc := 67) dX11_years_67 rfl ?_
            refine tz_iload_n (pc := 69) dX11_years_69 rfl rfl ?_
            refine tz_cV (pc := 70) (e_yAns hl n _ _ _ (by omega) (by omega)) vl_X11_385 dX11_years_70 o_0 rfl rfl (Nat.le_of_ble_eq_true rfl) ⟨(Nat.le_of_ble_eq_true rfl), (Nat.le_of_ble_eq_true rfl)⟩ rfl rfl (Nat.le_of_ble_eq_true rfl) (Nat.le_of_ble_eq_true rfl) (fun r9 J_70 hq9 => ?_)
            obtain ⟨z_70, rfl, hz_70, rfl, ya9⟩ := hq9
            refine tz_istore (pc := 73) (L2 := [_, _, _, _, _, _]) dX11_years_73 (by decide) rfl ?_
            refine tz_aload_n (pc := 75) dX11_years_75 rfl rfl ?_
            refine tz_fR (pc := 76) dX11_years_76 fl_X11_29 r_0_1 ?_
            refine tz_cV (pc := 79) (c_rollBack hl n _ m1 a1.1.1.1 a1.1.1.2.1 (by rw [a1.2.2.1.2]; exact a1.2.2.2)) vl_X11_388 dX11_years_79 o_5 rfl rfl (Nat.le_of_ble_eq_true rfl) ⟨(Nat.le_of_ble_eq_true rfl), (Nat.le_of_ble_eq_true rfl)⟩ rfl rfl (Nat.le_of_ble_eq_true rfl) (Nat.le_of_ble_eq_true rfl) (fun r9 J_79 hq9 => ?_)
            obtain ⟨rfl, b1, b2, b3, b4⟩ := hq9
            have hc := a1.back b1 b2 b3 b4
            refine tz_iload (pc := 82) dX11_years_82 rfl ?_
            exact tz_iret (pc := 84) (z := z_70) dX11_years_84 rfl (Nat.le_of_ble_eq_true rfl) (Nat.le_of_ble_eq_true rfl) ⟨Nat.le_refl _, Nat.le_add_right _ _⟩ ⟨_, rfl, (by omega), ⟨(SQ.cq ⟨⟨m, hc⟩, b1 145 rfl, b1 0 rfl, (b1.mono (fun c hc => by have := of_decide_eq_true hc; simp [zbut]; omega))⟩ (by rw [g1.2.2.2.2 145 rfl, hb9 145 rfl]; omega) ((g1.2.2.2.2 0 rfl).trans (hb9 0 rfl)) ((g1.2.2.2.2.mono (fun c hc => by have := of_decide_eq_true hc; simp [zbut]; omega)).tr (hb9.mono (fun c hc => by have := of_decide_eq_true hc; simp [zbut]; omega)))), (act_fail (t := -3) (z := -3) cc hI hj g1 rfl (by decide) ⟨rfl, Or.inr ⟨by decide, b1.mono (zbut_sub (fun c hc => by simp at hc ⊢; omega)), b2, b3⟩⟩).2, ⟨by omega, by omega⟩, yc_ans xe9 k2 k3 (hW _) (by first | exact Or.inr ⟨by omega, ya9⟩ | exact Or.inl ⟨by omega, rfl⟩)⟩⟩
          · refine tz_iconst (pc := 62) dX11_years_62 ?_
            refine tz_goto (pc := 63) (tgt := 73) dX11_years_63 (by decide) ?_
            refine tz_istore (pc := 73) (L2 := [_, _, _, _, _, _]) dX11_years_73 (by decide) rfl ?_
            refine tz_aload_n (pc := 75) dX11_years_75 rfl rfl ?_
            refine tz_fR (pc := 76) dX11_years_76 fl_X11_29 r_0_1 ?_
            refine tz_cV (pc := 79) (c_rollBack hl n _ m1 a1.1.1.1 a1.1.1.2.1 (by rw [a1.2.2.1.2]; exact a1.2.2.2)) vl_X11_388 dX11_years_79 o_5 rfl rfl (Nat.le_of_ble_eq_true rfl) ⟨(Nat.le_of_ble_eq_true rfl), (Nat.le_of_ble_eq_true rfl)⟩ rfl rfl (Nat.le_of_ble_eq_true rfl) (Nat.le_of_ble_eq_true rfl) (fun r9 J_79 hq9 => ?_)
            obtain ⟨rfl, b1, b2, b3, b4⟩ := hq9
            have hc := a1.back b1 b2 b3 b4
            refine tz_iload (pc := 82) dX11_years_82 rfl ?_
            exact tz_iret (pc := 84) (z := (-1)) dX11_years_84 rfl (Nat.le_of_ble_eq_true rfl) (Nat.le_of_ble_eq_true rfl) ⟨Nat.le_refl _, Nat.le_add_right _ _⟩ ⟨_, rfl, (by decide), ⟨(SQ.cq ⟨⟨m, hc⟩, b1 145 rfl, b1 0 rfl, (b1.mono (fun c hc => by have := of_decide_eq_true hc; simp [zbut]; omega))⟩ (by rw [g1.2.2.2.2 145 rfl, hb9 145 rfl]; omega) ((g1.2.2.2.2 0 rfl).trans (hb9 0 rfl)) ((g1.2.2.2.2.mono (fun c hc => by have := of_decide_eq_true hc; simp [zbut]; omega)).tr (hb9.mono (fun c hc => by have := of_decide_eq_true hc; simp [zbut]; omega)))), (act_fail (t := -3) (z := -3) cc hI hj g1 rfl (by decide) ⟨rfl, Or.inr ⟨by decide, b1.mono (zbut_sub (fun c hc => by simp at hc ⊢; omega)), b2, b3⟩⟩).2, ⟨by omega, by omega⟩, yc_ans xe9 k2 k3 (hW _) (by first | exact Or.inr ⟨by omega, ya9⟩ | exact Or.inl ⟨by omega, rfl⟩)⟩⟩
        · exact tz_throwW (pc := 30) (text := "not so many years") th_X11_122_126 (by decide +kernel) rfl dX11_years_30 dX11_years_33 dX11_years_34 dX11_years_37 dX11_years_40 (Nat.le_of_ble_eq_true rfl) (Nat.le_of_ble_eq_true rfl) (Nat.le_of_ble_eq_true rfl) (Nat.le_of_ble_eq_true rfl) (Nat.le_of_ble_eq_true rfl) (Nat.le_of_ble_eq_true rfl) ⟨Nat.le_refl _, Nat.le_add_right _ _⟩ (by first | exact Or.inl ⟨rfl, rfl, by omega⟩ | exact Or.inr ⟨rfl, rfl, by omega, by omega⟩)
    · exact tz_throwNW (pc := 9) (text := "no such question of the years") th_X11_188_192 (by decide +kernel) rfl dX11_years_9 dX11_years_12 dX11_years_13 dX11_years_16 dX11_years_19 (Nat.le_of_ble_eq_true rfl) (Nat.le_of_ble_eq_true rfl) (Nat.le_of_ble_eq_true rfl) (Nat.le_of_ble_eq_true rfl) (Nat.le_of_ble_eq_true rfl) (Nat.le_of_ble_eq_true rfl) ⟨Nat.le_refl _, Nat.le_add_right _ _⟩ (by first | exact Or.inl ⟨rfl, rfl, by omega⟩ | exact Or.inr ⟨rfl, rfl, by omega, by omega⟩)

/-! ===== years of the reference: what it answers ===== -/
set_option maxHeartbeats 4000000 in
set_option maxRecDepth 100000 in
theorem m_right4 {l : Launch} {G : tb_G} (hl : l.stackTraces = false) (n : Nat) (J : zJ) (x : Int) (y : Int) (hr_x : -2147483648 ≤ x ∧ x < 2147483648) (hr_y : -2147483648 ≤ y ∧ y < 2147483648)  (hy : ¬ y = 0) : tz_Ok l G M_X12_right 0 0 0 [.ref 164, zi x, zi y] n J (zqi (fun z J' => (zOf (zbut [164]) J' J ∧ ∀ k, ¬ k = 8 → J' 164 k = J 164 k) ∧ (z = 0 ∨ z = 1) ∧ (z = 1 → J = J' ∧ J 164 8 = 0 ∧ (¬ x = 0 ∨ y = 0)) ∧ (J 164 8 = 0 → (z = 0 → J' 164 8 = y ∧ x = 0) ∧ (z = 1 → J' 164 8 = 0 ∧ ¬ x = 0)))) zN := by
  refine tz_Ok.of hl (by decide +kernel) rfl (tb_c1 rfl) (Nat.le_of_ble_eq_true rfl) ?_
  show tz_At l G M_X12_right (tb_rm 0 0 0) none (tb_ZM G 0 0 (zQ n 0 (zqi (fun z J' => (zOf (zbut [164]) J' J ∧ ∀ k, ¬ k = 8 → J' 164 k = J 164 k) ∧ (z = 0 ∨ z = 1) ∧ (z = 1 → J = J' ∧ J 164 8 = 0 ∧ (¬ x = 0 ∨ y = 0)) ∧ (J 164 8 = 0 → (z = 0 → J' 164 8 = y ∧ x = 0) ∧ (z = 1 → J' 164 8 = 0 ∧ ¬ x = 0))))) (zX n 0 zN)) 0 0 n J 0 [some (.ref 164), some (zi x), some (zi y)] []
  refine tz_aload_n (pc := 0) dX12_right_0 rfl rfl ?_
  refine tz_fI (pc := 1) (kz := 8) (v := (J 164 8)) dX12_right_1 fl_X12_68 i_164_8 rfl rfl (fun r_1 => ?_)
  refine tz_if_ne (pc := 4) (tgt := 16) dX12_right_4 (by decide) (by omega) (fun h_4 => ?_) (fun h_4 => ?_)
  · refine tz_aload_n (pc := 16) dX12_right_16 rfl rfl ?_
    refine tz_fI (pc := 17) (kz := 8) (v := (J 164 8)) dX12_right_17 fl_X12_68 i_164_8 rfl rfl (fun r_17 => ?_)
    refine tz_if_ne (pc := 20) (tgt := 27) dX12_right_20 (by decide) (by omega) (fun h_20 => ?_) (fun h_20 => ?_)
    · refine tz_iconst (pc := 27) dX12_right_27 ?_
      exact tz_zret (pc := 28) (z := 0) dX12_right_28 rfl (Or.inl rfl) (Nat.le_of_ble_eq_true rfl) (Nat.le_of_ble_eq_true rfl) ⟨Nat.le_refl _, Nat.le_add_right _ _⟩ ⟨_, rfl, (by decide), ⟨⟨zOf.rf, fun _ _ => rfl⟩, by omega, fun q9 => ⟨rfl, by omega, by omega⟩, fun w9 => ⟨fun q9 => by omega, fun q9 => by omega⟩⟩⟩
    · refine tz_iconst (pc := 23) dX12_right_23 ?_
      refine tz_goto (pc := 24) (tgt := 28) dX12_right_24 (by decide) ?_
      exact tz_zret (pc := 28) (z := 1) dX12_right_28 rfl (Or.inr rfl) (Nat.le_of_ble_eq_true rfl) (Nat.le_of_ble_eq_true rfl) ⟨Nat.le_refl _, Nat.le_add_right _ _⟩ ⟨_, rfl, (by decide), ⟨⟨zOf.rf, fun _ _ => rfl⟩, by omega, fun q9 => ⟨rfl, by omega, by omega⟩, fun w9 => ⟨fun q9 => absurd q9 (by omega), fun q9 => ⟨by omega, by omega⟩⟩⟩⟩
  · refine tz_iload_n (pc := 7) dX12_right_7 rfl rfl ?_
    refine tz_if_ne (pc := 8) (tgt := 16) dX12_right_8 (by decide) (by omega) (fun h_8 => ?_) (fun h_8 => ?_)
    · refine tz_aload_n (pc := 16) dX12_right_16 rfl rfl ?_
      refine tz_fI (pc := 17) (kz := 8) (v := (J 164 8)) dX12_right_17 fl_X12_68 i_164_8 rfl rfl (fun r_17 => ?_)
      refine tz_if_ne (pc := 20) (tgt := 27) dX12_right_20 (by decide) (by omega) (fun h_20 => ?_) (fun h_20 => ?_)
      · refine tz_iconst (pc := 27) dX12_right_27 ?_
        exact tz_zret (pc := 28) (z := 0) dX12_right_28 rfl (Or.inl rfl) (Nat.le_of_ble_eq_true rfl) (Nat.le_of_ble_eq_true rfl) ⟨Nat.le_refl _, Nat.le_add_right _ _⟩ ⟨_, rfl, (by decide), ⟨⟨zOf.rf, fun _ _ => rfl⟩, by omega, fun q9 => ⟨rfl, by omega, by omega⟩, fun w9 => ⟨fun q9 => by omega, fun q9 => by omega⟩⟩⟩
      · refine tz_iconst (pc := 23) dX12_right_23 ?_
        refine tz_goto (pc := 24) (tgt := 28) dX12_right_24 (by decide) ?_
        exact tz_zret (pc := 28) (z := 1) dX12_right_28 rfl (Or.inr rfl) (Nat.le_of_ble_eq_true rfl) (Nat.le_of_ble_eq_true rfl) ⟨Nat.le_refl _, Nat.le_add_right _ _⟩ ⟨_, rfl, (by decide), ⟨⟨zOf.rf, fun _ _ => rfl⟩, by omega, fun q9 => ⟨rfl, by omega, by omega⟩, fun w9 => ⟨fun q9 => absurd q9 (by omega), fun q9 => ⟨by omega, by omega⟩⟩⟩⟩
    · refine tz_aload_n (pc := 11) dX12_right_11 rfl rfl ?_
      refine tz_iload_n (pc := 12) dX12_right_12 rfl rfl ?_
      refine tz_pI (pc := 13) (kz := 8) dX12_right_13 fl_X12_68 i_164_8 rfl rfl (by omega) ?_
      refine tz_aload_n (pc := 16) dX12_right_16 rfl rfl ?_
      refine tz_fI (pc := 17) (kz := 8) (v := y) dX12_right_17 fl_X12_68 i_164_8 rfl rfl (fun r_17 => ?_)
      refine tz_if_ne (pc := 20) (tgt := 27) dX12_right_20 (by decide) (by omega) (fun h_20 => ?_) (fun h_20 => ?_)
      · refine tz_iconst (pc := 27) dX12_right_27 ?_
        exact tz_zret (pc := 28) (z := 0) dX12_right_28 rfl (Or.inl rfl) (Nat.le_of_ble_eq_true rfl) (Nat.le_of_ble_eq_true rfl) ⟨Nat.le_refl _, Nat.le_add_right _ _⟩ ⟨_, rfl, (by decide), ⟨⟨zOf.up rfl zOf.rf, fun k hk => zup_ne hk⟩, by omega, fun q9 => by omega, fun w9 => ⟨fun q9 => ⟨zup_at, by omega⟩, fun q9 => by omega⟩⟩⟩
      · refine tz_iconst (pc := 23) dX12_right_23 ?_
        refine tz_goto (pc := 24) (tgt := 28) dX12_right_24 (by decide) ?_
        exact tz_zret (pc := 28) (z := 1) dX12_right_28 rfl (Or.inr rfl) (Nat.le_of_ble_eq_true rfl) (Nat.le_of_ble_eq_true rfl) ⟨Nat.le_refl _, Nat.le_add_right _ _⟩ ⟨_, rfl, (by decide), ⟨⟨zOf.up rfl zOf.rf, fun k hk => zup_ne hk⟩, by omega, fun q9 => by omega, fun w9 => ⟨fun q9 => ⟨zup_at, by omega⟩, fun q9 => by omega⟩⟩⟩

set_option maxHeartbeats 4000000 in
set_option maxRecDepth 100000 in
theorem e_qyears {l : Launch} {G : tb_G} (hl : l.stackTraces = false) (n : Nat) (J : zJ) (x : Int) (y : Int) (v : Int) (hr_x : -2147483648 ≤ x ∧ x < 2147483648) (hr_y : -2147483648 ≤ y ∧ y < 2147483648) (hr_v : -2147483648 ≤ v ∧ v < 2147483648) (m : Int) (pn : Int) (RR : Int → Int → Int) (hI : MI J m) (u9 : MUr J pn RR) (hw9 : ∀ k, 0 ≤ k → k < J 164 9 → 1 ≤ J 171 (0 + k) ∧ J 171 (0 + k) ≤ 9) : tz_Ok l G M_X12_years 731 0 0 [.ref 164, zi x, zi y, zi v] n J (zqi (fun z J' => MQr J' J ∧ MFI J' J ∧ MBT J' (tbz J) ∧ MUr J' pn RR ∧ J' 183 = J 183 ∧ ((J' 164 8 = 0 ∧ ((0 ≤ v ∧ v ≤ 2) ∧ (0 ≤ y ∧ y ≤ 20)) ∧ (¬ (yrO (tbz J) x y.toNat).2.2.2 = 2 ∧ z = yrA (tbz J) (yrO (tbz J) x y.toNat) v)) ∨ (J' 164 8 = 1 ∧ ¬ (0 ≤ v ∧ v ≤ 2)) ∨ (J' 164 8 = 2 ∧ (0 ≤ v ∧ v ≤ 2) ∧ ¬ (0 ≤ y ∧ y ≤ 20))))) zN := by
  refine tz_Ok.of hl (by decide +kernel) rfl (tb_c1 rfl) (Nat.le_of_ble_eq_true rfl) ?_
  show tz_At l G M_X12_years (tb_rm 731 0 0) none (tb_ZM G 0 0 (zQ n 0 (zqi (fun z J' => MQr J' J ∧ MFI J' J ∧ MBT J' (tbz J) ∧ MUr J' pn RR ∧ J' 183 = J 183 ∧ ((J' 164 8 = 0 ∧ ((0 ≤ v ∧ v ≤ 2) ∧ (0 ≤ y ∧ y ≤ 20)) ∧ (¬ (yrO (tbz J) x y.toNat).2.2.2 = 2 ∧ z = yrA (tbz J) (yrO (tbz J) x y.toNat) v)) ∨ (J' 164 8 = 1 ∧ ¬ (0 ≤ v ∧ v ≤ 2)) ∨ (J' 164 8 = 2 ∧ (0 ≤ v ∧ v ≤ 2) ∧ ¬ (0 ≤ y ∧ y ≤ 20)))))) (zX n 0 zN)) 0 0 n J 0 [some (.ref 164), some (zi x), some (zi y), some (zi v), none, none, none, none, none] []
  have hT := hI.told
  have hW := hI.row
  have hM := hI.1
  have hL := hI.2.1
  refine tz_aload_n (pc := 0) dX12_years_0 rfl rfl ?_
  refine tz_iconst (pc := 1) dX12_years_1 ?_
  refine tz_pI (pc := 2) (kz := 8) dX12_years_2 fl_X12_68 i_164_8 rfl rfl (by decide) ?_
  refine tz_aload_n (pc := 5) dX12_years_5 rfl rfl ?_
  refine tz_iload_n (pc := 6) dX12_years_6 rfl rfl ?_
  refine tz_iconst (pc := 7) dX12_years_7 ?_
  refine tz_iconst (pc := 8) dX12_years_8 ?_
  refine tz_cS (pc := 9) (m_within hl n _ _ _ _ (by omega) (by decide) (by decide)) sl_X12_283 dX12_years_9 rfl rfl (Nat.le_of_ble_eq_true rfl) ⟨(Nat.le_of_ble_eq_true rfl), (Nat.le_of_ble_eq_true rfl)⟩ rfl rfl (Nat.le_of_ble_eq_true rfl) (Nat.le_of_ble_eq_true rfl) (fun r9 J_9 hq9 => ?_)
  obtain ⟨z_9, rfl, hz_9, rfl, hw_9⟩ := hq9
  refine tz_iconst (pc := 12) dX12_years_12 ?_
  refine tz_cV (pc := 13) (m_right4 hl n _ _ _ (by omega) (by decide) (by decide)) vl_X12_334 dX12_years_13 o_164 rfl rfl (Nat.le_of_ble_eq_true rfl) ⟨(Nat.le_of_ble_eq_true rfl), (Nat.le_of_ble_eq_true rfl)⟩ rfl rfl (Nat.le_of_ble_eq_true rfl) (Nat.le_of_ble_eq_true rfl) (fun r9 J_13 hq9 => ?_)
  obtain ⟨z_13, rfl, hz_13, f_13, b_13, c_13, w_13⟩ := hq9
  have v_13 := w_13 zup_at
  have x_13 : MZ J_13 (zup J 164 8 0) := MZ.f f_13 (by decide) (by decide)
  have y_13 := MZ.tr (MZ.up (k := 8) MZ.rf (by decide)) x_13
  have e_13 : z_13 = 1 → ¬ z_9 = 0 := fun q9 => (c_13 q9).2.2.resolve_right (by decide)
  refine tz_if_eq (pc := 16) (tgt := 34) dX12_years_16 (by decide) (by omega) (fun h_16 => ?_) (fun h_16 => ?_)
  · refine tz_iconst (pc := 34) dX12_years_34 ?_
    exact tz_iret (pc := 35) (z := 0) dX12_years_35 rfl (Nat.le_of_ble_eq_true rfl) (Nat.le_of_ble_eq_true rfl) ⟨Nat.le_refl _, Nat.le_add_right _ _⟩ ⟨_, rfl, (by decide), ⟨MQr.z hI y_13, MFI.z y_13, MBT.z hI y_13, u9.z y_13, y_13.1 183 rfl, by first | exact Or.inr (Or.inl ⟨(v_13.1 (by omega)).1, by omega⟩) | exact Or.inr (Or.inr ⟨(v_13.1 (by omega)).1, by omega, by omega⟩)⟩⟩
  · refine tz_aload_n (pc := 19) dX12_years_19 rfl rfl ?_
    refine tz_iload_n (pc := 20) dX12_years_20 rfl rfl ?_
    refine tz_iconst (pc := 21) dX12_years_21 ?_
    refine tz_bipush (pc := 22) dX12_years_22 (by decide) ?_
    refine tz_cS (pc := 24) (m_within hl n _ _ _ _ (by omega) (by decide) (by decide)) sl_X12_283 dX12_years_24 rfl rfl (Nat.le_of_ble_eq_true rfl) ⟨(Nat.le_of_ble_eq_true rfl), (Nat.le_of_ble_eq_true rfl)⟩ rfl rfl (Nat.le_of_ble_eq_true rfl) (Nat.le_of_ble_eq_true rfl) (fun r9 J_24 hq9 => ?_)
    obtain ⟨z_24, rfl, hz_24, rfl, hw_24⟩ := hq9
    refine tz_iconst (pc := 27) dX12_years_27 ?_
    refine tz_cV (pc := 28) (m_right4 hl n _ _ _ (by omega) (by decide) (by decide)) vl_X12_334 dX12_years_28 o_164 rfl rfl (Nat.le_of_ble_eq_true rfl) ⟨(Nat.le_of_ble_eq_true rfl), (Nat.le_of_ble_eq_true rfl)⟩ rfl rfl (Nat.le_of_ble_eq_true rfl) (Nat.le_of_ble_eq_true rfl) (fun r9 J_28 hq9 => ?_)
    obtain ⟨z_28, rfl, hz_28, f_28, b_28, c_28, w_28⟩ := hq9
    have v_28 := w_28 ((v_13.2 (by omega)).1)
    have x_28 : MZ J_28 J_13 := MZ.f f_28 (by decide) (by decide)
    have y_28 := MZ.tr y_13 x_28
    have e_28 : z_28 = 1 → ¬ z_24 = 0 := fun q9 => (c_28 q9).2.2.resolve_right (by decide)
    refine tz_if_ne (pc := 31) (tgt := 36) dX12_years_31 (by decide) (by omega) (fun h_31 => ?_) (fun h_31 => ?_)
    · have hv2 : 0 ≤ v ∧ v ≤ 2 := by omega
      have hy2 : 0 ≤ y ∧ y ≤ 20 := by omega
      have t8_28 : J_28 164 8 = 0 := (v_28.2 (by omega)).1
      clear e_13 e_28 v_13 v_28 w_13 w_28 c_13 c_28 b_13 b_28 hw_9 hw_24
      refine tz_aload_n (pc := 36) dX12_years_36 rfl rfl ?_
      refine tz_cV (pc := 37) (m_begins hl n _) vl_X12_400 dX12_years_37 o_164 rfl rfl (Nat.le_of_ble_eq_true rfl) ⟨(Nat.le_of_ble_eq_true rfl), (Nat.le_of_ble_eq_true rfl)⟩ rfl rfl (Nat.le_of_ble_eq_true rfl) (Nat.le_of_ble_eq_true rfl) (fun r9 J_37 hq9 => ?_)
      obtain ⟨rfl, hj_37⟩ := hq9
      have a_37 : AM J_37 J m m := by rw [← hj_37]; exact AM.begin (hI.z y_28) ⟨MZ.lo y_28, SC.z y_28⟩
      have br_37 : ∀ k, (k < 63 ∨ 126 ≤ k) → J_37 165 k = (J_28 : zJ) 165 k := fun k hk => by rw [← hj_37]; exact zbg_r hk
      have bl_37 : ∀ k, ¬ k = 34 → ¬ k = 33 → ¬ k = 21 → J_37 164 k = (J_28 : zJ) 164 k := fun k u v w => by rw [← hj_37]; exact zbg_f u v w
      have bo_37 : zOf (zbut [164, 165]) J_37 J_28 := by rw [← hj_37]; exact zbg_of
      have b3_37 : J_37 164 21 = 0 ∧ J_37 164 33 = 0 ∧ J_37 164 34 = 0 := by rw [← hj_37]; exact ⟨rfl, rfl, rfl⟩
      have s9_37 : J_37 164 9 = J 164 9 := (bl_37 9 (by decide) (by decide) (by decide)).trans (y_28.2 9 (by decide) (by decide))
      obtain ⟨⟨bt_37, bs_37, bm_37, ba_37⟩, bu_37, bn_37, bf_37, bi_37⟩ := mbeg hI y_28 hj_37 u9
      refine tz_aload_n (pc := 40) dX12_years_40 rfl rfl ?_
      refine tz_iload_n (pc := 41) dX12_years_41 rfl rfl ?_
      refine tz_pI (pc := 42) (kz := 46) dX12_years_42 fl_X12_423 i_164_46 rfl rfl (by omega) ?_
      refine tz_iconst (pc := 45) dX12_years_45 ?_
      refine tz_istore (pc := 46) (L2 := [_, _, _, _, _, _, _, _, _]) dX12_years_46 (by decide) rfl ?_
      refine tz_iconst (pc := 48) dX12_years_48 ?_
      refine tz_istore (pc := 49) (L2 := [_, _, _, _, _, _, _, _, _]) dX12_years_49 (by decide) rfl ?_
      refine tz_iconst (pc := 51) dX12_years_51 ?_
      refine tz_istore (pc := 52) (L2 := [_, _, _, _, _, _, _, _, _]) dX12_years_52 (by decide) rfl ?_
      have loop54 : ∀ (f9 : Nat) (q : Int) (e : Int) (k : Int) (d7 : Option Value) (d8 : Option Value) (J1 : zJ) (m1 : Int), ((20 - k).toNat) < f9 → (-3300 * k ≤ q ∧ q ≤ 3300 * k) → (e = 0 ∨ e = 1) → (0 ≤ k ∧ k ≤ y) → (AM J1 J m m1) → (e = 1 → J1 164 21 = 0 ∧ 0 ≤ J1 164 34 ∧ J1 164 34 ≤ 100) → (MOP J1 J_37 m) → (J1 164 8 = J_37 164 8 ∧ J1 183 = J_37 183 ∧ J1 171 = J_37 171) → (YMC J1 q e (yrO (tbz J) x k.toNat)) → tz_At l G M_X12_years (tb_rm 731 0 0) none (tb_ZM G 0 0 (zQ n 0 (zqi (fun z J' => MQr J' J ∧ MFI J' J ∧ MBT J' (tbz J) ∧ MUr J' pn RR ∧ J' 183 = J 183 ∧ ((J' 164 8 = 0 ∧ ((0 ≤ v ∧ v ≤ 2) ∧ (0 ≤ y ∧ y ≤ 20)) ∧ (¬ (yrO (tbz J) x y.toNat).2.2.2 = 2 ∧ z = yrA (tbz J) (yrO (tbz J) x y.toNat) v)) ∨ (J' 164 8 = 1 ∧ ¬ (0 ≤ v ∧ v ≤ 2)) ∨ (J' 164 8 = 2 ∧ (0 ≤ v ∧ v ≤ 2) ∧ ¬ (0 ≤ y ∧ y ≤ 20)))))) (zX n 0 zN)) 0 0 n J1 54 [some (.ref 164), some (zi x), some (zi y), some (zi v), some (zi q), some (zi e), some (zi k), d7, d8] [] := by
        intro f9
        induction f9 with
        | zero => intro q e k d7 d8 J1 m1 hm9; exact absurd hm9 (Nat.not_lt_zero _)
        | succ f9 ih54 =>
          intro q e k d7 d8 J1 m1 hm54 hq he hk aj hs po k8 ym
          refine tz_iload (pc := 54) dX12_years_54 rfl ?_
          refine tz_iload_n (pc := 56) dX12_years_56 rfl rfl ?_
          refine tz_icmp_ge (pc := 57) (tgt := 134) dX12_years_57 (by decide) (by omega) (by omega) (fun h_57 => ?_) (fun h_57 => ?_)
          · refine tz_iload_n (pc := 134) dX12_years_134 rfl rfl ?_
            refine tz_if_ne (pc := 135) (tgt := 143) dX12_years_135 (by decide) (by omega) (fun h_135 => ?_) (fun h_135 => ?_)
            · refine tz_iload_n (pc := 143) dX12_years_143 rfl rfl ?_
              refine tz_iconst (pc := 144) dX12_years_144 ?_
              refine tz_icmp_ne (pc := 145) (tgt := 166) dX12_years_145 (by decide) (by omega) (by decide) (fun h_145 => ?_) (fun h_145 => ?_)
              · refine tz_aload_n (pc := 166) dX12_years_166 rfl rfl ?_
                refine tz_fR (pc := 167) dX12_years_167 fl_X12_9 r_164_0 ?_
                refine tz_bipush (pc := 170) dX12_years_170 (by decide) ?_
                refine tz_aL (pc := 172) (z := 62) (v := (J1 165 62)) dX12_years_172 a_165 rfl (by decide) rfl (fun r_172 => ?_)
                refine tz_aload_n (pc := 173) dX12_years_173 rfl rfl ?_
                refine tz_fR (pc := 174) dX12_years_174 fl_X12_9 r_164_0 ?_
                refine tz_bipush (pc := 177) dX12_years_177 (by decide) ?_
                refine tz_aL (pc := 179) (z := 125) (v := (J1 165 125)) dX12_years_179 a_165 rfl (by decide) rfl (fun r_179 => ?_)
                refine tz_isub (pc := 180) (v := (J1 165 62) - (J1 165 125)) dX12_years_180 rfl ?_
                refine tz_tw ?_
                have rw_181 := zw_rg ((J1 165 62) - (J1 165 125))
                refine tz_istore (pc := 181) (L2 := [_, _, _, _, _, _, _, _, _]) dX12_years_181 (by decide) rfl ?_
                refine tz_aload_n (pc := 183) dX12_years_183 rfl rfl ?_
                refine tz_bipush (pc := 184) dX12_years_184 (by decide) ?_
                refine tz_iconst (pc := 186) dX12_years_186 ?_
                refine tz_bipush (pc := 187) dX12_years_187 (by decide) ?_
                refine tz_cV (pc := 189) (zm_copies hl n _ _ _ _ (by decide) (by decide) (by decide) (by omega) (by omega)) vl_X12_343 dX12_years_189 o_164 rfl rfl (Nat.le_of_ble_eq_true rfl) ⟨(Nat.le_of_ble_eq_true rfl), (Nat.le_of_ble_eq_true rfl)⟩ rfl rfl (Nat.le_of_ble_eq_true rfl) (Nat.le_of_ble_eq_true rfl) (fun r9 J_189 hq9 => ?_)
                obtain ⟨rfl, rfl⟩ := hq9
                refine tz_iload (pc := 192) dX12_years_192 rfl ?_
                refine tz_if_eq (pc := 194) (tgt := 202) dX12_years_194 (by decide) (by omega) (fun h_194 => ?_) (fun h_194 => ?_)
                · refine tz_iconst (pc := 202) dX12_years_202 ?_
                  exact tz_iret (pc := 203) (z := (-1)) dX12_years_203 rfl (Nat.le_of_ble_eq_true rfl) (Nat.le_of_ble_eq_true rfl) ⟨Nat.le_refl _, Nat.le_add_right _ _⟩ ⟨_, rfl, (by decide), (by obtain ⟨w1, w2⟩ := mact_fail bt_37 bs_37 bm_37 ba_37 bu_37 bn_37 bf_37 po zOf.rf; exact ⟨AM.fail aj zOf.rf, bi_37.tr w2, w1.1, w1.2, k8.2.1.trans ((bo_37 183 rfl).trans (y_28.1 183 rfl)), Or.inl ⟨k8.1.trans ((bl_37 8 (by decide) (by decide) (by decide)).trans t8_28), ⟨by omega, by omega⟩, ym_ans (ym_e hk (by omega) ym) ((po.2.1 124 (by decide)).trans (ba_37 61 (by decide) (by decide))) ((po.2.1 125 (by decide)).trans (ba_37 62 (by decide) (by decide))) (by omega) (Or.inl ⟨by omega, rfl⟩)⟩⟩)⟩
                · refine tz_iload (pc := 197) dX12_years_197 rfl ?_
                  refine tz_goto (pc := 199) (tgt := 203) dX12_years_199 (by decide) ?_
                  exact tz_iret (pc := 203) (z := (zw ((J1 165 62) - (J1 165 125)))) dX12_years_203 rfl (Nat.le_of_ble_eq_true rfl) (Nat.le_of_ble_eq_true rfl) ⟨Nat.le_refl _, Nat.le_add_right _ _⟩ ⟨_, rfl, (zw_rg _), (by obtain ⟨w1, w2⟩ := mact_fail bt_37 bs_37 bm_37 ba_37 bu_37 bn_37 bf_37 po zOf.rf; exact ⟨AM.fail aj zOf.rf, bi_37.tr w2, w1.1, w1.2, k8.2.1.trans ((bo_37 183 rfl).trans (y_28.1 183 rfl)), Or.inl ⟨k8.1.trans ((bl_37 8 (by decide) (by decide) (by decide)).trans t8_28), ⟨by omega, by omega⟩, ym_ans (ym_e hk (by omega) ym) ((po.2.1 124 (by decide)).trans (ba_37 61 (by decide) (by decide))) ((po.2.1 125 (by decide)).trans (ba_37 62 (by decide) (by decide))) (by omega) (Or.inr ⟨by omega, ((if_neg (by omega)).trans (if_neg (by omega))).symm⟩)⟩⟩)⟩
              · refine tz_aload_n (pc := 148) dX12_years_148 rfl rfl ?_
                refine tz_fR (pc := 149) dX12_years_149 fl_X12_9 r_164_0 ?_
                refine tz_bipush (pc := 152) dX12_years_152 (by decide) ?_
                refine tz_aL (pc := 154) (z := 61) (v := (J1 165 61)) dX12_years_154 a_165 rfl (by decide) rfl (fun r_154 => ?_)
                refine tz_aload_n (pc := 155) dX12_years_155 rfl rfl ?_
                refine tz_fR (pc := 156) dX12_years_156 fl_X12_9 r_164_0 ?_
                refine tz_bipush (pc := 159) dX12_years_159 (by decide) ?_
                refine tz_aL (pc := 161) (z := 124) (v := (J1 165 124)) dX12_years_161 a_165 rfl (by decide) rfl (fun r_161 => ?_)
                refine tz_isub (pc := 162) (v := (J1 165 61) - (J1 165 124)) dX12_years_162 rfl ?_
                refine tz_goto (pc := 163) (tgt := 181) dX12_years_163 (by decide) ?_
                refine tz_tw ?_
                have rw_181 := zw_rg ((J1 165 61) - (J1 165 124))
                refine tz_istore (pc := 181) (L2 := [_, _, _, _, _, _, _, _, _]) dX12_years_181 (by decide) rfl ?_
                refine tz_aload_n (pc := 183) dX12_years_183 rfl rfl ?_
                refine tz_bipush (pc := 184) dX12_years_184 (by decide) ?_
                refine tz_iconst (pc := 186) dX12_years_186 ?_
                refine tz_bipush (pc := 187) dX12_years_187 (by decide) ?_
                refine tz_cV (pc := 189) (zm_copies hl n _ _ _ _ (by decide) (by decide) (by decide) (by omega) (by omega)) vl_X12_343 dX12_years_189 o_164 rfl rfl (Nat.le_of_ble_eq_true rfl) ⟨(Nat.le_of_ble_eq_true rfl), (Nat.le_of_ble_eq_true rfl)⟩ rfl rfl (Nat.le_of_ble_eq_true rfl) (Nat.le_of_ble_eq_true rfl) (fun r9 J_189 hq9 => ?_)
                obtain ⟨rfl, rfl⟩ := hq9
                refine tz_iload (pc := 192) dX12_years_192 rfl ?_
                refine tz_if_eq (pc := 194) (tgt := 202) dX12_years_194 (by decide) (by omega) (fun h_194 => ?_) (fun h_194 => ?_)
                · refine tz_iconst (pc := 202) dX12_years_202 ?_
                  exact tz_iret (pc := 203) (z := (-1)) dX12_years_203 rfl (Nat.le_of_ble_eq_true rfl) (Nat.le_of_ble_eq_true rfl) ⟨Nat.le_refl _, Nat.le_add_right _ _⟩ ⟨_, rfl, (by decide), (by obtain ⟨w1, w2⟩ := mact_fail bt_37 bs_37 bm_37 ba_37 bu_37 bn_37 bf_37 po zOf.rf; exact ⟨AM.fail aj zOf.rf, bi_37.tr w2, w1.1, w1.2, k8.2.1.trans ((bo_37 183 rfl).trans (y_28.1 183 rfl)), Or.inl ⟨k8.1.trans ((bl_37 8 (by decide) (by decide) (by decide)).trans t8_28), ⟨by omega, by omega⟩, ym_ans (ym_e hk (by omega) ym) ((po.2.1 124 (by decide)).trans (ba_37 61 (by decide) (by decide))) ((po.2.1 125 (by decide)).trans (ba_37 62 (by decide) (by decide))) (by omega) (Or.inl ⟨by omega, rfl⟩)⟩⟩)⟩
                · refine tz_iload (pc := 197) dX12_years_197 rfl ?_
                  refine tz_goto (pc := 199) (tgt := 203) dX12_years_199 (by decide) ?_
                  exact tz_iret (pc := 203) (z := (zw ((J1 165 61) - (J1 165 124)))) dX12_years_203 rfl (Nat.le_of_ble_eq_true rfl) (Nat.le_of_ble_eq_true rfl) ⟨Nat.le_refl _, Nat.le_add_right _ _⟩ ⟨_, rfl, (zw_rg _), (by obtain ⟨w1, w2⟩ := mact_fail bt_37 bs_37 bm_37 ba_37 bu_37 bn_37 bf_37 po zOf.rf; exact ⟨AM.fail aj zOf.rf, bi_37.tr w2, w1.1, w1.2, k8.2.1.trans ((bo_37 183 rfl).trans (y_28.1 183 rfl)), Or.inl ⟨k8.1.trans ((bl_37 8 (by decide) (by decide) (by decide)).trans t8_28), ⟨by omega, by omega⟩, ym_ans (ym_e hk (by omega) ym) ((po.2.1 124 (by decide)).trans (ba_37 61 (by decide) (by decide))) ((po.2.1 125 (by decide)).trans (ba_37 62 (by decide) (by decide))) (by omega) (Or.inr ⟨by omega, ((if_neg (by omega)).trans (if_pos (by omega))).symm⟩)⟩⟩)⟩
            · refine tz_iload (pc := 138) dX12_years_138 rfl ?_
              refine tz_goto (pc := 140) (tgt := 181) dX12_years_140 (by decide) ?_
              refine tz_tw ?_
              have rw_181 := zw_rg q
              refine tz_istore (pc := 181) (L2 := [_, _, _, _, _, _, _, _, _]) dX12_years_181 (by decide) rfl ?_
              refine tz_aload_n (pc := 183) dX12_years_183 rfl rfl ?_
              refine tz_bipush (pc := 184) dX12_years_184 (by decide) ?_
              refine tz_iconst (pc := 186) dX12_years_186 ?_
              refine tz_bipush (pc := 187) dX12_years_187 (by decide) ?_
              refine tz_cV (pc := 189) (zm_copies hl n _ _ _ _ (by decide) (by decide) (by decide) (by omega) (by omega)) vl_X12_343 dX12_years_189 o_164 rfl rfl (Nat.le_of_ble_eq_true rfl) ⟨(Nat.le_of_ble_eq_true rfl), (Nat.le_of_ble_eq_true rfl)⟩ rfl rfl (Nat.le_of_ble_eq_true rfl) (Nat.le_of_ble_eq_true rfl) (fun r9 J_189 hq9 => ?_)
              obtain ⟨rfl, rfl⟩ := hq9
              refine tz_iload (pc := 192) dX12_years_192 rfl ?_
              refine tz_if_eq (pc := 194) (tgt := 202) dX12_years_194 (by decide) (by omega) (fun h_194 => ?_) (fun h_194 => ?_)
              · refine tz_iconst (pc := 202) dX12_years_202 ?_
                exact tz_iret (pc := 203) (z := (-1)) dX12_years_203 rfl (Nat.le_of_ble_eq_true rfl) (Nat.le_of_ble_eq_true rfl) ⟨Nat.le_refl _, Nat.le_add_right _ _⟩ ⟨_, rfl, (by decide), (by obtain ⟨w1, w2⟩ := mact_fail bt_37 bs_37 bm_37 ba_37 bu_37 bn_37 bf_37 po zOf.rf; exact ⟨AM.fail aj zOf.rf, bi_37.tr w2, w1.1, w1.2, k8.2.1.trans ((bo_37 183 rfl).trans (y_28.1 183 rfl)), Or.inl ⟨k8.1.trans ((bl_37 8 (by decide) (by decide) (by decide)).trans t8_28), ⟨by omega, by omega⟩, ym_ans (ym_e hk (by omega) ym) ((po.2.1 124 (by decide)).trans (ba_37 61 (by decide) (by decide))) ((po.2.1 125 (by decide)).trans (ba_37 62 (by decide) (by decide))) (by omega) (Or.inl ⟨by omega, rfl⟩)⟩⟩)⟩
              · refine tz_iload (pc := 197) dX12_years_197 rfl ?_
                refine tz_goto (pc := 199) (tgt := 203) dX12_years_199 (by decide) ?_
                exact tz_iret (pc := 203) (z := (zw q)) dX12_years_203 rfl (Nat.le_of_ble_eq_true rfl) (Nat.le_of_ble_eq_true rfl) ⟨Nat.le_refl _, Nat.le_add_right _ _⟩ ⟨_, rfl, (zw_rg _), (by obtain ⟨w1, w2⟩ := mact_fail bt_37 bs_37 bm_37 ba_37 bu_37 bn_37 bf_37 po zOf.rf; exact ⟨AM.fail aj zOf.rf, bi_37.tr w2, w1.1, w1.2, k8.2.1.trans ((bo_37 183 rfl).trans (y_28.1 183 rfl)), Or.inl ⟨k8.1.trans ((bl_37 8 (by decide) (by decide) (by decide)).trans t8_28), ⟨by omega, by omega⟩, ym_ans (ym_e hk (by omega) ym) ((po.2.1 124 (by decide)).trans (ba_37 61 (by decide) (by decide))) ((po.2.1 125 (by decide)).trans (ba_37 62 (by decide) (by decide))) (by omega) (Or.inr ⟨by omega, (if_pos (by omega)).symm⟩)⟩⟩)⟩
          · refine tz_iload (pc := 60) dX12_years_60 rfl ?_
            refine tz_if_eq (pc := 62) (tgt := 134) dX12_years_62 (by decide) (by omega) (fun h_62 => ?_) (fun h_62 => ?_)
            · refine tz_iload_n (pc := 134) dX12_years_134 rfl rfl ?_
              refine tz_if_ne (pc := 135) (tgt := 143) dX12_years_135 (by decide) (by omega) (fun h_135 => ?_) (fun h_135 => ?_)
              · refine tz_iload_n (pc := 143) dX12_years_143 rfl rfl ?_
                refine tz_iconst (pc := 144) dX12_years_144 ?_
                refine tz_icmp_ne (pc := 145) (tgt := 166) dX12_years_145 (by decide) (by omega) (by decide) (fun h_145 => ?_) (fun h_145 => ?_)
                · refine tz_aload_n (pc := 166) dX12_years_166 rfl rfl ?_
                  refine tz_fR (pc := 167) dX12_years_167 fl_X12_9 r_164_0 ?_
                  refine tz_bipush (pc := 170) dX12_years_170 (by decide) ?_
                  refine tz_aL (pc := 172) (z := 62) (v := (J1 165 62)) dX12_years_172 a_165 rfl (by decide) rfl (fun r_172 => ?_)
                  refine tz_aload_n (pc := 173) dX12_years_173 rfl rfl ?_
                  refine tz_fR (pc := 174) dX12_years_174 fl_X12_9 r_164_0 ?_
                  refine tz_bipush (pc := 177) dX12_years_177 (by decide) ?_
                  refine tz_aL (pc := 179) (z := 125) (v := (J1 165 125)) dX12_years_179 a_165 rfl (by decide) rfl (fun r_179 => ?_)
                  refine tz_isub (pc := 180) (v := (J1 165 62) - (J1 165 125)) dX12_years_180 rfl ?_
                  refine tz_tw ?_
                  have rw_181 := zw_rg ((J1 165 62) - (J1 165 125))
                  refine tz_istore (pc := 181) (L2 := [_, _, _, _, _, _, _, _, _]) dX12_years_181 (by decide) rfl ?_
                  refine tz_aload_n (pc := 183) dX12_years_183 rfl rfl ?_
                  refine tz_bipush (pc := 184) dX12_years_184 (by decide) ?_
                  refine tz_iconst (pc := 186) dX12_years_186 ?_
                  refine tz_bipush (pc := 187) dX12_years_187 (by decide) ?_
                  refine tz_cV (pc := 189) (zm_copies hl n _ _ _ _ (by decide) (by decide) (by decide) (by omega) (by omega)) vl_X12_343 dX12_years_189 o_164 rfl rfl (Nat.le_of_ble_eq_true rfl) ⟨(Nat.le_of_ble_eq_true rfl), (Nat.le_of_ble_eq_true rfl)⟩ rfl rfl (Nat.le_of_ble_eq_true rfl) (Nat.le_of_ble_eq_true rfl) (fun r9 J_189 hq9 => ?_)
                  obtain ⟨rfl, rfl⟩ := hq9
                  refine tz_iload (pc := 192) dX12_years_192 rfl ?_
                  refine tz_if_eq (pc := 194) (tgt := 202) dX12_years_194 (by decide) (by omega) (fun h_194 => ?_) (fun h_194 => ?_)
                  · refine tz_iconst (pc := 202) dX12_years_202 ?_
                    exact tz_iret (pc := 203) (z := (-1)) dX12_years_203 rfl (Nat.le_of_ble_eq_true rfl) (Nat.le_of_ble_eq_true rfl) ⟨Nat.le_refl _, Nat.le_add_right _ _⟩ ⟨_, rfl, (by decide), (by obtain ⟨w1, w2⟩ := mact_fail bt_37 bs_37 bm_37 ba_37 bu_37 bn_37 bf_37 po zOf.rf; exact ⟨AM.fail aj zOf.rf, bi_37.tr w2, w1.1, w1.2, k8.2.1.trans ((bo_37 183 rfl).trans (y_28.1 183 rfl)), Or.inl ⟨k8.1.trans ((bl_37 8 (by decide) (by decide) (by decide)).trans t8_28), ⟨by omega, by omega⟩, ym_ans (ym_e hk (by omega) ym) ((po.2.1 124 (by decide)).trans (ba_37 61 (by decide) (by decide))) ((po.2.1 125 (by decide)).trans (ba_37 62 (by decide) (by decide))) (by omega) (Or.inl ⟨by omega, rfl⟩)⟩⟩)⟩
                  · refine tz_iload (pc := 197) dX12_years_197 rfl ?_
                    refine tz_goto (pc := 199) (tgt := 203) dX12_years_199 (by decide) ?_
                    exact tz_iret (pc := 203) (z := (zw ((J1 165 62) - (J1 165 125)))) dX12_years_203 rfl (Nat.le_of_ble_eq_true rfl) (Nat.le_of_ble_eq_true rfl) ⟨Nat.le_refl _, Nat.le_add_right _ _⟩ ⟨_, rfl, (zw_rg _), (by obtain ⟨w1, w2⟩ := mact_fail bt_37 bs_37 bm_37 ba_37 bu_37 bn_37 bf_37 po zOf.rf; exact ⟨AM.fail aj zOf.rf, bi_37.tr w2, w1.1, w1.2, k8.2.1.trans ((bo_37 183 rfl).trans (y_28.1 183 rfl)), Or.inl ⟨k8.1.trans ((bl_37 8 (by decide) (by decide) (by decide)).trans t8_28), ⟨by omega, by omega⟩, ym_ans (ym_e hk (by omega) ym) ((po.2.1 124 (by decide)).trans (ba_37 61 (by decide) (by decide))) ((po.2.1 125 (by decide)).trans (ba_37 62 (by decide) (by decide))) (by omega) (Or.inr ⟨by omega, ((if_neg (by omega)).trans (if_neg (by omega))).symm⟩)⟩⟩)⟩
                · refine tz_aload_n (pc := 148) dX12_years_148 rfl rfl ?_
                  refine tz_fR (pc := 149) dX12_years_149 fl_X12_9 r_164_0 ?_
                  refine tz_bipush (pc := 152) dX12_years_152 (by decide) ?_
                  refine tz_aL (pc := 154) (z := 61) (v := (J1 165 61)) dX12_years_154 a_165 rfl (by decide) rfl (fun r_154 => ?_)
                  refine tz_aload_n (pc := 155) dX12_years_155 rfl rfl ?_
                  refine tz_fR (pc := 156) dX12_years_156 fl_X12_9 r_164_0 ?_
                  refine tz_bipush (pc := 159) dX12_years_159 (by decide) ?_
                  refine tz_aL (pc := 161) (z := 124) (v := (J1 165 124)) dX12_years_161 a_165 rfl (by decide) rfl (fun r_161 => ?_)
                  refine tz_isub (pc := 162) (v := (J1 165 61) - (J1 165 124)) dX12_years_162 rfl ?_
                  refine tz_goto (pc := 163) (tgt := 181) dX12_years_163 (by decide) ?_
                  refine tz_tw ?_
                  have rw_181 := zw_rg ((J1 165 61) - (J1 165 124))
                  refine tz_istore (pc := 181) (L2 := [_, _, _, _, _, _, _, _, _]) dX12_years_181 (by decide) rfl ?_
                  refine tz_aload_n (pc := 183) dX12_years_183 rfl rfl ?_
                  refine tz_bipush (pc := 184) dX12_years_184 (by decide) ?_
                  refine tz_iconst (pc := 186) dX12_years_186 ?_
                  refine tz_bipush (pc := 187) dX12_years_187 (by decide) ?_
                  refine tz_cV (pc := 189) (zm_copies hl n _ _ _ _ (by decide) (by decide) (by decide) (by omega) (by omega)) vl_X12_343 dX12_years_189 o_164 rfl rfl (Nat.le_of_ble_eq_true rfl) ⟨(Nat.le_of_ble_eq_true rfl), (Nat.le_of_ble_eq_true rfl)⟩ rfl rfl (Nat.le_of_ble_eq_true rfl) (Nat.le_of_ble_eq_true rfl) (fun r9 J_189 hq9 => ?_)
                  obtain ⟨rfl, rfl⟩ := hq9
                  refine tz_iload (pc := 192) dX12_years_192 rfl ?_
                  refine tz_if_eq (pc := 194) (tgt := 202) dX12_years_194 (by decide) (by omega) (fun h_194 => ?_) (fun h_194 => ?_)
                  · refine tz_iconst (pc := 202) dX12_years_202 ?_
                    exact tz_iret (pc := 203) (z := (-1)) dX12_years_203 rfl (Nat.le_of_ble_eq_true rfl) (Nat.le_of_ble_eq_true rfl) ⟨Nat.le_refl _, Nat.le_add_right _ _⟩ ⟨_, rfl, (by decide), (by obtain ⟨w1, w2⟩ := mact_fail bt_37 bs_37 bm_37 ba_37 bu_37 bn_37 bf_37 po zOf.rf; exact ⟨AM.fail aj zOf.rf, bi_37.tr w2, w1.1, w1.2, k8.2.1.trans ((bo_37 183 rfl).trans (y_28.1 183 rfl)), Or.inl ⟨k8.1.trans ((bl_37 8 (by decide) (by decide) (by decide)).trans t8_28), ⟨by omega, by omega⟩, ym_ans (ym_e hk (by omega) ym) ((po.2.1 124 (by decide)).trans (ba_37 61 (by decide) (by decide))) ((po.2.1 125 (by decide)).trans (ba_37 62 (by decide) (by decide))) (by omega) (Or.inl ⟨by omega, rfl⟩)⟩⟩)⟩
                  · refine tz_iload (pc := 197) dX12_years_197 rfl ?_
                    refine tz_goto (pc := 199) (tgt := 203) dX12_years_199 (by decide) ?_
                    exact tz_iret (pc := 203) (z := (zw ((J1 165 61) - (J1 165 124)))) dX12_years_203 rfl (Nat.le_of_ble_eq_true rfl) (Nat.le_of_ble_eq_true rfl) ⟨Nat.le_refl _, Nat.le_add_right _ _⟩ ⟨_, rfl, (zw_rg _), (by obtain ⟨w1, w2⟩ := mact_fail bt_37 bs_37 bm_37 ba_37 bu_37 bn_37 bf_37 po zOf.rf; exact ⟨AM.fail aj zOf.rf, bi_37.tr w2, w1.1, w1.2, k8.2.1.trans ((bo_37 183 rfl).trans (y_28.1 183 rfl)), Or.inl ⟨k8.1.trans ((bl_37 8 (by decide) (by decide) (by decide)).trans t8_28), ⟨by omega, by omega⟩, ym_ans (ym_e hk (by omega) ym) ((po.2.1 124 (by decide)).trans (ba_37 61 (by decide) (by decide))) ((po.2.1 125 (by decide)).trans (ba_37 62 (by decide) (by decide))) (by omega) (Or.inr ⟨by omega, ((if_neg (by omega)).trans (if_pos (by omega))).symm⟩)⟩⟩)⟩
              · refine tz_iload (pc := 138) dX12_years_138 rfl ?_
                refine tz_goto (pc := 140) (tgt := 181) dX12_years_140 (by decide) ?_
                refine tz_tw ?_
                have rw_181 := zw_rg q
                refine tz_istore (pc := 181) (L2 := [_, _, _, _, _, _, _, _, _]) dX12_years_181 (by decide) rfl ?_
                refine tz_aload_n (pc := 183) dX12_years_183 rfl rfl ?_
                refine tz_bipush (pc := 184) dX12_years_184 (by decide) ?_
                refine tz_iconst (pc := 186) dX12_years_186 ?_
                refine tz_bipush (pc := 187) dX12_years_187 (by decide) ?_
                refine tz_cV (pc := 189) (zm_copies hl n _ _ _ _ (by decide) (by decide) (by decide) (by omega) (by omega)) vl_X12_343 dX12_years_189 o_164 rfl rfl (Nat.le_of_ble_eq_true rfl) ⟨(Nat.le_of_ble_eq_true rfl), (Nat.le_of_ble_eq_true rfl)⟩ rfl rfl (Nat.le_of_ble_eq_true rfl) (Nat.le_of_ble_eq_true rfl) (fun r9 J_189 hq9 => ?_)
                obtain ⟨rfl, rfl⟩ := hq9
                refine tz_iload (pc := 192) dX12_years_192 rfl ?_
                refine tz_if_eq (pc := 194) (tgt := 202) dX12_years_194 (by decide) (by omega) (fun h_194 => ?_) (fun h_194 => ?_)
                · refine tz_iconst (pc := 202) dX12_years_202 ?_
                  exact tz_iret (pc := 203) (z := (-1)) dX12_years_203 rfl (Nat.le_of_ble_eq_true rfl) (Nat.le_of_ble_eq_true rfl) ⟨Nat.le_refl _, Nat.le_add_right _ _⟩ ⟨_, rfl, (by decide), (by obtain ⟨w1, w2⟩ := mact_fail bt_37 bs_37 bm_37 ba_37 bu_37 bn_37 bf_37 po zOf.rf; exact ⟨AM.fail aj zOf.rf, bi_37.tr w2, w1.1, w1.2, k8.2.1.trans ((bo_37 183 rfl).trans (y_28.1 183 rfl)), Or.inl ⟨k8.1.trans ((bl_37 8 (by decide) (by decide) (by decide)).trans t8_28), ⟨by omega, by omega⟩, ym_ans (ym_e hk (by omega) ym) ((po.2.1 124 (by decide)).trans (ba_37 61 (by decide) (by decide))) ((po.2.1 125 (by decide)).trans (ba_37 62 (by decide) (by decide))) (by omega) (Or.inl ⟨by omega, rfl⟩)⟩⟩)⟩
                · refine tz_iload (pc := 197) dX12_years_197 rfl ?_
                  refine tz_goto (pc := 199) (tgt := 203) dX12_years_199 (by decide) ?_
                  exact tz_iret (pc := 203) (z := (zw q)) dX12_years_203 rfl (Nat.le_of_ble_eq_true rfl) (Nat.le_of_ble_eq_true rfl) ⟨Nat.le_refl _, Nat.le_add_right _ _⟩ ⟨_, rfl, (zw_rg _), (by obtain ⟨w1, w2⟩ := mact_fail bt_37 bs_37 bm_37 ba_37 bu_37 bn_37 bf_37 po zOf.rf; exact ⟨AM.fail aj zOf.rf, bi_37.tr w2, w1.1, w1.2, k8.2.1.trans ((bo_37 183 rfl).trans (y_28.1 183 rfl)), Or.inl ⟨k8.1.trans ((bl_37 8 (by decide) (by decide) (by decide)).trans t8_28), ⟨by omega, by omega⟩, ym_ans (ym_e hk (by omega) ym) ((po.2.1 124 (by decide)).trans (ba_37 61 (by decide) (by decide))) ((po.2.1 125 (by decide)).trans (ba_37 62 (by decide) (by decide))) (by omega) (Or.inr ⟨by omega, (if_pos (by omega)).symm⟩)⟩⟩)⟩
            · have ym1 : YMC J1 q 1 (yrO (tbz J) x k.toNat) := by rw [show e = 1 from by omega] at ym; exact ym
              refine tz_aload_n (pc := 65) dX12_years_65 rfl rfl ?_
              refine tz_iconst (pc := 66) dX12_years_66 ?_
              refine tz_cV (pc := 67) (o_drawn hl n _ _ (by decide) (J1 164 9) m1 aj.1.1 rfl (by decide)) vl_X12_430 dX12_years_67 o_164 rfl rfl (Nat.le_of_ble_eq_true rfl) ⟨(Nat.le_of_ble_eq_true rfl), (Nat.le_of_ble_eq_true rfl)⟩ rfl rfl (Nat.le_of_ble_eq_true rfl) (Nat.le_of_ble_eq_true rfl) (fun r9 J_67 hq9 => ?_)
              obtain ⟨z_67, rfl, hz_67, m_67, g_67, h_67, x_67⟩ := hq9
              have a_67 := AM.grow0 aj g_67 (fun c hc => by simp at hc) (fun k x y => by simp; omega) rfl
              have f4_67 : J_67 164 34 = J1 164 34 := g_67.2.2.1.2.2.1 34 (by decide)
              have tt_67 := a_67.1.1.told
              have po_67 := po.tr (MOP.mgd g_67) aj.1.2.2
              have k8_67 : J_67 164 8 = J_37 164 8 ∧ J_67 183 = J_37 183 ∧ J_67 171 = J_37 171 := ⟨(g_67.2.2.1.2.2.1 8 (by decide)).trans k8.1, (g_67.2.2.1.2.2.2 183 rfl).trans k8.2.1, (g_67.2.2.1.2.2.2 171 rfl).trans k8.2.2⟩
              refine tz_istore (pc := 70) (L2 := [_, _, _, _, _, _, _, _, _]) dX12_years_70 (by decide) rfl ?_
              refine tz_aload_n (pc := 72) dX12_years_72 rfl rfl ?_
              refine tz_fI (pc := 73) (kz := 21) (v := (J_67 164 21)) dX12_years_73 fl_X12_92 i_164_21 rfl rfl (fun r_73 => ?_)
              refine tz_if_eq (pc := 76) (tgt := 83) dX12_years_76 (by decide) (by omega) (fun h_76 => ?_) (fun h_76 => ?_)
              · refine tz_aload_n (pc := 83) dX12_years_83 rfl rfl ?_
                refine tz_iload (pc := 84) dX12_years_84 rfl ?_
                refine tz_cV (pc := 86) (x_normal hl n _ _ (by omega) (J_67 164 9) m_67 (AM.nz a_67 (by omega) (by omega)) rfl (by omega)) vl_X12_221 dX12_years_86 o_164 rfl rfl (Nat.le_of_ble_eq_true rfl) ⟨(Nat.le_of_ble_eq_true rfl), (Nat.le_of_ble_eq_true rfl)⟩ rfl rfl (Nat.le_of_ble_eq_true rfl) (Nat.le_of_ble_eq_true rfl) (fun r9 J_86 hq9 => ?_)
                obtain ⟨z_86, rfl, hz_86, m_86, g_86, h_86, x_86, w_86⟩ := hq9
                have a_86 := AM.norm a_67 g_86 rfl
                have lm_86 := g_86.2.1.1.2
                have st_86 := g_86.1.2.2.2
                have po_86 := po_67.tr (MOP.np g_86) a_67.1.2.2
                have d9 := (a_67.1.1.ar (t := z_67) (by omega)).2.2.1
                have e_86 := noc_fn (x_86 ⟨by omega, by omega⟩) (nWT_le (by omega)) (by omega) st_86.2
                have k8_86 : J_86 164 8 = J_37 164 8 ∧ J_86 183 = J_37 183 ∧ J_86 171 = J_37 171 := ⟨(g_86.2.1.2.2.1.2.2.1 8 (by decide)).trans k8_67.1, (g_86.2.1.2.2.1.2.2.2 183 rfl).trans k8_67.2.1, (g_86.2.1.2.2.1.2.2.2 171 rfl).trans k8_67.2.2⟩
                have k6_86 : J_86 164 46 = J_67 164 46 := g_86.2.1.2.2.1.2.2.1 46 (by decide)
                refine tz_istore (pc := 89) (L2 := [_, _, _, _, _, _, _, _, _]) dX12_years_89 (by decide) rfl ?_
                refine tz_aload_n (pc := 91) dX12_years_91 rfl rfl ?_
                refine tz_cV (pc := 92) (m_stopped hl n _) vl_X12_211 dX12_years_92 o_164 rfl rfl (Nat.le_of_ble_eq_true rfl) ⟨(Nat.le_of_ble_eq_true rfl), (Nat.le_of_ble_eq_true rfl)⟩ rfl rfl (Nat.le_of_ble_eq_true rfl) (Nat.le_of_ble_eq_true rfl) (fun r9 J_92 hq9 => ?_)
                obtain ⟨z_92, rfl, hz_92, rfl, hs_92⟩ := hq9
                refine tz_if_ne (pc := 95) (tgt := 102) dX12_years_95 (by decide) (by omega) (fun h_95 => ?_) (fun h_95 => ?_)
                · refine tz_iconst (pc := 102) dX12_years_102 ?_
                  refine tz_istore (pc := 103) (L2 := [_, _, _, _, _, _, _, _, _]) dX12_years_103 (by decide) rfl ?_
                  refine tz_iload (pc := 105) dX12_years_105 rfl ?_
                  refine tz_if_eqT (pc := 107) (tgt := 128) (by decide) dX12_years_107 (by decide) (by decide) ?_
                  refine tz_iinc (pc := 128) (z := k + 1) (L2 := [_, _, _, _, _, _, _, _, _]) dX12_years_128 rfl (by omega) rfl ?_
                  refine tz_goto (pc := 131) (tgt := 54) dX12_years_131 (by decide) ?_
                  exact ih54 _ _ (k + 1) _ _ _ _ (by omega) (by omega) (by omega) (by omega) a_86 (fun q9 => by omega) po_86 k8_86 (by rw [yr_s (by omega)]; exact ym_stop ym1 x_67 (by omega) f4_67 e_86 (by omega))
                · refine tz_iconst (pc := 98) dX12_years_98 ?_
                  refine tz_goto (pc := 99) (tgt := 103) dX12_years_99 (by decide) ?_
                  refine tz_istore (pc := 103) (L2 := [_, _, _, _, _, _, _, _, _]) dX12_years_103 (by decide) rfl ?_
                  refine tz_iload (pc := 105) dX12_years_105 rfl ?_
                  refine tz_if_eqF (pc := 107) (tgt := 128) (by decide) dX12_years_107 (by decide) (by decide) ?_
                  refine tz_iload (pc := 110) dX12_years_110 rfl ?_
                  refine tz_aload_n (pc := 112) dX12_years_112 rfl rfl ?_
                  refine tz_iload (pc := 113) dX12_years_113 rfl ?_
                  have hwx_86 : ∀ k9, 0 ≤ k9 → k9 < J_86 164 9 → 1 ≤ J_86 171 (0 + k9) ∧ J_86 171 (0 + k9) ≤ 9 := fun k9 a9 b9 => by have s9 : J_86 164 9 = J 164 9 := po_86.2.2.1.1.trans s9_37; rw [s9] at b9; rw [k8_86.2.2, bo_37 171 rfl, y_28.1 171 rfl]; exact hw9 k9 a9 b9
                  have wr_115 := mwt_rg (a_86).1.1 hwx_86 (t := z_67) (by omega)
                  refine tz_cV (pc := 115) (x_weight hl n _ _ (by omega) 0 0 0 (J_86 164 9) m_86 (a_86).1.1 (by omega) hwx_86) vl_X12_120 dX12_years_115 o_164 rfl rfl (Nat.le_of_ble_eq_true rfl) ⟨(Nat.le_of_ble_eq_true rfl), (Nat.le_of_ble_eq_true rfl)⟩ rfl rfl (Nat.le_of_ble_eq_true rfl) (Nat.le_of_ble_eq_true rfl) (fun r9 J_115 hq9 => ?_)
                  obtain ⟨z_115, rfl, hz_115, rfl, wt_115⟩ := hq9
                  refine tz_aload_n (pc := 118) dX12_years_118 rfl rfl ?_
                  refine tz_iload (pc := 119) dX12_years_119 rfl ?_
                  have hwx_86 : ∀ k9, 0 ≤ k9 → k9 < J_86 164 9 → 1 ≤ J_86 171 (0 + k9) ∧ J_86 171 (0 + k9) ≤ 9 := fun k9 a9 b9 => by have s9 : J_86 164 9 = J 164 9 := po_86.2.2.1.1.trans s9_37; rw [s9] at b9; rw [k8_86.2.2, bo_37 171 rfl, y_28.1 171 rfl]; exact hw9 k9 a9 b9
                  have wr_121 := mwt_rg (a_86).1.1 hwx_86 (t := z_86) (by omega)
                  refine tz_cV (pc := 121) (x_weight hl n _ _ (by omega) 0 0 0 (J_86 164 9) m_86 (a_86).1.1 (by omega) hwx_86) vl_X12_120 dX12_years_121 o_164 rfl rfl (Nat.le_of_ble_eq_true rfl) ⟨(Nat.le_of_ble_eq_true rfl), (Nat.le_of_ble_eq_true rfl)⟩ rfl rfl (Nat.le_of_ble_eq_true rfl) (Nat.le_of_ble_eq_true rfl) (fun r9 J_121 hq9 => ?_)
                  obtain ⟨z_121, rfl, hz_121, rfl, wt_121⟩ := hq9
                  refine tz_isub (pc := 124) (v := z_115 - z_121) dX12_years_124 rfl ?_
                  refine tz_iadd (pc := 125) (v := q + (z_115 - z_121)) dX12_years_125 rfl ?_
                  refine tz_istore (pc := 126) (L2 := [_, _, _, _, _, _, _, _, _]) dX12_years_126 (by decide) rfl ?_
                  refine tz_iinc (pc := 128) (z := k + 1) (L2 := [_, _, _, _, _, _, _, _, _]) dX12_years_128 rfl (by omega) rfl ?_
                  refine tz_goto (pc := 131) (tgt := 54) dX12_years_131 (by decide) ?_
                  exact ih54 _ _ (k + 1) _ _ _ _ (by omega) (by omega) (by omega) (by omega) a_86 (fun q9 => by omega) po_86 k8_86 (by rw [yr_s (by omega)]; exact ym_go ym1 x_67 (by omega) f4_67 e_86 (by omega) k6_86 a_86.1.1 (by omega) (by omega) wt_115 wt_121)
              · refine tz_iconst (pc := 79) dX12_years_79 ?_
                refine tz_goto (pc := 80) (tgt := 89) dX12_years_80 (by decide) ?_
                refine tz_istore (pc := 89) (L2 := [_, _, _, _, _, _, _, _, _]) dX12_years_89 (by decide) rfl ?_
                refine tz_aload_n (pc := 91) dX12_years_91 rfl rfl ?_
                refine tz_cV (pc := 92) (m_stopped hl n _) vl_X12_211 dX12_years_92 o_164 rfl rfl (Nat.le_of_ble_eq_true rfl) ⟨(Nat.le_of_ble_eq_true rfl), (Nat.le_of_ble_eq_true rfl)⟩ rfl rfl (Nat.le_of_ble_eq_true rfl) (Nat.le_of_ble_eq_true rfl) (fun r9 J_92 hq9 => ?_)
                obtain ⟨z_92, rfl, hz_92, rfl, hs_92⟩ := hq9
                refine tz_if_ne (pc := 95) (tgt := 102) dX12_years_95 (by decide) (by omega) (fun h_95 => ?_) (fun h_95 => ?_)
                · refine tz_iconst (pc := 102) dX12_years_102 ?_
                  refine tz_istore (pc := 103) (L2 := [_, _, _, _, _, _, _, _, _]) dX12_years_103 (by decide) rfl ?_
                  refine tz_iload (pc := 105) dX12_years_105 rfl ?_
                  refine tz_if_eqT (pc := 107) (tgt := 128) (by decide) dX12_years_107 (by decide) (by decide) ?_
                  refine tz_iinc (pc := 128) (z := k + 1) (L2 := [_, _, _, _, _, _, _, _, _]) dX12_years_128 rfl (by omega) rfl ?_
                  refine tz_goto (pc := 131) (tgt := 54) dX12_years_131 (by decide) ?_
                  exact ih54 _ _ (k + 1) _ _ _ _ (by omega) (by omega) (by omega) (by omega) a_67 (fun q9 => by omega) po_67 k8_67 (by rw [yr_s (by omega)]; exact ym_full ym1 x_67 (by omega))
                · refine tz_iconst (pc := 98) dX12_years_98 ?_
                  refine tz_goto (pc := 99) (tgt := 103) dX12_years_99 (by decide) ?_
                  refine tz_istore (pc := 103) (L2 := [_, _, _, _, _, _, _, _, _]) dX12_years_103 (by decide) rfl ?_
                  refine tz_iload (pc := 105) dX12_years_105 rfl ?_
                  refine tz_if_eqF (pc := 107) (tgt := 128) (by decide) dX12_years_107 (by decide) (by decide) ?_
                  refine tz_iload (pc := 110) dX12_years_110 rfl ?_
                  refine tz_aload_n (pc := 112) dX12_years_112 rfl rfl ?_
                  refine tz_iload (pc := 113) dX12_years_113 rfl ?_
                  have hwx_67 : ∀ k9, 0 ≤ k9 → k9 < J_67 164 9 → 1 ≤ J_67 171 (0 + k9) ∧ J_67 171 (0 + k9) ≤ 9 := fun k9 a9 b9 => by have s9 : J_67 164 9 = J 164 9 := po_67.2.2.1.1.trans s9_37; rw [s9] at b9; rw [k8_67.2.2, bo_37 171 rfl, y_28.1 171 rfl]; exact hw9 k9 a9 b9
                  have wr_115 := mwt_rg (a_67).1.1 hwx_67 (t := z_67) (by omega)
                  refine tz_cV (pc := 115) (x_weight hl n _ _ (by omega) 0 0 0 (J_67 164 9) m_67 (a_67).1.1 (by omega) hwx_67) vl_X12_120 dX12_years_115 o_164 rfl rfl (Nat.le_of_ble_eq_true rfl) ⟨(Nat.le_of_ble_eq_true rfl), (Nat.le_of_ble_eq_true rfl)⟩ rfl rfl (Nat.le_of_ble_eq_true rfl) (Nat.le_of_ble_eq_true rfl) (fun r9 J_115 hq9 => ?_)
                  obtain ⟨z_115, rfl, hz_115, rfl, wt_115⟩ := hq9
                  refine tz_aload_n (pc := 118) dX12_years_118 rfl rfl ?_
                  refine tz_iload (pc := 119) dX12_years_119 rfl ?_
                  have hwx_67 : ∀ k9, 0 ≤ k9 → k9 < J_67 164 9 → 1 ≤ J_67 171 (0 + k9) ∧ J_67 171 (0 + k9) ≤ 9 := fun k9 a9 b9 => by have s9 : J_67 164 9 = J 164 9 := po_67.2.2.1.1.trans s9_37; rw [s9] at b9; rw [k8_67.2.2, bo_37 171 rfl, y_28.1 171 rfl]; exact hw9 k9 a9 b9
                  have wr_121 := mwt_rg (a_67).1.1 hwx_67 (t := 0) (by omega)
                  refine tz_cV (pc := 121) (x_weight hl n _ _ (by omega) 0 0 0 (J_67 164 9) m_67 (a_67).1.1 (by omega) hwx_67) vl_X12_120 dX12_years_121 o_164 rfl rfl (Nat.le_of_ble_eq_true rfl) ⟨(Nat.le_of_ble_eq_true rfl), (Nat.le_of_ble_eq_true rfl)⟩ rfl rfl (Nat.le_of_ble_eq_true rfl) (Nat.le_of_ble_eq_true rfl) (fun r9 J_121 hq9 => ?_)
                  obtain ⟨z_121, rfl, hz_121, rfl, wt_121⟩ := hq9
                  refine tz_isub (pc := 124) (v := z_115 - z_121) dX12_years_124 rfl ?_
                  refine tz_iadd (pc := 125) (v := q + (z_115 - z_121)) dX12_years_125 rfl ?_
                  refine tz_istore (pc := 126) (L2 := [_, _, _, _, _, _, _, _, _]) dX12_years_126 (by decide) rfl ?_
                  refine tz_iinc (pc := 128) (z := k + 1) (L2 := [_, _, _, _, _, _, _, _, _]) dX12_years_128 rfl (by omega) rfl ?_
                  refine tz_goto (pc := 131) (tgt := 54) dX12_years_131 (by decide) ?_
                  exact ih54 _ _ (k + 1) _ _ _ _ (by omega) (by omega) (by omega) (by omega) a_67 (fun q9 => by omega) po_67 k8_67 (by exfalso; omega)
      exact loop54 _ 0 1 0 none none _ m (Nat.lt_succ_self _) (by omega) (by omega) (by omega) (AM.z a_37 (MZ.up (k := 46) MZ.rf (by decide)) (fun q => q)) (fun _ => ⟨b3_37.1, by show 0 ≤ J_37 164 34; omega, by show J_37 164 34 ≤ 100; omega⟩) MOP.i46 ⟨zup_ne (by decide), rfl, rfl⟩ (ym_0 bt_37 b3_37.2.2)
    · refine tz_iconst (pc := 34) dX12_years_34 ?_
      exact tz_iret (pc := 35) (z := 0) dX12_years_35 rfl (Nat.le_of_ble_eq_true rfl) (Nat.le_of_ble_eq_true rfl) ⟨Nat.le_refl _, Nat.le_add_right _ _⟩ ⟨_, rfl, (by decide), ⟨MQr.z hI y_28, MFI.z y_28, MBT.z hI y_28, u9.z y_28, y_28.1 183 rfl, by first | exact Or.inr (Or.inl ⟨(v_28.1 (by omega)).1, by omega⟩) | exact Or.inr (Or.inr ⟨(v_28.1 (by omega)).1, by omega, by omega⟩)⟩⟩

