/-! ===== years of the class: all is as before ===== -/
set_option maxHeartbeats 4000000 in
set_option maxRecDepth 100000 in
theorem v_years {l : Launch} {G : tb_G} (hl : l.stackTraces = false) (n : Nat) (J : zJ) (s : Int) (y : Int) (u : Int) (hr_s : -2147483648 ≤ s ∧ s < 2147483648) (hr_y : -2147483648 ≤ y ∧ y < 2147483648) (hr_u : -2147483648 ≤ u ∧ u < 2147483648) (m : Int) (S : zJ) (pn : Int) (RR : Int → Int → Int) (hI : CI J m) (h9 : J 145 10 < 1000000000) (cc : CAL J S pn RR) (h21 : S 164 21 = 0) : tz_Ok l G M_X11_years 13 1 6 [.ref 0, zi s, zi y, zi u] n J (zqi (fun z J' => CQ J' J ∧ CAL J' S pn RR)) (fun E J' => (E = "java/util/NoSuchElementException" ∨ E = "java/lang/IllegalArgumentException") ∧ J = J') := by
  refine tz_Ok.of hl (by decide +kernel) rfl (tb_c1 rfl) (Nat.le_of_ble_eq_true rfl) ?_
  show tz_At l G M_X11_years (tb_rm 13 1 6) none (tb_ZM G 1 6 (zQ n 1 (zqi (fun z J' => CQ J' J ∧ CAL J' S pn RR))) (zX n 1 (fun E J' => (E = "java/util/NoSuchElementException" ∨ E = "java/lang/IllegalArgumentException") ∧ J = J'))) 0 0 n J 0 [some (.ref 0), some (zi s), some (zi y), some (zi u), none, none] []
  have hC := hI.1.1.1
  have hm := hI.1.1.2.1
  have hL := hI.1.1.2.2
  have hb := hC.told
  have wb := cc.2.1.b hL
  refine tz_iload_n (pc := 0) dX11_years_0 rfl rfl ?_
  refine tz_if_lt (pc := 1) (tgt := 9) dX11_years_1 (by decide) (by omega) (fun h_1 => ?_) (fun h_1 => ?_)
  · exact tz_throwNW (pc := 9) (text := "no such question of the years") th_X11_188_192 (by decide +kernel) rfl dX11_years_9 dX11_years_12 dX11_years_13 dX11_years_16 dX11_years_19 (Nat.le_of_ble_eq_true rfl) (Nat.le_of_ble_eq_true rfl) (Nat.le_of_ble_eq_true rfl) (Nat.le_of_ble_eq_true rfl) (Nat.le_of_ble_eq_true rfl) (Nat.le_of_ble_eq_true rfl) ⟨Nat.le_refl _, Nat.le_add_right _ _⟩ ⟨by first | exact Or.inl rfl | exact Or.inr rfl, rfl⟩
  · refine tz_iload_n (pc := 4) dX11_years_4 rfl rfl ?_
    refine tz_iconst (pc := 5) dX11_years_5 ?_
    refine tz_icmp_le (pc := 6) (tgt := 20) dX11_years_6 (by decide) (by omega) (by decide) (fun h_6 => ?_) (fun h_6 => ?_)
    · refine tz_iload_n (pc := 20) dX11_years_20 rfl rfl ?_
      refine tz_if_lt (pc := 21) (tgt := 30) dX11_years_21 (by decide) (by omega) (fun h_21 => ?_) (fun h_21 => ?_)
      · exact tz_throwW (pc := 30) (text := "not so many years") th_X11_122_126 (by decide +kernel) rfl dX11_years_30 dX11_years_33 dX11_years_34 dX11_years_37 dX11_years_40 (Nat.le_of_ble_eq_true rfl) (Nat.le_of_ble_eq_true rfl) (Nat.le_of_ble_eq_true rfl) (Nat.le_of_ble_eq_true rfl) (Nat.le_of_ble_eq_true rfl) (Nat.le_of_ble_eq_true rfl) ⟨Nat.le_refl _, Nat.le_add_right _ _⟩ ⟨by first | exact Or.inl rfl | exact Or.inr rfl, rfl⟩
      · refine tz_iload_n (pc := 24) dX11_years_24 rfl rfl ?_
        refine tz_bipush (pc := 25) dX11_years_25 (by decide) ?_
        refine tz_icmp_le (pc := 27) (tgt := 41) dX11_years_27 (by decide) (by omega) (by decide) (fun h_27 => ?_) (fun h_27 => ?_)
        · refine tz_aload_n (pc := 41) dX11_years_41 rfl rfl ?_
          refine tz_fR (pc := 42) dX11_years_42 fl_X11_29 r_0_1 ?_
          refine tz_cV (pc := 45) (c_begin hl n _) vl_X11_287 dX11_years_45 o_5 rfl rfl (Nat.le_of_ble_eq_true rfl) ⟨(Nat.le_of_ble_eq_true rfl), (Nat.le_of_ble_eq_true rfl)⟩ rfl rfl (Nat.le_of_ble_eq_true rfl) (Nat.le_of_ble_eq_true rfl) (fun r9 Jb hq9 => ?_)
          obtain ⟨rfl, hj⟩ := hq9
          have hb9 : zOf (zbut [19, 61]) Jb J := by rw [← hj]; exact zOf.cp rfl (zOf.up rfl zOf.rf)
          have hb19 : ∀ k, ¬ k = 0 → Jb 19 k = J 19 k := fun k hk => by rw [← hj, zcp_nc (by decide), zup_ne hk]
          have a0 : AC Jb m m := by rw [← hj]; exact hI.begin
          have hb6 := a0.1.1.2.1
          obtain ⟨cb, kb, lb⟩ := cc.begin hI hj
          refine tz_aload_n (pc := 48) dX11_years_48 rfl rfl ?_
          refine tz_iload_n (pc := 49) dX11_years_49 rfl rfl ?_
          refine tz_iload_n (pc := 50) dX11_years_50 rfl rfl ?_
          refine tz_cV (pc := 51) (c_lostBy hl n _ _ _ (by omega) (by omega) m a0.1.1.1 a0.1.1.2.1 a0.1.1.2.2 (by omega)) vl_X11_382 dX11_years_51 o_0 rfl rfl (Nat.le_of_ble_eq_true rfl) ⟨(Nat.le_of_ble_eq_true rfl), (Nat.le_of_ble_eq_true rfl)⟩ rfl rfl (Nat.le_of_ble_eq_true rfl) (Nat.le_of_ble_eq_true rfl) (fun r9 J1 hq9 => ?_)
          obtain ⟨zl, rfl, hz_51, m1, g1, l1⟩ := hq9
          have a1 := a0.gx g1 rfl l1 (a0.1.2.1.of (g1.2.2.2.2 145 rfl) (g1.2.2.2.2 146 rfl))
          refine tz_istore (pc := 54) (L2 := [_, _, _, _, _, _]) dX11_years_54 (by decide) rfl ?_
          refine tz_iload (pc := 56) dX11_years_56 rfl ?_
          refine tz_iconst (pc := 58) dX11_years_58 ?_
          refine tz_icmp_ne (pc := 59) (tgt := 66) dX11_years_59 (by decide) (by omega) (by decide) (fun h_59 => ?_) (fun h_59 => ?_)
          · refine tz_aload_n (pc := 66) dX11_years_66 rfl rfl ?_
            refine tz_iload (pc := 67) dX11_years_67 rfl ?_
            refine tz_iload_n (pc := 69) dX11_years_69 rfl rfl ?_
            refine tz_cV (pc := 70) (c_yAns hl n _ _ _ (by omega) (by omega)) vl_X11_385 dX11_years_70 o_0 rfl rfl (Nat.le_of_ble_eq_true rfl) ⟨(Nat.le_of_ble_eq_true rfl), (Nat.le_of_ble_eq_true rfl)⟩ rfl rfl (Nat.le_of_ble_eq_true rfl) (Nat.le_of_ble_eq_true rfl) (fun r9 J_70 hq9 => ?_)
            obtain ⟨z_70, rfl, hz_70, rfl⟩ := hq9
            refine tz_istore (pc := 73) (L2 := [_, _, _, _, _, _]) dX11_years_73 (by decide) rfl ?_
            refine tz_aload_n (pc := 75) dX11_years_75 rfl rfl ?_
            refine tz_fR (pc := 76) dX11_years_76 fl_X11_29 r_0_1 ?_
            refine tz_cV (pc := 79) (c_rollBack hl n _ m1 a1.1.1.1 a1.1.1.2.1 (by rw [a1.2.2.1.2]; exact a1.2.2.2)) vl_X11_388 dX11_years_79 o_5 rfl rfl (Nat.le_of_ble_eq_true rfl) ⟨(Nat.le_of_ble_eq_true rfl), (Nat.le_of_ble_eq_true rfl)⟩ rfl rfl (Nat.le_of_ble_eq_true rfl) (Nat.le_of_ble_eq_true rfl) (fun r9 J_79 hq9 => ?_)
            obtain ⟨rfl, b1, b2, b3, b4⟩ := hq9
            have hc := a1.back b1 b2 b3 b4
            refine tz_iload (pc := 82) dX11_years_82 rfl ?_
            exact tz_iret (pc := 84) (z := z_70) dX11_years_84 rfl (Nat.le_of_ble_eq_true rfl) (Nat.le_of_ble_eq_true rfl) ⟨Nat.le_refl _, Nat.le_add_right _ _⟩ ⟨_, rfl, (by omega), ⟨(SQ.cq ⟨⟨m, hc⟩, b1 145 rfl, b1 0 rfl, (b1.mono (fun c hc => by have := of_decide_eq_true hc; simp [zbut]; omega))⟩ (by rw [g1.2.2.2.2 145 rfl, hb9 145 rfl]; omega) ((g1.2.2.2.2 0 rfl).trans (hb9 0 rfl)) ((g1.2.2.2.2.mono (fun c hc => by have := of_decide_eq_true hc; simp [zbut]; omega)).tr (hb9.mono (fun c hc => by have := of_decide_eq_true hc; simp [zbut]; omega)))), (act_fail (t := -3) (z := -3) cc hI hj g1 rfl (by decide) ⟨rfl, Or.inr ⟨by decide, b1.mono (zbut_sub (fun c hc => by simp at hc ⊢; omega)), b2, b3⟩⟩).2⟩⟩
          · refine tz_iconst (pc := 62) dX11_years_62 ?_
            refine tz_goto (pc := 63) (tgt := 73) dX11_years_63 (by decide) ?_
            refine tz_istore (pc := 73) (L2 := [_, _, _, _, _, _]) dX11_years_73 (by decide) rfl ?_
            refine tz_aload_n (pc := 75) dX11_years_75 rfl rfl ?_
            refine tz_fR (pc := 76) dX11_years_76 fl_X11_29 r_0_1 ?_
            refine tz_cV (pc := 79) (c_rollBack hl n _ m1 a1.1.1.1 a1.1.1.2.1 (by rw [a1.2.2.1.2]; exact a1.2.2.2)) vl_X11_388 dX11_years_79 o_5 rfl rfl (Nat.le_of_ble_eq_true rfl) ⟨(Nat.le_of_ble_eq_true rfl), (Nat.le_of_ble_eq_true rfl)⟩ rfl rfl (Nat.le_of_ble_eq_true rfl) (Nat.le_of_ble_eq_true rfl) (fun r9 J_79 hq9 => ?_)
            obtain ⟨rfl, b1, b2, b3, b4⟩ := hq9
            have hc := a1.back b1 b2 b3 b4
            refine tz_iload (pc := 82) dX11_years_82 rfl ?_
            exact tz_iret (pc := 84) (z := (-1)) dX11_years_84 rfl (Nat.le_of_ble_eq_true rfl) (Nat.le_of_ble_eq_true rfl) ⟨Nat.le_refl _, Nat.le_add_right _ _⟩ ⟨_, rfl, (by decide), ⟨(SQ.cq ⟨⟨m, hc⟩, b1 145 rfl, b1 0 rfl, (b1.mono (fun c hc => by have := of_decide_eq_true hc; simp [zbut]; omega))⟩ (by rw [g1.2.2.2.2 145 rfl, hb9 145 rfl]; omega) ((g1.2.2.2.2 0 rfl).trans (hb9 0 rfl)) ((g1.2.2.2.2.mono (fun c hc => by have := of_decide_eq_true hc; simp [zbut]; omega)).tr (hb9.mono (fun c hc => by have := of_decide_eq_true hc; simp [zbut]; omega)))), (act_fail (t := -3) (z := -3) cc hI hj g1 rfl (by decide) ⟨rfl, Or.inr ⟨by decide, b1.mono (zbut_sub (fun c hc => by simp at hc ⊢; omega)), b2, b3⟩⟩).2⟩⟩
        · exact tz_throwW (pc := 30) (text := "not so many years") th_X11_122_126 (by decide +kernel) rfl dX11_years_30 dX11_years_33 dX11_years_34 dX11_years_37 dX11_years_40 (Nat.le_of_ble_eq_true rfl) (Nat.le_of_ble_eq_true rfl) (Nat.le_of_ble_eq_true rfl) (Nat.le_of_ble_eq_true rfl) (Nat.le_of_ble_eq_true rfl) (Nat.le_of_ble_eq_true rfl) ⟨Nat.le_refl _, Nat.le_add_right _ _⟩ ⟨by first | exact Or.inl rfl | exact Or.inr rfl, rfl⟩
    · exact tz_throwNW (pc := 9) (text := "no such question of the years") th_X11_188_192 (by decide +kernel) rfl dX11_years_9 dX11_years_12 dX11_years_13 dX11_years_16 dX11_years_19 (Nat.le_of_ble_eq_true rfl) (Nat.le_of_ble_eq_true rfl) (Nat.le_of_ble_eq_true rfl) (Nat.le_of_ble_eq_true rfl) (Nat.le_of_ble_eq_true rfl) (Nat.le_of_ble_eq_true rfl) ⟨Nat.le_refl _, Nat.le_add_right _ _⟩ ⟨by first | exact Or.inl rfl | exact Or.inr rfl, rfl⟩

