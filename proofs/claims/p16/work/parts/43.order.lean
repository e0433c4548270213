theorem CT.pos {J : zJ} {m s t : Int} (h : CT J m) (hs : 0 ≤ s ∧ s < m) (ht : 0 ≤ t ∧ t < m) (e : J 7 s = J 7 t) (ne : ¬ s = t) : 0 < J 8 s := by
  have ha := (h.ar ht.1 ht.2).1
  have e8 := h.arh hs ht e
  by_cases h0 : 0 < J 8 s
  · exact h0
  · exfalso
    refine ne (h.1.1.2.2.2 s t hs.1 hs.2 ht.1 ht.2 ⟨e, fun i a b => ?_⟩)
    rw [← (h.2.1 t ht.1 ht.2).1.1] at b
    omega
set_option maxHeartbeats 4000000 in
set_option maxRecDepth 100000 in
theorem c_tryW {l : Launch} {G : tb_G} (hl : l.stackTraces = false) (n : Nat) (J : zJ) (s : Int) (w : Int) (hr_s : -2147483648 ≤ s ∧ s < 2147483648) (hr_w : -2147483648 ≤ w ∧ w < 2147483648)   : tz_Ok l G M_X4_tryWeight 0 0 0 [.ref 156, zi s, zi w] n J (zqv (fun J' => zup (zup J 156 3 s) 156 4 w = J')) zN := by
  refine tz_Ok.of hl (by decide +kernel) rfl (tb_c1 rfl) (Nat.le_of_ble_eq_true rfl) ?_
  show tz_At l G M_X4_tryWeight (tb_rm 0 0 0) none (tb_ZM G 0 0 (zQ n 0 (zqv (fun J' => zup (zup J 156 3 s) 156 4 w = J'))) (zX n 0 zN)) 0 0 n J 0 [some (.ref 156), some (zi s), some (zi w)] []
  refine tz_aload_n (pc := 0) dX4_tryWeight_0 rfl rfl ?_
  refine tz_iload_n (pc := 1) dX4_tryWeight_1 rfl rfl ?_
  refine tz_pI (pc := 2) (kz := 3) dX4_tryWeight_2 fl_X4_19 i_156_3 rfl rfl (by omega) ?_
  refine tz_aload_n (pc := 5) dX4_tryWeight_5 rfl rfl ?_
  refine tz_iload_n (pc := 6) dX4_tryWeight_6 rfl rfl ?_
  refine tz_pI (pc := 7) (kz := 4) dX4_tryWeight_7 fl_X4_22 i_156_4 rfl rfl (by omega) ?_
  exact tz_vret (pc := 10) dX4_tryWeight_10 rfl (Nat.le_of_ble_eq_true rfl) (Nat.le_of_ble_eq_true rfl) ⟨Nat.le_refl _, Nat.le_add_right _ _⟩ ⟨rfl, rfl⟩

set_option maxHeartbeats 4000000 in
set_option maxRecDepth 100000 in
theorem c_tryN {l : Launch} {G : tb_G} (hl : l.stackTraces = false) (n : Nat) (J : zJ)     : tz_Ok l G M_X4_tryNothing 0 0 0 [.ref 156] n J (zqv (fun J' => zup J 156 3 (-1) = J')) zN := by
  refine tz_Ok.of hl (by decide +kernel) rfl (tb_c1 rfl) (Nat.le_of_ble_eq_true rfl) ?_
  show tz_At l G M_X4_tryNothing (tb_rm 0 0 0) none (tb_ZM G 0 0 (zQ n 0 (zqv (fun J' => zup J 156 3 (-1) = J'))) (zX n 0 zN)) 0 0 n J 0 [some (.ref 156)] []
  refine tz_aload_n (pc := 0) dX4_tryNothing_0 rfl rfl ?_
  refine tz_iconst (pc := 1) dX4_tryNothing_1 ?_
  refine tz_pI (pc := 2) (kz := 3) dX4_tryNothing_2 fl_X4_19 i_156_3 rfl rfl (by decide) ?_
  exact tz_vret (pc := 5) dX4_tryNothing_5 rfl (Nat.le_of_ble_eq_true rfl) (Nat.le_of_ble_eq_true rfl) ⟨Nat.le_refl _, Nat.le_add_right _ _⟩ ⟨rfl, rfl⟩

set_option maxHeartbeats 4000000 in
set_option maxRecDepth 100000 in
theorem c_weigh7 {l : Launch} {G : tb_G} (hl : l.stackTraces = false) (n : Nat) (J : zJ) (t : Int) (sg : Int) (hr_t : -2147483648 ≤ t ∧ t < 2147483648) (hr_sg : -2147483648 ≤ sg ∧ sg < 2147483648) (m : Int) (C : CT J m) (ht : 0 ≤ t ∧ t < m) : tz_Ok l G M_X4_weigh 0 0 0 [.ref 156, zi t, zi sg, zi 7] n J (zqv (fun J' => zOf (zbut [156, 157]) J' J ∧ J' 156 3 = J 156 3)) zN := by
  refine tz_Ok.of hl (by decide +kernel) rfl (tb_c1 rfl) (Nat.le_of_ble_eq_true rfl) ?_
  show tz_At l G M_X4_weigh (tb_rm 0 0 0) none (tb_ZM G 0 0 (zQ n 0 (zqv (fun J' => zOf (zbut [156, 157]) J' J ∧ J' 156 3 = J 156 3))) (zX n 0 zN)) 0 0 n J 0 [some (.ref 156), some (zi t), some (zi sg), some (zi 7), none, none] []
  refine tz_iload_n (pc := 0) dX4_weigh_0 rfl rfl ?_
  refine tz_bipush (pc := 1) dX4_weigh_1 (by decide) ?_
  refine tz_icmp_leF (pc := 3) (tgt := 7) (by decide) dX4_weigh_3 (by decide) (by decide) (by decide) ?_
  exact tz_vret (pc := 6) dX4_weigh_6 rfl (Nat.le_of_ble_eq_true rfl) (Nat.le_of_ble_eq_true rfl) ⟨Nat.le_refl _, Nat.le_add_right _ _⟩ ⟨rfl, ⟨zOf.rf, rfl⟩⟩

set_option maxHeartbeats 4000000 in
set_option maxRecDepth 100000 in
theorem c_weigh6 {l : Launch} {G : tb_G} (hl : l.stackTraces = false) (n : Nat) (J : zJ) (t : Int) (sg : Int) (hr_t : -2147483648 ≤ t ∧ t < 2147483648) (hr_sg : -2147483648 ≤ sg ∧ sg < 2147483648) (m : Int) (C : CT J m) (ht : 0 ≤ t ∧ t < m) : tz_Ok l G M_X4_weigh 1 0 0 [.ref 156, zi t, zi sg, zi 6] n J (zqv (fun J' => zOf (zbut [156, 157]) J' J ∧ J' 156 3 = J 156 3)) zN := by
  refine tz_Ok.of hl (by decide +kernel) rfl (tb_c1 rfl) (Nat.le_of_ble_eq_true rfl) ?_
  show tz_At l G M_X4_weigh (tb_rm 1 0 0) none (tb_ZM G 0 0 (zQ n 0 (zqv (fun J' => zOf (zbut [156, 157]) J' J ∧ J' 156 3 = J 156 3))) (zX n 0 zN)) 0 0 n J 0 [some (.ref 156), some (zi t), some (zi sg), some (zi 6), none, none] []
  have hm := C.told
  have ha := C.ar ht.1 ht.2
  refine tz_iload_n (pc := 0) dX4_weigh_0 rfl rfl ?_
  refine tz_bipush (pc := 1) dX4_weigh_1 (by decide) ?_
  refine tz_icmp_leT (pc := 3) (tgt := 7) (by decide) dX4_weigh_3 (by decide) (by decide) (by decide) ?_
  refine tz_aload_n (pc := 7) dX4_weigh_7 rfl rfl ?_
  refine tz_fR (pc := 8) dX4_weigh_8 fl_X4_25 r_156_0 ?_
  refine tz_fR (pc := 11) dX4_weigh_11 fl_X4_43 r_6_1 ?_
  refine tz_iload_n (pc := 14) dX4_weigh_14 rfl rfl ?_
  refine tz_aL (pc := 15) (z := t) (v := (J 7 t)) dX4_weigh_15 a_7 rfl (by omega) rfl (fun r_15 => ?_)
  refine tz_istore (pc := 16) (L2 := [_, _, _, _, _, _]) dX4_weigh_16 (by decide) rfl ?_
  refine tz_iload (pc := 18) dX4_weigh_18 rfl ?_
  refine tz_if_ge (pc := 20) (tgt := 47) dX4_weigh_20 (by decide) (by omega) (fun h_20 => ?_) (fun h_20 => ?_)
  · refine tz_aload_n (pc := 47) dX4_weigh_47 rfl rfl ?_
    refine tz_dup (pc := 48) dX4_weigh_48 rfl ?_
    refine tz_fI (pc := 49) (kz := 2) (v := (J 156 2)) dX4_weigh_49 fl_X4_15 i_156_2 rfl rfl (fun r_49 => ?_)
    refine tz_iload_n (pc := 52) dX4_weigh_52 rfl rfl ?_
    refine tz_iload (pc := 53) dX4_weigh_53 rfl ?_
    refine tz_aload_n (pc := 55) dX4_weigh_55 rfl rfl ?_
    refine tz_fI (pc := 56) (kz := 3) (v := (J 156 3)) dX4_weigh_56 fl_X4_19 i_156_3 rfl rfl (fun r_56 => ?_)
    have join82 : ∀ (w : Int), (-2147483648 ≤ w ∧ w < 2147483648) → tz_At l G M_X4_weigh (tb_rm 1 0 0) none (tb_ZM G 0 0 (zQ n 0 (zqv (fun J' => zOf (zbut [156, 157]) J' J ∧ J' 156 3 = J 156 3))) (zX n 0 zN)) 0 0 n J 82 [some (.ref 156), some (zi t), some (zi sg), some (zi 6), some (zi (J 7 t)), none] (zi w :: zi sg :: zi (J 156 2) :: .ref 156 :: []) := by
      intro w hr_w
      refine tz_imul (pc := 82) (v := sg * w) dX4_weigh_82 rfl ?_
      refine tz_tw ?_
      have rw_83 := zw_rg (sg * w)
      refine tz_iadd (pc := 83) (v := (J 156 2) + (zw (sg * w))) dX4_weigh_83 rfl ?_
      refine tz_tw ?_
      have rw_84 := zw_rg ((J 156 2) + (zw (sg * w)))
      refine tz_pI (pc := 84) (kz := 2) dX4_weigh_84 fl_X4_15 i_156_2 rfl rfl (zw_rg _) ?_
      refine tz_iconst (pc := 87) dX4_weigh_87 ?_
      refine tz_istore (pc := 88) (L2 := [_, _, _, _, _, _]) dX4_weigh_88 (by decide) rfl ?_
      have loop90 : ∀ (f9 : Nat) (i : Int) (J1 : zJ), ((3 - i).toNat) < f9 → (0 ≤ i ∧ i ≤ J 8 t) → (zOf (zbut [156, 157]) J1 J) → (J1 156 3 = J 156 3) → tz_At l G M_X4_weigh (tb_rm 1 0 0) none (tb_ZM G 0 0 (zQ n 0 (zqv (fun J' => zOf (zbut [156, 157]) J' J ∧ J' 156 3 = J 156 3))) (zX n 0 zN)) 0 0 n J1 90 [some (.ref 156), some (zi t), some (zi sg), some (zi 6), some (zi (J 7 t)), some (zi i)] [] := by
        intro f9
        induction f9 with
        | zero => intro i J1 hm9; exact absurd hm9 (Nat.not_lt_zero _)
        | succ f9 ih90 =>
          intro i J1 hm90 hi fr f3
          have e9 := fr 9 rfl
          refine tz_iload (pc := 90) dX4_weigh_90 rfl ?_
          refine tz_aload_n (pc := 92) dX4_weigh_92 rfl rfl ?_
          refine tz_fR (pc := 93) dX4_weigh_93 fl_X4_25 r_156_0 ?_
          refine tz_fR (pc := 96) dX4_weigh_96 fl_X4_72 r_6_2 ?_
          refine tz_iload_n (pc := 99) dX4_weigh_99 rfl rfl ?_
          refine tz_aL (pc := 100) (z := t) (v := (J 8 t)) dX4_weigh_100 a_8 rfl (by omega) (Eq.trans (congrFun (fr 8 rfl) t) rfl) (fun r_100 => ?_)
          refine tz_icmp_ge (pc := 101) (tgt := 128) dX4_weigh_101 (by decide) (by omega) (by omega) (fun h_101 => ?_) (fun h_101 => ?_)
          · exact tz_vret (pc := 128) dX4_weigh_128 rfl (Nat.le_of_ble_eq_true rfl) (Nat.le_of_ble_eq_true rfl) ⟨Nat.le_refl _, Nat.le_add_right _ _⟩ ⟨rfl, (by first | exact ⟨fr, f3⟩ | exact ⟨zOf.up rfl (zOf.up rfl zOf.rf), rfl⟩)⟩
          · refine tz_aload_n (pc := 104) dX4_weigh_104 rfl rfl ?_
            refine tz_aload_n (pc := 105) dX4_weigh_105 rfl rfl ?_
            refine tz_fR (pc := 106) dX4_weigh_106 fl_X4_25 r_156_0 ?_
            refine tz_iload_n (pc := 109) dX4_weigh_109 rfl rfl ?_
            refine tz_iload (pc := 110) dX4_weigh_110 rfl ?_
            refine tz_cV (pc := 112) (c_arg hl n _ _ _ (by omega) (by omega) (by omega)) vl_X4_50 dX4_weigh_112 o_6 rfl rfl (Nat.le_of_ble_eq_true rfl) ⟨(Nat.le_of_ble_eq_true rfl), (Nat.le_of_ble_eq_true rfl)⟩ rfl rfl (Nat.le_of_ble_eq_true rfl) (Nat.le_of_ble_eq_true rfl) (fun r9 J_112 hq9 => ?_)
            obtain ⟨z_112, rfl, hz_112, rfl, rfl⟩ := hq9
            refine tz_iload_n (pc := 115) dX4_weigh_115 rfl rfl ?_
            refine tz_iload_n (pc := 116) dX4_weigh_116 rfl rfl ?_
            refine tz_iconst (pc := 117) dX4_weigh_117 ?_
            refine tz_iadd (pc := 118) (v := 7) dX4_weigh_118 (by decide) ?_
            have g1 := (C.arg (t := t) (i := i) (by omega) (by omega) (by omega) (by omega)).1
            rw [← e9] at g1
            refine tz_cV (pc := 119) (c_weigh7 hl n _ _ _ (by omega) (by omega) m (C.of (fun c hc => fr c (by simp [zbut]; omega))) (by omega)) vl_X4_59 dX4_weigh_119 o_156 rfl rfl (Nat.le_of_ble_eq_true rfl) ⟨(Nat.le_of_ble_eq_true rfl), (Nat.le_of_ble_eq_true rfl)⟩ rfl rfl (Nat.le_of_ble_eq_true rfl) (Nat.le_of_ble_eq_true rfl) (fun r9 J_119 hq9 => ?_)
            obtain ⟨rfl, f2, k2⟩ := hq9
            refine tz_iinc (pc := 122) (z := i + 1) (L2 := [_, _, _, _, _, _]) dX4_weigh_122 rfl (by omega) rfl ?_
            refine tz_goto (pc := 125) (tgt := 90) dX4_weigh_125 (by decide) ?_
            exact ih90 (i + 1) _ (by omega) (by omega) (f2.tr fr) (k2.trans f3)
      exact loop90 _ 0 _ (Nat.lt_succ_self _) (by omega) (zOf.up rfl zOf.rf) rfl
    refine tz_icmp_ne (pc := 59) (tgt := 69) dX4_weigh_59 (by decide) (by omega) (by omega) (fun h_59 => ?_) (fun h_59 => ?_)
    · refine tz_aload_n (pc := 69) dX4_weigh_69 rfl rfl ?_
      refine tz_fR (pc := 70) dX4_weigh_70 fl_X4_25 r_156_0 ?_
      refine tz_fR (pc := 73) dX4_weigh_73 fl_X4_63 r_6_0 ?_
      refine tz_fR (pc := 76) dX4_weigh_76 fl_X4_67 r_1_2 ?_
      refine tz_iload (pc := 79) dX4_weigh_79 rfl ?_
      refine tz_aL (pc := 81) (z := (J 7 t)) (v := (J 4 (J 7 t))) dX4_weigh_81 a_4 rfl (by omega) rfl (fun r_81 => ?_)
      exact join82 (J 4 (J 7 t)) (by omega) 
    · refine tz_aload_n (pc := 62) dX4_weigh_62 rfl rfl ?_
      refine tz_fI (pc := 63) (kz := 4) (v := (J 156 4)) dX4_weigh_63 fl_X4_22 i_156_4 rfl rfl (fun r_63 => ?_)
      refine tz_goto (pc := 66) (tgt := 82) dX4_weigh_66 (by decide) ?_
      exact join82 (J 156 4) (by omega) 
  · refine tz_aload_n (pc := 23) dX4_weigh_23 rfl rfl ?_
    refine tz_fR (pc := 24) dX4_weigh_24 fl_X4_9 r_156_1 ?_
    refine tz_iload (pc := 27) dX4_weigh_27 rfl ?_
    refine tz_iconst (pc := 29) dX4_weigh_29 ?_
    refine tz_ixor (pc := 30) (v := zxor (J 7 t) (-1)) dX4_weigh_30 rfl ?_
    refine tz_dup2 (pc := 31) dX4_weigh_31 rfl rfl ?_
    refine tz_aL (pc := 32) (z := (zxor (J 7 t) (-1))) (v := (J 157 (zxor (J 7 t) (-1)))) dX4_weigh_32 a_157 rfl (by rw [z_nn (by omega)]; omega) rfl (fun r_32 => ?_)
    refine tz_iload_n (pc := 33) dX4_weigh_33 rfl rfl ?_
    refine tz_iadd (pc := 34) (v := (J 157 (zxor (J 7 t) (-1))) + sg) dX4_weigh_34 rfl ?_
    refine tz_tw ?_
    have rw_35 := zw_rg ((J 157 (zxor (J 7 t) (-1))) + sg)
    refine tz_aS (pc := 35) (z := (zxor (J 7 t) (-1))) dX4_weigh_35 a_157 rfl (by rw [z_nn (by omega)]; omega) (zw_rg _) ?_
    refine tz_aload_n (pc := 36) dX4_weigh_36 rfl rfl ?_
    refine tz_dup (pc := 37) dX4_weigh_37 rfl ?_
    refine tz_fI (pc := 38) (kz := 2) (v := (J 156 2)) dX4_weigh_38 fl_X4_15 i_156_2 rfl rfl (fun r_38 => ?_)
    refine tz_iload_n (pc := 41) dX4_weigh_41 rfl rfl ?_
    refine tz_iadd (pc := 42) (v := (J 156 2) + sg) dX4_weigh_42 rfl ?_
    refine tz_tw ?_
    have rw_43 := zw_rg ((J 156 2) + sg)
    refine tz_pI (pc := 43) (kz := 2) dX4_weigh_43 fl_X4_15 i_156_2 rfl rfl (zw_rg _) ?_
    exact tz_vret (pc := 46) dX4_weigh_46 rfl (Nat.le_of_ble_eq_true rfl) (Nat.le_of_ble_eq_true rfl) ⟨Nat.le_refl _, Nat.le_add_right _ _⟩ ⟨rfl, (by first | exact ⟨fr, f3⟩ | exact ⟨zOf.up rfl (zOf.up rfl zOf.rf), rfl⟩)⟩

set_option maxHeartbeats 4000000 in
set_option maxRecDepth 100000 in
theorem c_weigh5 {l : Launch} {G : tb_G} (hl : l.stackTraces = false) (n : Nat) (J : zJ) (t : Int) (sg : Int) (hr_t : -2147483648 ≤ t ∧ t < 2147483648) (hr_sg : -2147483648 ≤ sg ∧ sg < 2147483648) (m : Int) (C : CT J m) (ht : 0 ≤ t ∧ t < m) : tz_Ok l G M_X4_weigh 2 0 0 [.ref 156, zi t, zi sg, zi 5] n J (zqv (fun J' => zOf (zbut [156, 157]) J' J ∧ J' 156 3 = J 156 3)) zN := by
  refine tz_Ok.of hl (by decide +kernel) rfl (tb_c1 rfl) (Nat.le_of_ble_eq_true rfl) ?_
  show tz_At l G M_X4_weigh (tb_rm 2 0 0) none (tb_ZM G 0 0 (zQ n 0 (zqv (fun J' => zOf (zbut [156, 157]) J' J ∧ J' 156 3 = J 156 3))) (zX n 0 zN)) 0 0 n J 0 [some (.ref 156), some (zi t), some (zi sg), some (zi 5), none, none] []
  have hm := C.told
  have ha := C.ar ht.1 ht.2
  refine tz_iload_n (pc := 0) dX4_weigh_0 rfl rfl ?_
  refine tz_bipush (pc := 1) dX4_weigh_1 (by decide) ?_
  refine tz_icmp_leT (pc := 3) (tgt := 7) (by decide) dX4_weigh_3 (by decide) (by decide) (by decide) ?_
  refine tz_aload_n (pc := 7) dX4_weigh_7 rfl rfl ?_
  refine tz_fR (pc := 8) dX4_weigh_8 fl_X4_25 r_156_0 ?_
  refine tz_fR (pc := 11) dX4_weigh_11 fl_X4_43 r_6_1 ?_
  refine tz_iload_n (pc := 14) dX4_weigh_14 rfl rfl ?_
  refine tz_aL (pc := 15) (z := t) (v := (J 7 t)) dX4_weigh_15 a_7 rfl (by omega) rfl (fun r_15 => ?_)
  refine tz_istore (pc := 16) (L2 := [_, _, _, _, _, _]) dX4_weigh_16 (by decide) rfl ?_
  refine tz_iload (pc := 18) dX4_weigh_18 rfl ?_
  refine tz_if_ge (pc := 20) (tgt := 47) dX4_weigh_20 (by decide) (by omega) (fun h_20 => ?_) (fun h_20 => ?_)
  · refine tz_aload_n (pc := 47) dX4_weigh_47 rfl rfl ?_
    refine tz_dup (pc := 48) dX4_weigh_48 rfl ?_
    refine tz_fI (pc := 49) (kz := 2) (v := (J 156 2)) dX4_weigh_49 fl_X4_15 i_156_2 rfl rfl (fun r_49 => ?_)
    refine tz_iload_n (pc := 52) dX4_weigh_52 rfl rfl ?_
    refine tz_iload (pc := 53) dX4_weigh_53 rfl ?_
    refine tz_aload_n (pc := 55) dX4_weigh_55 rfl rfl ?_
    refine tz_fI (pc := 56) (kz := 3) (v := (J 156 3)) dX4_weigh_56 fl_X4_19 i_156_3 rfl rfl (fun r_56 => ?_)
    have join82 : ∀ (w : Int), (-2147483648 ≤ w ∧ w < 2147483648) → tz_At l G M_X4_weigh (tb_rm 2 0 0) none (tb_ZM G 0 0 (zQ n 0 (zqv (fun J' => zOf (zbut [156, 157]) J' J ∧ J' 156 3 = J 156 3))) (zX n 0 zN)) 0 0 n J 82 [some (.ref 156), some (zi t), some (zi sg), some (zi 5), some (zi (J 7 t)), none] (zi w :: zi sg :: zi (J 156 2) :: .ref 156 :: []) := by
      intro w hr_w
      refine tz_imul (pc := 82) (v := sg * w) dX4_weigh_82 rfl ?_
      refine tz_tw ?_
      have rw_83 := zw_rg (sg * w)
      refine tz_iadd (pc := 83) (v := (J 156 2) + (zw (sg * w))) dX4_weigh_83 rfl ?_
      refine tz_tw ?_
      have rw_84 := zw_rg ((J 156 2) + (zw (sg * w)))
      refine tz_pI (pc := 84) (kz := 2) dX4_weigh_84 fl_X4_15 i_156_2 rfl rfl (zw_rg _) ?_
      refine tz_iconst (pc := 87) dX4_weigh_87 ?_
      refine tz_istore (pc := 88) (L2 := [_, _, _, _, _, _]) dX4_weigh_88 (by decide) rfl ?_
      have loop90 : ∀ (f9 : Nat) (i : Int) (J1 : zJ), ((3 - i).toNat) < f9 → (0 ≤ i ∧ i ≤ J 8 t) → (zOf (zbut [156, 157]) J1 J) → (J1 156 3 = J 156 3) → tz_At l G M_X4_weigh (tb_rm 2 0 0) none (tb_ZM G 0 0 (zQ n 0 (zqv (fun J' => zOf (zbut [156, 157]) J' J ∧ J' 156 3 = J 156 3))) (zX n 0 zN)) 0 0 n J1 90 [some (.ref 156), some (zi t), some (zi sg), some (zi 5), some (zi (J 7 t)), some (zi i)] [] := by
        intro f9
        induction f9 with
        | zero => intro i J1 hm9; exact absurd hm9 (Nat.not_lt_zero _)
        | succ f9 ih90 =>
          intro i J1 hm90 hi fr f3
          have e9 := fr 9 rfl
          refine tz_iload (pc := 90) dX4_weigh_90 rfl ?_
          refine tz_aload_n (pc := 92) dX4_weigh_92 rfl rfl ?_
          refine tz_fR (pc := 93) dX4_weigh_93 fl_X4_25 r_156_0 ?_
          refine tz_fR (pc := 96) dX4_weigh_96 fl_X4_72 r_6_2 ?_
          refine tz_iload_n (pc := 99) dX4_weigh_99 rfl rfl ?_
          refine tz_aL (pc := 100) (z := t) (v := (J 8 t)) dX4_weigh_100 a_8 rfl (by omega) (Eq.trans (congrFun (fr 8 rfl) t) rfl) (fun r_100 => ?_)
          refine tz_icmp_ge (pc := 101) (tgt := 128) dX4_weigh_101 (by decide) (by omega) (by omega) (fun h_101 => ?_) (fun h_101 => ?_)
          · exact tz_vret (pc := 128) dX4_weigh_128 rfl (Nat.le_of_ble_eq_true rfl) (Nat.le_of_ble_eq_true rfl) ⟨Nat.le_refl _, Nat.le_add_right _ _⟩ ⟨rfl, (by first | exact ⟨fr, f3⟩ | exact ⟨zOf.up rfl (zOf.up rfl zOf.rf), rfl⟩)⟩
          · refine tz_aload_n (pc := 104) dX4_weigh_104 rfl rfl ?_
            refine tz_aload_n (pc := 105) dX4_weigh_105 rfl rfl ?_
            refine tz_fR (pc := 106) dX4_weigh_106 fl_X4_25 r_156_0 ?_
            refine tz_iload_n (pc := 109) dX4_weigh_109 rfl rfl ?_
            refine tz_iload (pc := 110) dX4_weigh_110 rfl ?_
            refine tz_cV (pc := 112) (c_arg hl n _ _ _ (by omega) (by omega) (by omega)) vl_X4_50 dX4_weigh_112 o_6 rfl rfl (Nat.le_of_ble_eq_true rfl) ⟨(Nat.le_of_ble_eq_true rfl), (Nat.le_of_ble_eq_true rfl)⟩ rfl rfl (Nat.le_of_ble_eq_true rfl) (Nat.le_of_ble_eq_true rfl) (fun r9 J_112 hq9 => ?_)
            obtain ⟨z_112, rfl, hz_112, rfl, rfl⟩ := hq9
            refine tz_iload_n (pc := 115) dX4_weigh_115 rfl rfl ?_
            refine tz_iload_n (pc := 116) dX4_weigh_116 rfl rfl ?_
            refine tz_iconst (pc := 117) dX4_weigh_117 ?_
            refine tz_iadd (pc := 118) (v := 6) dX4_weigh_118 (by decide) ?_
            have g1 := (C.arg (t := t) (i := i) (by omega) (by omega) (by omega) (by omega)).1
            rw [← e9] at g1
            refine tz_cV (pc := 119) (c_weigh6 hl n _ _ _ (by omega) (by omega) m (C.of (fun c hc => fr c (by simp [zbut]; omega))) (by omega)) vl_X4_59 dX4_weigh_119 o_156 rfl rfl (Nat.le_of_ble_eq_true rfl) ⟨(Nat.le_of_ble_eq_true rfl), (Nat.le_of_ble_eq_true rfl)⟩ rfl rfl (Nat.le_of_ble_eq_true rfl) (Nat.le_of_ble_eq_true rfl) (fun r9 J_119 hq9 => ?_)
            obtain ⟨rfl, f2, k2⟩ := hq9
            refine tz_iinc (pc := 122) (z := i + 1) (L2 := [_, _, _, _, _, _]) dX4_weigh_122 rfl (by omega) rfl ?_
            refine tz_goto (pc := 125) (tgt := 90) dX4_weigh_125 (by decide) ?_
            exact ih90 (i + 1) _ (by omega) (by omega) (f2.tr fr) (k2.trans f3)
      exact loop90 _ 0 _ (Nat.lt_succ_self _) (by omega) (zOf.up rfl zOf.rf) rfl
    refine tz_icmp_ne (pc := 59) (tgt := 69) dX4_weigh_59 (by decide) (by omega) (by omega) (fun h_59 => ?_) (fun h_59 => ?_)
    · refine tz_aload_n (pc := 69) dX4_weigh_69 rfl rfl ?_
      refine tz_fR (pc := 70) dX4_weigh_70 fl_X4_25 r_156_0 ?_
      refine tz_fR (pc := 73) dX4_weigh_73 fl_X4_63 r_6_0 ?_
      refine tz_fR (pc := 76) dX4_weigh_76 fl_X4_67 r_1_2 ?_
      refine tz_iload (pc := 79) dX4_weigh_79 rfl ?_
      refine tz_aL (pc := 81) (z := (J 7 t)) (v := (J 4 (J 7 t))) dX4_weigh_81 a_4 rfl (by omega) rfl (fun r_81 => ?_)
      exact join82 (J 4 (J 7 t)) (by omega) 
    · refine tz_aload_n (pc := 62) dX4_weigh_62 rfl rfl ?_
      refine tz_fI (pc := 63) (kz := 4) (v := (J 156 4)) dX4_weigh_63 fl_X4_22 i_156_4 rfl rfl (fun r_63 => ?_)
      refine tz_goto (pc := 66) (tgt := 82) dX4_weigh_66 (by decide) ?_
      exact join82 (J 156 4) (by omega) 
  · refine tz_aload_n (pc := 23) dX4_weigh_23 rfl rfl ?_
    refine tz_fR (pc := 24) dX4_weigh_24 fl_X4_9 r_156_1 ?_
    refine tz_iload (pc := 27) dX4_weigh_27 rfl ?_
    refine tz_iconst (pc := 29) dX4_weigh_29 ?_
    refine tz_ixor (pc := 30) (v := zxor (J 7 t) (-1)) dX4_weigh_30 rfl ?_
    refine tz_dup2 (pc := 31) dX4_weigh_31 rfl rfl ?_
    refine tz_aL (pc := 32) (z := (zxor (J 7 t) (-1))) (v := (J 157 (zxor (J 7 t) (-1)))) dX4_weigh_32 a_157 rfl (by rw [z_nn (by omega)]; omega) rfl (fun r_32 => ?_)
    refine tz_iload_n (pc := 33) dX4_weigh_33 rfl rfl ?_
    refine tz_iadd (pc := 34) (v := (J 157 (zxor (J 7 t) (-1))) + sg) dX4_weigh_34 rfl ?_
    refine tz_tw ?_
    have rw_35 := zw_rg ((J 157 (zxor (J 7 t) (-1))) + sg)
    refine tz_aS (pc := 35) (z := (zxor (J 7 t) (-1))) dX4_weigh_35 a_157 rfl (by rw [z_nn (by omega)]; omega) (zw_rg _) ?_
    refine tz_aload_n (pc := 36) dX4_weigh_36 rfl rfl ?_
    refine tz_dup (pc := 37) dX4_weigh_37 rfl ?_
    refine tz_fI (pc := 38) (kz := 2) (v := (J 156 2)) dX4_weigh_38 fl_X4_15 i_156_2 rfl rfl (fun r_38 => ?_)
    refine tz_iload_n (pc := 41) dX4_weigh_41 rfl rfl ?_
    refine tz_iadd (pc := 42) (v := (J 156 2) + sg) dX4_weigh_42 rfl ?_
    refine tz_tw ?_
    have rw_43 := zw_rg ((J 156 2) + sg)
    refine tz_pI (pc := 43) (kz := 2) dX4_weigh_43 fl_X4_15 i_156_2 rfl rfl (zw_rg _) ?_
    exact tz_vret (pc := 46) dX4_weigh_46 rfl (Nat.le_of_ble_eq_true rfl) (Nat.le_of_ble_eq_true rfl) ⟨Nat.le_refl _, Nat.le_add_right _ _⟩ ⟨rfl, (by first | exact ⟨fr, f3⟩ | exact ⟨zOf.up rfl (zOf.up rfl zOf.rf), rfl⟩)⟩

set_option maxHeartbeats 4000000 in
set_option maxRecDepth 100000 in
theorem c_weigh4 {l : Launch} {G : tb_G} (hl : l.stackTraces = false) (n : Nat) (J : zJ) (t : Int) (sg : Int) (hr_t : -2147483648 ≤ t ∧ t < 2147483648) (hr_sg : -2147483648 ≤ sg ∧ sg < 2147483648) (m : Int) (C : CT J m) (ht : 0 ≤ t ∧ t < m) : tz_Ok l G M_X4_weigh 3 0 0 [.ref 156, zi t, zi sg, zi 4] n J (zqv (fun J' => zOf (zbut [156, 157]) J' J ∧ J' 156 3 = J 156 3)) zN := by
  refine tz_Ok.of hl (by decide +kernel) rfl (tb_c1 rfl) (Nat.le_of_ble_eq_true rfl) ?_
  show tz_At l G M_X4_weigh (tb_rm 3 0 0) none (tb_ZM G 0 0 (zQ n 0 (zqv (fun J' => zOf (zbut [156, 157]) J' J ∧ J' 156 3 = J 156 3))) (zX n 0 zN)) 0 0 n J 0 [some (.ref 156), some (zi t), some (zi sg), some (zi 4), none, none] []
  have hm := C.told
  have ha := C.ar ht.1 ht.2
  refine tz_iload_n (pc := 0) dX4_weigh_0 rfl rfl ?_
  refine tz_bipush (pc := 1) dX4_weigh_1 (by decide) ?_
  refine tz_icmp_leT (pc := 3) (tgt := 7) (by decide) dX4_weigh_3 (by decide) (by decide) (by decide) ?_
  refine tz_aload_n (pc := 7) dX4_weigh_7 rfl rfl ?_
  refine tz_fR (pc := 8) dX4_weigh_8 fl_X4_25 r_156_0 ?_
  refine tz_fR (pc := 11) dX4_weigh_11 fl_X4_43 r_6_1 ?_
  refine tz_iload_n (pc := 14) dX4_weigh_14 rfl rfl ?_
  refine tz_aL (pc := 15) (z := t) (v := (J 7 t)) dX4_weigh_15 a_7 rfl (by omega) rfl (fun r_15 => ?_)
  refine tz_istore (pc := 16) (L2 := [_, _, _, _, _, _]) dX4_weigh_16 (by decide) rfl ?_
  refine tz_iload (pc := 18) dX4_weigh_18 rfl ?_
  refine tz_if_ge (pc := 20) (tgt := 47) dX4_weigh_20 (by decide) (by omega) (fun h_20 => ?_) (fun h_20 => ?_)
  · refine tz_aload_n (pc := 47) dX4_weigh_47 rfl rfl ?_
    refine tz_dup (pc := 48) dX4_weigh_48 rfl ?_
    refine tz_fI (pc := 49) (kz := 2) (v := (J 156 2)) dX4_weigh_49 fl_X4_15 i_156_2 rfl rfl (fun r_49 => ?_)
    refine tz_iload_n (pc := 52) dX4_weigh_52 rfl rfl ?_
    refine tz_iload (pc := 53) dX4_weigh_53 rfl ?_
    refine tz_aload_n (pc := 55) dX4_weigh_55 rfl rfl ?_
    refine tz_fI (pc := 56) (kz := 3) (v := (J 156 3)) dX4_weigh_56 fl_X4_19 i_156_3 rfl rfl (fun r_56 => ?_)
    have join82 : ∀ (w : Int), (-2147483648 ≤ w ∧ w < 2147483648) → tz_At l G M_X4_weigh (tb_rm 3 0 0) none (tb_ZM G 0 0 (zQ n 0 (zqv (fun J' => zOf (zbut [156, 157]) J' J ∧ J' 156 3 = J 156 3))) (zX n 0 zN)) 0 0 n J 82 [some (.ref 156), some (zi t), some (zi sg), some (zi 4), some (zi (J 7 t)), none] (zi w :: zi sg :: zi (J 156 2) :: .ref 156 :: []) := by
      intro w hr_w
      refine tz_imul (pc := 82) (v := sg * w) dX4_weigh_82 rfl ?_
      refine tz_tw ?_
      have rw_83 := zw_rg (sg * w)
      refine tz_iadd (pc := 83) (v := (J 156 2) + (zw (sg * w))) dX4_weigh_83 rfl ?_
      refine tz_tw ?_
      have rw_84 := zw_rg ((J 156 2) + (zw (sg * w)))
      refine tz_pI (pc := 84) (kz := 2) dX4_weigh_84 fl_X4_15 i_156_2 rfl rfl (zw_rg _) ?_
      refine tz_iconst (pc := 87) dX4_weigh_87 ?_
      refine tz_istore (pc := 88) (L2 := [_, _, _, _, _, _]) dX4_weigh_88 (by decide) rfl ?_
      have loop90 : ∀ (f9 : Nat) (i : Int) (J1 : zJ), ((3 - i).toNat) < f9 → (0 ≤ i ∧ i ≤ J 8 t) → (zOf (zbut [156, 157]) J1 J) → (J1 156 3 = J 156 3) → tz_At l G M_X4_weigh (tb_rm 3 0 0) none (tb_ZM G 0 0 (zQ n 0 (zqv (fun J' => zOf (zbut [156, 157]) J' J ∧ J' 156 3 = J 156 3))) (zX n 0 zN)) 0 0 n J1 90 [some (.ref 156), some (zi t), some (zi sg), some (zi 4), some (zi (J 7 t)), some (zi i)] [] := by
        intro f9
        induction f9 with
        | zero => intro i J1 hm9; exact absurd hm9 (Nat.not_lt_zero _)
        | succ f9 ih90 =>
          intro i J1 hm90 hi fr f3
          have e9 := fr 9 rfl
          refine tz_iload (pc := 90) dX4_weigh_90 rfl ?_
          refine tz_aload_n (pc := 92) dX4_weigh_92 rfl rfl ?_
          refine tz_fR (pc := 93) dX4_weigh_93 fl_X4_25 r_156_0 ?_
          refine tz_fR (pc := 96) dX4_weigh_96 fl_X4_72 r_6_2 ?_
          refine tz_iload_n (pc := 99) dX4_weigh_99 rfl rfl ?_
          refine tz_aL (pc := 100) (z := t) (v := (J 8 t)) dX4_weigh_100 a_8 rfl (by omega) (Eq.trans (congrFun (fr 8 rfl) t) rfl) (fun r_100 => ?_)
          refine tz_icmp_ge (pc := 101) (tgt := 128) dX4_weigh_101 (by decide) (by omega) (by omega) (fun h_101 => ?_) (fun h_101 => ?_)
          · exact tz_vret (pc := 128) dX4_weigh_128 rfl (Nat.le_of_ble_eq_true rfl) (Nat.le_of_ble_eq_true rfl) ⟨Nat.le_refl _, Nat.le_add_right _ _⟩ ⟨rfl, (by first | exact ⟨fr, f3⟩ | exact ⟨zOf.up rfl (zOf.up rfl zOf.rf), rfl⟩)⟩
          · refine tz_aload_n (pc := 104) dX4_weigh_104 rfl rfl ?_
            refine tz_aload_n (pc := 105) dX4_weigh_105 rfl rfl ?_
            refine tz_fR (pc := 106) dX4_weigh_106 fl_X4_25 r_156_0 ?_
            refine tz_iload_n (pc := 109) dX4_weigh_109 rfl rfl ?_
            refine tz_iload (pc := 110) dX4_weigh_110 rfl ?_
            refine tz_cV (pc := 112) (c_arg hl n _ _ _ (by omega) (by omega) (by omega)) vl_X4_50 dX4_weigh_112 o_6 rfl rfl (Nat.le_of_ble_eq_true rfl) ⟨(Nat.le_of_ble_eq_true rfl), (Nat.le_of_ble_eq_true rfl)⟩ rfl rfl (Nat.le_of_ble_eq_true rfl) (Nat.le_of_ble_eq_true rfl) (fun r9 J_112 hq9 => ?_)
            obtain ⟨z_112, rfl, hz_112, rfl, rfl⟩ := hq9
            refine tz_iload_n (pc := 115) dX4_weigh_115 rfl rfl ?_
            refine tz_iload_n (pc := 116) dX4_weigh_116 rfl rfl ?_
            refine tz_iconst (pc := 117) dX4_weigh_117 ?_
            refine tz_iadd (pc := 118) (v := 5) dX4_weigh_118 (by decide) ?_
            have g1 := (C.arg (t := t) (i := i) (by omega) (by omega) (by omega) (by omega)).1
            rw [← e9] at g1
            refine tz_cV (pc := 119) (c_weigh5 hl n _ _ _ (by omega) (by omega) m (C.of (fun c hc => fr c (by simp [zbut]; omega))) (by omega)) vl_X4_59 dX4_weigh_119 o_156 rfl rfl (Nat.le_of_ble_eq_true rfl) ⟨(Nat.le_of_ble_eq_true rfl), (Nat.le_of_ble_eq_true rfl)⟩ rfl rfl (Nat.le_of_ble_eq_true rfl) (Nat.le_of_ble_eq_true rfl) (fun r9 J_119 hq9 => ?_)
            obtain ⟨rfl, f2, k2⟩ := hq9
            refine tz_iinc (pc := 122) (z := i + 1) (L2 := [_, _, _, _, _, _]) dX4_weigh_122 rfl (by omega) rfl ?_
            refine tz_goto (pc := 125) (tgt := 90) dX4_weigh_125 (by decide) ?_
            exact ih90 (i + 1) _ (by omega) (by omega) (f2.tr fr) (k2.trans f3)
      exact loop90 _ 0 _ (Nat.lt_succ_self _) (by omega) (zOf.up rfl zOf.rf) rfl
    refine tz_icmp_ne (pc := 59) (tgt := 69) dX4_weigh_59 (by decide) (by omega) (by omega) (fun h_59 => ?_) (fun h_59 => ?_)
    · refine tz_aload_n (pc := 69) dX4_weigh_69 rfl rfl ?_
      refine tz_fR (pc := 70) dX4_weigh_70 fl_X4_25 r_156_0 ?_
      refine tz_fR (pc := 73) dX4_weigh_73 fl_X4_63 r_6_0 ?_
      refine tz_fR (pc := 76) dX4_weigh_76 fl_X4_67 r_1_2 ?_
      refine tz_iload (pc := 79) dX4_weigh_79 rfl ?_
      refine tz_aL (pc := 81) (z := (J 7 t)) (v := (J 4 (J 7 t))) dX4_weigh_81 a_4 rfl (by omega) rfl (fun r_81 => ?_)
      exact join82 (J 4 (J 7 t)) (by omega) 
    · refine tz_aload_n (pc := 62) dX4_weigh_62 rfl rfl ?_
      refine tz_fI (pc := 63) (kz := 4) (v := (J 156 4)) dX4_weigh_63 fl_X4_22 i_156_4 rfl rfl (fun r_63 => ?_)
      refine tz_goto (pc := 66) (tgt := 82) dX4_weigh_66 (by decide) ?_
      exact join82 (J 156 4) (by omega) 
  · refine tz_aload_n (pc := 23) dX4_weigh_23 rfl rfl ?_
    refine tz_fR (pc := 24) dX4_weigh_24 fl_X4_9 r_156_1 ?_
    refine tz_iload (pc := 27) dX4_weigh_27 rfl ?_
    refine tz_iconst (pc := 29) dX4_weigh_29 ?_
    refine tz_ixor (pc := 30) (v := zxor (J 7 t) (-1)) dX4_weigh_30 rfl ?_
    refine tz_dup2 (pc := 31) dX4_weigh_31 rfl rfl ?_
    refine tz_aL (pc := 32) (z := (zxor (J 7 t) (-1))) (v := (J 157 (zxor (J 7 t) (-1)))) dX4_weigh_32 a_157 rfl (by rw [z_nn (by omega)]; omega) rfl (fun r_32 => ?_)
    refine tz_iload_n (pc := 33) dX4_weigh_33 rfl rfl ?_
    refine tz_iadd (pc := 34) (v := (J 157 (zxor (J 7 t) (-1))) + sg) dX4_weigh_34 rfl ?_
    refine tz_tw ?_
    have rw_35 := zw_rg ((J 157 (zxor (J 7 t) (-1))) + sg)
    refine tz_aS (pc := 35) (z := (zxor (J 7 t) (-1))) dX4_weigh_35 a_157 rfl (by rw [z_nn (by omega)]; omega) (zw_rg _) ?_
    refine tz_aload_n (pc := 36) dX4_weigh_36 rfl rfl ?_
    refine tz_dup (pc := 37) dX4_weigh_37 rfl ?_
    refine tz_fI (pc := 38) (kz := 2) (v := (J 156 2)) dX4_weigh_38 fl_X4_15 i_156_2 rfl rfl (fun r_38 => ?_)
    refine tz_iload_n (pc := 41) dX4_weigh_41 rfl rfl ?_
    refine tz_iadd (pc := 42) (v := (J 156 2) + sg) dX4_weigh_42 rfl ?_
    refine tz_tw ?_
    have rw_43 := zw_rg ((J 156 2) + sg)
    refine tz_pI (pc := 43) (kz := 2) dX4_weigh_43 fl_X4_15 i_156_2 rfl rfl (zw_rg _) ?_
    exact tz_vret (pc := 46) dX4_weigh_46 rfl (Nat.le_of_ble_eq_true rfl) (Nat.le_of_ble_eq_true rfl) ⟨Nat.le_refl _, Nat.le_add_right _ _⟩ ⟨rfl, (by first | exact ⟨fr, f3⟩ | exact ⟨zOf.up rfl (zOf.up rfl zOf.rf), rfl⟩)⟩

set_option maxHeartbeats 4000000 in
set_option maxRecDepth 100000 in
theorem c_weigh3 {l : Launch} {G : tb_G} (hl : l.stackTraces = false) (n : Nat) (J : zJ) (t : Int) (sg : Int) (hr_t : -2147483648 ≤ t ∧ t < 2147483648) (hr_sg : -2147483648 ≤ sg ∧ sg < 2147483648) (m : Int) (C : CT J m) (ht : 0 ≤ t ∧ t < m) : tz_Ok l G M_X4_weigh 4 0 0 [.ref 156, zi t, zi sg, zi 3] n J (zqv (fun J' => zOf (zbut [156, 157]) J' J ∧ J' 156 3 = J 156 3)) zN := by
  refine tz_Ok.of hl (by decide +kernel) rfl (tb_c1 rfl) (Nat.le_of_ble_eq_true rfl) ?_
  show tz_At l G M_X4_weigh (tb_rm 4 0 0) none (tb_ZM G 0 0 (zQ n 0 (zqv (fun J' => zOf (zbut [156, 157]) J' J ∧ J' 156 3 = J 156 3))) (zX n 0 zN)) 0 0 n J 0 [some (.ref 156), some (zi t), some (zi sg), some (zi 3), none, none] []
  have hm := C.told
  have ha := C.ar ht.1 ht.2
  refine tz_iload_n (pc := 0) dX4_weigh_0 rfl rfl ?_
  refine tz_bipush (pc := 1) dX4_weigh_1 (by decide) ?_
  refine tz_icmp_leT (pc := 3) (tgt := 7) (by decide) dX4_weigh_3 (by decide) (by decide) (by decide) ?_
  refine tz_aload_n (pc := 7) dX4_weigh_7 rfl rfl ?_
  refine tz_fR (pc := 8) dX4_weigh_8 fl_X4_25 r_156_0 ?_
  refine tz_fR (pc := 11) dX4_weigh_11 fl_X4_43 r_6_1 ?_
  refine tz_iload_n (pc := 14) dX4_weigh_14 rfl rfl ?_
  refine tz_aL (pc := 15) (z := t) (v := (J 7 t)) dX4_weigh_15 a_7 rfl (by omega) rfl (fun r_15 => ?_)
  refine tz_istore (pc := 16) (L2 := [_, _, _, _, _, _]) dX4_weigh_16 (by decide) rfl ?_
  refine tz_iload (pc := 18) dX4_weigh_18 rfl ?_
  refine tz_if_ge (pc := 20) (tgt := 47) dX4_weigh_20 (by decide) (by omega) (fun h_20 => ?_) (fun h_20 => ?_)
  · refine tz_aload_n (pc := 47) dX4_weigh_47 rfl rfl ?_
    refine tz_dup (pc := 48) dX4_weigh_48 rfl ?_
    refine tz_fI (pc := 49) (kz := 2) (v := (J 156 2)) dX4_weigh_49 fl_X4_15 i_156_2 rfl rfl (fun r_49 => ?_)
    refine tz_iload_n (pc := 52) dX4_weigh_52 rfl rfl ?_
    refine tz_iload (pc := 53) dX4_weigh_53 rfl ?_
    refine tz_aload_n (pc := 55) dX4_weigh_55 rfl rfl ?_
    refine tz_fI (pc := 56) (kz := 3) (v := (J 156 3)) dX4_weigh_56 fl_X4_19 i_156_3 rfl rfl (fun r_56 => ?_)
    have join82 : ∀ (w : Int), (-2147483648 ≤ w ∧ w < 2147483648) → tz_At l G M_X4_weigh (tb_rm 4 0 0) none (tb_ZM G 0 0 (zQ n 0 (zqv (fun J' => zOf (zbut [156, 157]) J' J ∧ J' 156 3 = J 156 3))) (zX n 0 zN)) 0 0 n J 82 [some (.ref 156), some (zi t), some (zi sg), some (zi 3), some (zi (J 7 t)), none] (zi w :: zi sg :: zi (J 156 2) :: .ref 156 :: []) := by
      intro w hr_w
      refine tz_imul (pc := 82) (v := sg * w) dX4_weigh_82 rfl ?_
      refine tz_tw ?_
      have rw_83 := zw_rg (sg * w)
      refine tz_iadd (pc := 83) (v := (J 156 2) + (zw (sg * w))) dX4_weigh_83 rfl ?_
      refine tz_tw ?_
      have rw_84 := zw_rg ((J 156 2) + (zw (sg * w)))
      refine tz_pI (pc := 84) (kz := 2) dX4_weigh_84 fl_X4_15 i_156_2 rfl rfl (zw_rg _) ?_
      refine tz_iconst (pc := 87) dX4_weigh_87 ?_
      refine tz_istore (pc := 88) (L2 := [_, _, _, _, _, _]) dX4_weigh_88 (by decide) rfl ?_
      have loop90 : ∀ (f9 : Nat) (i : Int) (J1 : zJ), ((3 - i).toNat) < f9 → (0 ≤ i ∧ i ≤ J 8 t) → (zOf (zbut [156, 157]) J1 J) → (J1 156 3 = J 156 3) → tz_At l G M_X4_weigh (tb_rm 4 0 0) none (tb_ZM G 0 0 (zQ n 0 (zqv (fun J' => zOf (zbut [156, 157]) J' J ∧ J' 156 3 = J 156 3))) (zX n 0 zN)) 0 0 n J1 90 [some (.ref 156), some (zi t), some (zi sg), some (zi 3), some (zi (J 7 t)), some (zi i)] [] := by
        intro f9
        induction f9 with
        | zero => intro i J1 hm9; exact absurd hm9 (Nat.not_lt_zero _)
        | succ f9 ih90 =>
          intro i J1 hm90 hi fr f3
          have e9 := fr 9 rfl
          refine tz_iload (pc := 90) dX4_weigh_90 rfl ?_
          refine tz_aload_n (pc := 92) dX4_weigh_92 rfl rfl ?_
          refine tz_fR (pc := 93) dX4_weigh_93 fl_X4_25 r_156_0 ?_
          refine tz_fR (pc := 96) dX4_weigh_96 fl_X4_72 r_6_2 ?_
          refine tz_iload_n (pc := 99) dX4_weigh_99 rfl rfl ?_
          refine tz_aL (pc := 100) (z := t) (v := (J 8 t)) dX4_weigh_100 a_8 rfl (by omega) (Eq.trans (congrFun (fr 8 rfl) t) rfl) (fun r_100 => ?_)
          refine tz_icmp_ge (pc := 101) (tgt := 128) dX4_weigh_101 (by decide) (by omega) (by omega) (fun h_101 => ?_) (fun h_101 => ?_)
          · exact tz_vret (pc := 128) dX4_weigh_128 rfl (Nat.le_of_ble_eq_true rfl) (Nat.le_of_ble_eq_true rfl) ⟨Nat.le_refl _, Nat.le_add_right _ _⟩ ⟨rfl, (by first | exact ⟨fr, f3⟩ | exact ⟨zOf.up rfl (zOf.up rfl zOf.rf), rfl⟩)⟩
          · refine tz_aload_n (pc := 104) dX4_weigh_104 rfl rfl ?_
            refine tz_aload_n (pc := 105) dX4_weigh_105 rfl rfl ?_
            refine tz_fR (pc := 106) dX4_weigh_106 fl_X4_25 r_156_0 ?_
            refine tz_iload_n (pc := 109) dX4_weigh_109 rfl rfl ?_
            refine tz_iload (pc := 110) dX4_weigh_110 rfl ?_
            refine tz_cV (pc := 112) (c_arg hl n _ _ _ (by omega) (by omega) (by omega)) vl_X4_50 dX4_weigh_112 o_6 rfl rfl (Nat.le_of_ble_eq_true rfl) ⟨(Nat.le_of_ble_eq_true rfl), (Nat.le_of_ble_eq_true rfl)⟩ rfl rfl (Nat.le_of_ble_eq_true rfl) (Nat.le_of_ble_eq_true rfl) (fun r9 J_112 hq9 => ?_)
            obtain ⟨z_112, rfl, hz_112, rfl, rfl⟩ := hq9
            refine tz_iload_n (pc := 115) dX4_weigh_115 rfl rfl ?_
            refine tz_iload_n (pc := 116) dX4_weigh_116 rfl rfl ?_
            refine tz_iconst (pc := 117) dX4_weigh_117 ?_
            refine tz_iadd (pc := 118) (v := 4) dX4_weigh_118 (by decide) ?_
            have g1 := (C.arg (t := t) (i := i) (by omega) (by omega) (by omega) (by omega)).1
            rw [← e9] at g1
            refine tz_cV (pc := 119) (c_weigh4 hl n _ _ _ (by omega) (by omega) m (C.of (fun c hc => fr c (by simp [zbut]; omega))) (by omega)) vl_X4_59 dX4_weigh_119 o_156 rfl rfl (Nat.le_of_ble_eq_true rfl) ⟨(Nat.le_of_ble_eq_true rfl), (Nat.le_of_ble_eq_true rfl)⟩ rfl rfl (Nat.le_of_ble_eq_true rfl) (Nat.le_of_ble_eq_true rfl) (fun r9 J_119 hq9 => ?_)
            obtain ⟨rfl, f2, k2⟩ := hq9
            refine tz_iinc (pc := 122) (z := i + 1) (L2 := [_, _, _, _, _, _]) dX4_weigh_122 rfl (by omega) rfl ?_
            refine tz_goto (pc := 125) (tgt := 90) dX4_weigh_125 (by decide) ?_
            exact ih90 (i + 1) _ (by omega) (by omega) (f2.tr fr) (k2.trans f3)
      exact loop90 _ 0 _ (Nat.lt_succ_self _) (by omega) (zOf.up rfl zOf.rf) rfl
    refine tz_icmp_ne (pc := 59) (tgt := 69) dX4_weigh_59 (by decide) (by omega) (by omega) (fun h_59 => ?_) (fun h_59 => ?_)
    · refine tz_aload_n (pc := 69) dX4_weigh_69 rfl rfl ?_
      refine tz_fR (pc := 70) dX4_weigh_70 fl_X4_25 r_156_0 ?_
      refine tz_fR (pc := 73) dX4_weigh_73 fl_X4_63 r_6_0 ?_
      refine tz_fR (pc := 76) dX4_weigh_76 fl_X4_67 r_1_2 ?_
      refine tz_iload (pc := 79) dX4_weigh_79 rfl ?_
      refine tz_aL (pc := 81) (z := (J 7 t)) (v := (J 4 (J 7 t))) dX4_weigh_81 a_4 rfl (by omega) rfl (fun r_81 => ?_)
      exact join82 (J 4 (J 7 t)) (by omega) 
    · refine tz_aload_n (pc := 62) dX4_weigh_62 rfl rfl ?_
      refine tz_fI (pc := 63) (kz := 4) (v := (J 156 4)) dX4_weigh_63 fl_X4_22 i_156_4 rfl rfl (fun r_63 => ?_)
      refine tz_goto (pc := 66) (tgt := 82) dX4_weigh_66 (by decide) ?_
      exact join82 (J 156 4) (by omega) 
  · refine tz_aload_n (pc := 23) dX4_weigh_23 rfl rfl ?_
    refine tz_fR (pc := 24) dX4_weigh_24 fl_X4_9 r_156_1 ?_
    refine tz_iload (pc := 27) dX4_weigh_27 rfl ?_
    refine tz_iconst (pc := 29) dX4_weigh_29 ?_
    refine tz_ixor (pc := 30) (v := zxor (J 7 t) (-1)) dX4_weigh_30 rfl ?_
    refine tz_dup2 (pc := 31) dX4_weigh_31 rfl rfl ?_
    refine tz_aL (pc := 32) (z := (zxor (J 7 t) (-1))) (v := (J 157 (zxor (J 7 t) (-1)))) dX4_weigh_32 a_157 rfl (by rw [z_nn (by omega)]; omega) rfl (fun r_32 => ?_)
    refine tz_iload_n (pc := 33) dX4_weigh_33 rfl rfl ?_
    refine tz_iadd (pc := 34) (v := (J 157 (zxor (J 7 t) (-1))) + sg) dX4_weigh_34 rfl ?_
    refine tz_tw ?_
    have rw_35 := zw_rg ((J 157 (zxor (J 7 t) (-1))) + sg)
    refine tz_aS (pc := 35) (z := (zxor (J 7 t) (-1))) dX4_weigh_35 a_157 rfl (by rw [z_nn (by omega)]; omega) (zw_rg _) ?_
    refine tz_aload_n (pc := 36) dX4_weigh_36 rfl rfl ?_
    refine tz_dup (pc := 37) dX4_weigh_37 rfl ?_
    refine tz_fI (pc := 38) (kz := 2) (v := (J 156 2)) dX4_weigh_38 fl_X4_15 i_156_2 rfl rfl (fun r_38 => ?_)
    refine tz_iload_n (pc := 41) dX4_weigh_41 rfl rfl ?_
    refine tz_iadd (pc := 42) (v := (J 156 2) + sg) dX4_weigh_42 rfl ?_
    refine tz_tw ?_
    have rw_43 := zw_rg ((J 156 2) + sg)
    refine tz_pI (pc := 43) (kz := 2) dX4_weigh_43 fl_X4_15 i_156_2 rfl rfl (zw_rg _) ?_
    exact tz_vret (pc := 46) dX4_weigh_46 rfl (Nat.le_of_ble_eq_true rfl) (Nat.le_of_ble_eq_true rfl) ⟨Nat.le_refl _, Nat.le_add_right _ _⟩ ⟨rfl, (by first | exact ⟨fr, f3⟩ | exact ⟨zOf.up rfl (zOf.up rfl zOf.rf), rfl⟩)⟩

set_option maxHeartbeats 4000000 in
set_option maxRecDepth 100000 in
theorem c_weigh2 {l : Launch} {G : tb_G} (hl : l.stackTraces = false) (n : Nat) (J : zJ) (t : Int) (sg : Int) (hr_t : -2147483648 ≤ t ∧ t < 2147483648) (hr_sg : -2147483648 ≤ sg ∧ sg < 2147483648) (m : Int) (C : CT J m) (ht : 0 ≤ t ∧ t < m) : tz_Ok l G M_X4_weigh 5 0 0 [.ref 156, zi t, zi sg, zi 2] n J (zqv (fun J' => zOf (zbut [156, 157]) J' J ∧ J' 156 3 = J 156 3)) zN := by
  refine tz_Ok.of hl (by decide +kernel) rfl (tb_c1 rfl) (Nat.le_of_ble_eq_true rfl) ?_
  show tz_At l G M_X4_weigh (tb_rm 5 0 0) none (tb_ZM G 0 0 (zQ n 0 (zqv (fun J' => zOf (zbut [156, 157]) J' J ∧ J' 156 3 = J 156 3))) (zX n 0 zN)) 0 0 n J 0 [some (.ref 156), some (zi t), some (zi sg), some (zi 2), none, none] []
  have hm := C.told
  have ha := C.ar ht.1 ht.2
  refine tz_iload_n (pc := 0) dX4_weigh_0 rfl rfl ?_
  refine tz_bipush (pc := 1) dX4_weigh_1 (by decide) ?_
  refine tz_icmp_leT (pc := 3) (tgt := 7) (by decide) dX4_weigh_3 (by decide) (by decide) (by decide) ?_
  refine tz_aload_n (pc := 7) dX4_weigh_7 rfl rfl ?_
  refine tz_fR (pc := 8) dX4_weigh_8 fl_X4_25 r_156_0 ?_
  refine tz_fR (pc := 11) dX4_weigh_11 fl_X4_43 r_6_1 ?_
  refine tz_iload_n (pc := 14) dX4_weigh_14 rfl rfl ?_
  refine tz_aL (pc := 15) (z := t) (v := (J 7 t)) dX4_weigh_15 a_7 rfl (by omega) rfl (fun r_15 => ?_)
  refine tz_istore (pc := 16) (L2 := [_, _, _, _, _, _]) dX4_weigh_16 (by decide) rfl ?_
  refine tz_iload (pc := 18) dX4_weigh_18 rfl ?_
  refine tz_if_ge (pc := 20) (tgt := 47) dX4_weigh_20 (by decide) (by omega) (fun h_20 => ?_) (fun h_20 => ?_)
  · refine tz_aload_n (pc := 47) dX4_weigh_47 rfl rfl ?_
    refine tz_dup (pc := 48) dX4_weigh_48 rfl ?_
    refine tz_fI (pc := 49) (kz := 2) (v := (J 156 2)) dX4_weigh_49 fl_X4_15 i_156_2 rfl rfl (fun r_49 => ?_)
    refine tz_iload_n (pc := 52) dX4_weigh_52 rfl rfl ?_
    refine tz_iload (pc := 53) dX4_weigh_53 rfl ?_
    refine tz_aload_n (pc := 55) dX4_weigh_55 rfl rfl ?_
    refine tz_fI (pc := 56) (kz := 3) (v := (J 156 3)) dX4_weigh_56 fl_X4_19 i_156_3 rfl rfl (fun r_56 => ?_)
    have join82 : ∀ (w : Int), (-2147483648 ≤ w ∧ w < 2147483648) → tz_At l G M_X4_weigh (tb_rm 5 0 0) none (tb_ZM G 0 0 (zQ n 0 (zqv (fun J' => zOf (zbut [156, 157]) J' J ∧ J' 156 3 = J 156 3))) (zX n 0 zN)) 0 0 n J 82 [some (.ref 156), some (zi t), some (zi sg), some (zi 2), some (zi (J 7 t)), none] (zi w :: zi sg :: zi (J 156 2) :: .ref 156 :: []) := by
      intro w hr_w
      refine tz_imul (pc := 82) (v := sg * w) dX4_weigh_82 rfl ?_
      refine tz_tw ?_
      have rw_83 := zw_rg (sg * w)
      refine tz_iadd (pc := 83) (v := (J 156 2) + (zw (sg * w))) dX4_weigh_83 rfl ?_
      refine tz_tw ?_
      have rw_84 := zw_rg ((J 156 2) + (zw (sg * w)))
      refine tz_pI (pc := 84) (kz := 2) dX4_weigh_84 fl_X4_15 i_156_2 rfl rfl (zw_rg _) ?_
      refine tz_iconst (pc := 87) dX4_weigh_87 ?_
      refine tz_istore (pc := 88) (L2 := [_, _, _, _, _, _]) dX4_weigh_88 (by decide) rfl ?_
      have loop90 : ∀ (f9 : Nat) (i : Int) (J1 : zJ), ((3 - i).toNat) < f9 → (0 ≤ i ∧ i ≤ J 8 t) → (zOf (zbut [156, 157]) J1 J) → (J1 156 3 = J 156 3) → tz_At l G M_X4_weigh (tb_rm 5 0 0) none (tb_ZM G 0 0 (zQ n 0 (zqv (fun J' => zOf (zbut [156, 157]) J' J ∧ J' 156 3 = J 156 3))) (zX n 0 zN)) 0 0 n J1 90 [some (.ref 156), some (zi t), some (zi sg), some (zi 2), some (zi (J 7 t)), some (zi i)] [] := by
        intro f9
        induction f9 with
        | zero => intro i J1 hm9; exact absurd hm9 (Nat.not_lt_zero _)
        | succ f9 ih90 =>
          intro i J1 hm90 hi fr f3
          have e9 := fr 9 rfl
          refine tz_iload (pc := 90) dX4_weigh_90 rfl ?_
          refine tz_aload_n (pc := 92) dX4_weigh_92 rfl rfl ?_
          refine tz_fR (pc := 93) dX4_weigh_93 fl_X4_25 r_156_0 ?_
          refine tz_fR (pc := 96) dX4_weigh_96 fl_X4_72 r_6_2 ?_
          refine tz_iload_n (pc := 99) dX4_weigh_99 rfl rfl ?_
          refine tz_aL (pc := 100) (z := t) (v := (J 8 t)) dX4_weigh_100 a_8 rfl (by omega) (Eq.trans (congrFun (fr 8 rfl) t) rfl) (fun r_100 => ?_)
          refine tz_icmp_ge (pc := 101) (tgt := 128) dX4_weigh_101 (by decide) (by omega) (by omega) (fun h_101 => ?_) (fun h_101 => ?_)
          · exact tz_vret (pc := 128) dX4_weigh_128 rfl (Nat.le_of_ble_eq_true rfl) (Nat.le_of_ble_eq_true rfl) ⟨Nat.le_refl _, Nat.le_add_right _ _⟩ ⟨rfl, (by first | exact ⟨fr, f3⟩ | exact ⟨zOf.up rfl (zOf.up rfl zOf.rf), rfl⟩)⟩
          · refine tz_aload_n (pc := 104) dX4_weigh_104 rfl rfl ?_
            refine tz_aload_n (pc := 105) dX4_weigh_105 rfl rfl ?_
            refine tz_fR (pc := 106) dX4_weigh_106 fl_X4_25 r_156_0 ?_
            refine tz_iload_n (pc := 109) dX4_weigh_109 rfl rfl ?_
            refine tz_iload (pc := 110) dX4_weigh_110 rfl ?_
            refine tz_cV (pc := 112) (c_arg hl n _ _ _ (by omega) (by omega) (by omega)) vl_X4_50 dX4_weigh_112 o_6 rfl rfl (Nat.le_of_ble_eq_true rfl) ⟨(Nat.le_of_ble_eq_true rfl), (Nat.le_of_ble_eq_true rfl)⟩ rfl rfl (Nat.le_of_ble_eq_true rfl) (Nat.le_of_ble_eq_true rfl) (fun r9 J_112 hq9 => ?_)
            obtain ⟨z_112, rfl, hz_112, rfl, rfl⟩ := hq9
            refine tz_iload_n (pc := 115) dX4_weigh_115 rfl rfl ?_
            refine tz_iload_n (pc := 116) dX4_weigh_116 rfl rfl ?_
            refine tz_iconst (pc := 117) dX4_weigh_117 ?_
            refine tz_iadd (pc := 118) (v := 3) dX4_weigh_118 (by decide) ?_
            have g1 := (C.arg (t := t) (i := i) (by omega) (by omega) (by omega) (by omega)).1
            rw [← e9] at g1
            refine tz_cV (pc := 119) (c_weigh3 hl n _ _ _ (by omega) (by omega) m (C.of (fun c hc => fr c (by simp [zbut]; omega))) (by omega)) vl_X4_59 dX4_weigh_119 o_156 rfl rfl (Nat.le_of_ble_eq_true rfl) ⟨(Nat.le_of_ble_eq_true rfl), (Nat.le_of_ble_eq_true rfl)⟩ rfl rfl (Nat.le_of_ble_eq_true rfl) (Nat.le_of_ble_eq_true rfl) (fun r9 J_119 hq9 => ?_)
            obtain ⟨rfl, f2, k2⟩ := hq9
            refine tz_iinc (pc := 122) (z := i + 1) (L2 := [_, _, _, _, _, _]) dX4_weigh_122 rfl (by omega) rfl ?_
            refine tz_goto (pc := 125) (tgt := 90) dX4_weigh_125 (by decide) ?_
            exact ih90 (i + 1) _ (by omega) (by omega) (f2.tr fr) (k2.trans f3)
      exact loop90 _ 0 _ (Nat.lt_succ_self _) (by omega) (zOf.up rfl zOf.rf) rfl
    refine tz_icmp_ne (pc := 59) (tgt := 69) dX4_weigh_59 (by decide) (by omega) (by omega) (fun h_59 => ?_) (fun h_59 => ?_)
    · refine tz_aload_n (pc := 69) dX4_weigh_69 rfl rfl ?_
      refine tz_fR (pc := 70) dX4_weigh_70 fl_X4_25 r_156_0 ?_
      refine tz_fR (pc := 73) dX4_weigh_73 fl_X4_63 r_6_0 ?_
      refine tz_fR (pc := 76) dX4_weigh_76 fl_X4_67 r_1_2 ?_
      refine tz_iload (pc := 79) dX4_weigh_79 rfl ?_
      refine tz_aL (pc := 81) (z := (J 7 t)) (v := (J 4 (J 7 t))) dX4_weigh_81 a_4 rfl (by omega) rfl (fun r_81 => ?_)
      exact join82 (J 4 (J 7 t)) (by omega) 
    · refine tz_aload_n (pc := 62) dX4_weigh_62 rfl rfl ?_
      refine tz_fI (pc := 63) (kz := 4) (v := (J 156 4)) dX4_weigh_63 fl_X4_22 i_156_4 rfl rfl (fun r_63 => ?_)
      refine tz_goto (pc := 66) (tgt := 82) dX4_weigh_66 (by decide) ?_
      exact join82 (J 156 4) (by omega) 
  · refine tz_aload_n (pc := 23) dX4_weigh_23 rfl rfl ?_
    refine tz_fR (pc := 24) dX4_weigh_24 fl_X4_9 r_156_1 ?_
    refine tz_iload (pc := 27) dX4_weigh_27 rfl ?_
    refine tz_iconst (pc := 29) dX4_weigh_29 ?_
    refine tz_ixor (pc := 30) (v := zxor (J 7 t) (-1)) dX4_weigh_30 rfl ?_
    refine tz_dup2 (pc := 31) dX4_weigh_31 rfl rfl ?_
    refine tz_aL (pc := 32) (z := (zxor (J 7 t) (-1))) (v := (J 157 (zxor (J 7 t) (-1)))) dX4_weigh_32 a_157 rfl (by rw [z_nn (by omega)]; omega) rfl (fun r_32 => ?_)
    refine tz_iload_n (pc := 33) dX4_weigh_33 rfl rfl ?_
    refine tz_iadd (pc := 34) (v := (J 157 (zxor (J 7 t) (-1))) + sg) dX4_weigh_34 rfl ?_
    refine tz_tw ?_
    have rw_35 := zw_rg ((J 157 (zxor (J 7 t) (-1))) + sg)
    refine tz_aS (pc := 35) (z := (zxor (J 7 t) (-1))) dX4_weigh_35 a_157 rfl (by rw [z_nn (by omega)]; omega) (zw_rg _) ?_
    refine tz_aload_n (pc := 36) dX4_weigh_36 rfl rfl ?_
    refine tz_dup (pc := 37) dX4_weigh_37 rfl ?_
    refine tz_fI (pc := 38) (kz := 2) (v := (J 156 2)) dX4_weigh_38 fl_X4_15 i_156_2 rfl rfl (fun r_38 => ?_)
    refine tz_iload_n (pc := 41) dX4_weigh_41 rfl rfl ?_
    refine tz_iadd (pc := 42) (v := (J 156 2) + sg) dX4_weigh_42 rfl ?_
    refine tz_tw ?_
    have rw_43 := zw_rg ((J 156 2) + sg)
    refine tz_pI (pc := 43) (kz := 2) dX4_weigh_43 fl_X4_15 i_156_2 rfl rfl (zw_rg _) ?_
    exact tz_vret (pc := 46) dX4_weigh_46 rfl (Nat.le_of_ble_eq_true rfl) (Nat.le_of_ble_eq_true rfl) ⟨Nat.le_refl _, Nat.le_add_right _ _⟩ ⟨rfl, (by first | exact ⟨fr, f3⟩ | exact ⟨zOf.up rfl (zOf.up rfl zOf.rf), rfl⟩)⟩

set_option maxHeartbeats 4000000 in
set_option maxRecDepth 100000 in
theorem c_weigh1 {l : Launch} {G : tb_G} (hl : l.stackTraces = false) (n : Nat) (J : zJ) (t : Int) (sg : Int) (hr_t : -2147483648 ≤ t ∧ t < 2147483648) (hr_sg : -2147483648 ≤ sg ∧ sg < 2147483648) (m : Int) (C : CT J m) (ht : 0 ≤ t ∧ t < m) : tz_Ok l G M_X4_weigh 6 0 0 [.ref 156, zi t, zi sg, zi 1] n J (zqv (fun J' => zOf (zbut [156, 157]) J' J ∧ J' 156 3 = J 156 3)) zN := by
  refine tz_Ok.of hl (by decide +kernel) rfl (tb_c1 rfl) (Nat.le_of_ble_eq_true rfl) ?_
  show tz_At l G M_X4_weigh (tb_rm 6 0 0) none (tb_ZM G 0 0 (zQ n 0 (zqv (fun J' => zOf (zbut [156, 157]) J' J ∧ J' 156 3 = J 156 3))) (zX n 0 zN)) 0 0 n J 0 [some (.ref 156), some (zi t), some (zi sg), some (zi 1), none, none] []
  have hm := C.told
  have ha := C.ar ht.1 ht.2
  refine tz_iload_n (pc := 0) dX4_weigh_0 rfl rfl ?_
  refine tz_bipush (pc := 1) dX4_weigh_1 (by decide) ?_
  refine tz_icmp_leT (pc := 3) (tgt := 7) (by decide) dX4_weigh_3 (by decide) (by decide) (by decide) ?_
  refine tz_aload_n (pc := 7) dX4_weigh_7 rfl rfl ?_
  refine tz_fR (pc := 8) dX4_weigh_8 fl_X4_25 r_156_0 ?_
  refine tz_fR (pc := 11) dX4_weigh_11 fl_X4_43 r_6_1 ?_
  refine tz_iload_n (pc := 14) dX4_weigh_14 rfl rfl ?_
  refine tz_aL (pc := 15) (z := t) (v := (J 7 t)) dX4_weigh_15 a_7 rfl (by omega) rfl (fun r_15 => ?_)
  refine tz_istore (pc := 16) (L2 := [_, _, _, _, _, _]) dX4_weigh_16 (by decide) rfl ?_
  refine tz_iload (pc := 18) dX4_weigh_18 rfl ?_
  refine tz_if_ge (pc := 20) (tgt := 47) dX4_weigh_20 (by decide) (by omega) (fun h_20 => ?_) (fun h_20 => ?_)
  · refine tz_aload_n (pc := 47) dX4_weigh_47 rfl rfl ?_
    refine tz_dup (pc := 48) dX4_weigh_48 rfl ?_
    refine tz_fI (pc := 49) (kz := 2) (v := (J 156 2)) dX4_weigh_49 fl_X4_15 i_156_2 rfl rfl (fun r_49 => ?_)
    refine tz_iload_n (pc := 52) dX4_weigh_52 rfl rfl ?_
    refine tz_iload (pc := 53) dX4_weigh_53 rfl ?_
    refine tz_aload_n (pc := 55) dX4_weigh_55 rfl rfl ?_
    refine tz_fI (pc := 56) (kz := 3) (v := (J 156 3)) dX4_weigh_56 fl_X4_19 i_156_3 rfl rfl (fun r_56 => ?_)
    have join82 : ∀ (w : Int), (-2147483648 ≤ w ∧ w < 2147483648) → tz_At l G M_X4_weigh (tb_rm 6 0 0) none (tb_ZM G 0 0 (zQ n 0 (zqv (fun J' => zOf (zbut [156, 157]) J' J ∧ J' 156 3 = J 156 3))) (zX n 0 zN)) 0 0 n J 82 [some (.ref 156), some (zi t), some (zi sg), some (zi 1), some (zi (J 7 t)), none] (zi w :: zi sg :: zi (J 156 2) :: .ref 156 :: []) := by
      intro w hr_w
      refine tz_imul (pc := 82) (v := sg * w) dX4_weigh_82 rfl ?_
      refine tz_tw ?_
      have rw_83 := zw_rg (sg * w)
      refine tz_iadd (pc := 83) (v := (J 156 2) + (zw (sg * w))) dX4_weigh_83 rfl ?_
      refine tz_tw ?_
      have rw_84 := zw_rg ((J 156 2) + (zw (sg * w)))
      refine tz_pI (pc := 84) (kz := 2) dX4_weigh_84 fl_X4_15 i_156_2 rfl rfl (zw_rg _) ?_
      refine tz_iconst (pc := 87) dX4_weigh_87 ?_
      refine tz_istore (pc := 88) (L2 := [_, _, _, _, _, _]) dX4_weigh_88 (by decide) rfl ?_
      have loop90 : ∀ (f9 : Nat) (i : Int) (J1 : zJ), ((3 - i).toNat) < f9 → (0 ≤ i ∧ i ≤ J 8 t) → (zOf (zbut [156, 157]) J1 J) → (J1 156 3 = J 156 3) → tz_At l G M_X4_weigh (tb_rm 6 0 0) none (tb_ZM G 0 0 (zQ n 0 (zqv (fun J' => zOf (zbut [156, 157]) J' J ∧ J' 156 3 = J 156 3))) (zX n 0 zN)) 0 0 n J1 90 [some (.ref 156), some (zi t), some (zi sg), some (zi 1), some (zi (J 7 t)), some (zi i)] [] := by
        intro f9
        induction f9 with
        | zero => intro i J1 hm9; exact absurd hm9 (Nat.not_lt_zero _)
        | succ f9 ih90 =>
          intro i J1 hm90 hi fr f3
          have e9 := fr 9 rfl
          refine tz_iload (pc := 90) dX4_weigh_90 rfl ?_
          refine tz_aload_n (pc := 92) dX4_weigh_92 rfl rfl ?_
          refine tz_fR (pc := 93) dX4_weigh_93 fl_X4_25 r_156_0 ?_
          refine tz_fR (pc := 96) dX4_weigh_96 fl_X4_72 r_6_2 ?_
          refine tz_iload_n (pc := 99) dX4_weigh_99 rfl rfl ?_
          refine tz_aL (pc := 100) (z := t) (v := (J 8 t)) dX4_weigh_100 a_8 rfl (by omega) (Eq.trans (congrFun (fr 8 rfl) t) rfl) (fun r_100 => ?_)
          refine tz_icmp_ge (pc := 101) (tgt := 128) dX4_weigh_101 (by decide) (by omega) (by omega) (fun h_101 => ?_) (fun h_101 => ?_)
          · exact tz_vret (pc := 128) dX4_weigh_128 rfl (Nat.le_of_ble_eq_true rfl) (Nat.le_of_ble_eq_true rfl) ⟨Nat.le_refl _, Nat.le_add_right _ _⟩ ⟨rfl, (by first | exact ⟨fr, f3⟩ | exact ⟨zOf.up rfl (zOf.up rfl zOf.rf), rfl⟩)⟩
          · refine tz_aload_n (pc := 104) dX4_weigh_104 rfl rfl ?_
            refine tz_aload_n (pc := 105) dX4_weigh_105 rfl rfl ?_
            refine tz_fR (pc := 106) dX4_weigh_106 fl_X4_25 r_156_0 ?_
            refine tz_iload_n (pc := 109) dX4_weigh_109 rfl rfl ?_
            refine tz_iload (pc := 110) dX4_weigh_110 rfl ?_
            refine tz_cV (pc := 112) (c_arg hl n _ _ _ (by omega) (by omega) (by omega)) vl_X4_50 dX4_weigh_112 o_6 rfl rfl (Nat.le_of_ble_eq_true rfl) ⟨(Nat.le_of_ble_eq_true rfl), (Nat.le_of_ble_eq_true rfl)⟩ rfl rfl (Nat.le_of_ble_eq_true rfl) (Nat.le_of_ble_eq_true rfl) (fun r9 J_112 hq9 => ?_)
            obtain ⟨z_112, rfl, hz_112, rfl, rfl⟩ := hq9
            refine tz_iload_n (pc := 115) dX4_weigh_115 rfl rfl ?_
            refine tz_iload_n (pc := 116) dX4_weigh_116 rfl rfl ?_
            refine tz_iconst (pc := 117) dX4_weigh_117 ?_
            refine tz_iadd (pc := 118) (v := 2) dX4_weigh_118 (by decide) ?_
            have g1 := (C.arg (t := t) (i := i) (by omega) (by omega) (by omega) (by omega)).1
            rw [← e9] at g1
            refine tz_cV (pc := 119) (c_weigh2 hl n _ _ _ (by omega) (by omega) m (C.of (fun c hc => fr c (by simp [zbut]; omega))) (by omega)) vl_X4_59 dX4_weigh_119 o_156 rfl rfl (Nat.le_of_ble_eq_true rfl) ⟨(Nat.le_of_ble_eq_true rfl), (Nat.le_of_ble_eq_true rfl)⟩ rfl rfl (Nat.le_of_ble_eq_true rfl) (Nat.le_of_ble_eq_true rfl) (fun r9 J_119 hq9 => ?_)
            obtain ⟨rfl, f2, k2⟩ := hq9
            refine tz_iinc (pc := 122) (z := i + 1) (L2 := [_, _, _, _, _, _]) dX4_weigh_122 rfl (by omega) rfl ?_
            refine tz_goto (pc := 125) (tgt := 90) dX4_weigh_125 (by decide) ?_
            exact ih90 (i + 1) _ (by omega) (by omega) (f2.tr fr) (k2.trans f3)
      exact loop90 _ 0 _ (Nat.lt_succ_self _) (by omega) (zOf.up rfl zOf.rf) rfl
    refine tz_icmp_ne (pc := 59) (tgt := 69) dX4_weigh_59 (by decide) (by omega) (by omega) (fun h_59 => ?_) (fun h_59 => ?_)
    · refine tz_aload_n (pc := 69) dX4_weigh_69 rfl rfl ?_
      refine tz_fR (pc := 70) dX4_weigh_70 fl_X4_25 r_156_0 ?_
      refine tz_fR (pc := 73) dX4_weigh_73 fl_X4_63 r_6_0 ?_
      refine tz_fR (pc := 76) dX4_weigh_76 fl_X4_67 r_1_2 ?_
      refine tz_iload (pc := 79) dX4_weigh_79 rfl ?_
      refine tz_aL (pc := 81) (z := (J 7 t)) (v := (J 4 (J 7 t))) dX4_weigh_81 a_4 rfl (by omega) rfl (fun r_81 => ?_)
      exact join82 (J 4 (J 7 t)) (by omega) 
    · refine tz_aload_n (pc := 62) dX4_weigh_62 rfl rfl ?_
      refine tz_fI (pc := 63) (kz := 4) (v := (J 156 4)) dX4_weigh_63 fl_X4_22 i_156_4 rfl rfl (fun r_63 => ?_)
      refine tz_goto (pc := 66) (tgt := 82) dX4_weigh_66 (by decide) ?_
      exact join82 (J 156 4) (by omega) 
  · refine tz_aload_n (pc := 23) dX4_weigh_23 rfl rfl ?_
    refine tz_fR (pc := 24) dX4_weigh_24 fl_X4_9 r_156_1 ?_
    refine tz_iload (pc := 27) dX4_weigh_27 rfl ?_
    refine tz_iconst (pc := 29) dX4_weigh_29 ?_
    refine tz_ixor (pc := 30) (v := zxor (J 7 t) (-1)) dX4_weigh_30 rfl ?_
    refine tz_dup2 (pc := 31) dX4_weigh_31 rfl rfl ?_
    refine tz_aL (pc := 32) (z := (zxor (J 7 t) (-1))) (v := (J 157 (zxor (J 7 t) (-1)))) dX4_weigh_32 a_157 rfl (by rw [z_nn (by omega)]; omega) rfl (fun r_32 => ?_)
    refine tz_iload_n (pc := 33) dX4_weigh_33 rfl rfl ?_
    refine tz_iadd (pc := 34) (v := (J 157 (zxor (J 7 t) (-1))) + sg) dX4_weigh_34 rfl ?_
    refine tz_tw ?_
    have rw_35 := zw_rg ((J 157 (zxor (J 7 t) (-1))) + sg)
    refine tz_aS (pc := 35) (z := (zxor (J 7 t) (-1))) dX4_weigh_35 a_157 rfl (by rw [z_nn (by omega)]; omega) (zw_rg _) ?_
    refine tz_aload_n (pc := 36) dX4_weigh_36 rfl rfl ?_
    refine tz_dup (pc := 37) dX4_weigh_37 rfl ?_
    refine tz_fI (pc := 38) (kz := 2) (v := (J 156 2)) dX4_weigh_38 fl_X4_15 i_156_2 rfl rfl (fun r_38 => ?_)
    refine tz_iload_n (pc := 41) dX4_weigh_41 rfl rfl ?_
    refine tz_iadd (pc := 42) (v := (J 156 2) + sg) dX4_weigh_42 rfl ?_
    refine tz_tw ?_
    have rw_43 := zw_rg ((J 156 2) + sg)
    refine tz_pI (pc := 43) (kz := 2) dX4_weigh_43 fl_X4_15 i_156_2 rfl rfl (zw_rg _) ?_
    exact tz_vret (pc := 46) dX4_weigh_46 rfl (Nat.le_of_ble_eq_true rfl) (Nat.le_of_ble_eq_true rfl) ⟨Nat.le_refl _, Nat.le_add_right _ _⟩ ⟨rfl, (by first | exact ⟨fr, f3⟩ | exact ⟨zOf.up rfl (zOf.up rfl zOf.rf), rfl⟩)⟩

set_option maxHeartbeats 4000000 in
set_option maxRecDepth 100000 in
theorem c_weighBoth {l : Launch} {G : tb_G} (hl : l.stackTraces = false) (n : Nat) (J : zJ) (s : Int) (t : Int) (hr_s : -2147483648 ≤ s ∧ s < 2147483648) (hr_t : -2147483648 ≤ t ∧ t < 2147483648) (m : Int) (C : CT J m) (hs : 0 ≤ s ∧ s < m) (ht : 0 ≤ t ∧ t < m) : tz_Ok l G M_X4_weighBoth 7 0 0 [.ref 156, zi s, zi t] n J (zqv (fun J' => zOf (zbut [156, 157]) J' J ∧ J' 156 3 = J 156 3)) zN := by
  refine tz_Ok.of hl (by decide +kernel) rfl (tb_c1 rfl) (Nat.le_of_ble_eq_true rfl) ?_
  show tz_At l G M_X4_weighBoth (tb_rm 7 0 0) none (tb_ZM G 0 0 (zQ n 0 (zqv (fun J' => zOf (zbut [156, 157]) J' J ∧ J' 156 3 = J 156 3))) (zX n 0 zN)) 0 0 n J 0 [some (.ref 156), some (zi s), some (zi t)] []
  refine tz_aload_n (pc := 0) dX4_weighBoth_0 rfl rfl ?_
  refine tz_fR (pc := 1) dX4_weighBoth_1 fl_X4_9 r_156_1 ?_
  refine tz_iconst (pc := 4) dX4_weighBoth_4 ?_
  refine tz_cS (pc := 5) (zJ_fill hl n _ 157 _ 8 0 (by decide) a_157 rfl) sl_X4_53 dX4_weighBoth_5 rfl rfl (Nat.le_of_ble_eq_true rfl) ⟨(Nat.le_of_ble_eq_true rfl), (Nat.le_of_ble_eq_true rfl)⟩ rfl rfl (Nat.le_of_ble_eq_true rfl) (Nat.le_of_ble_eq_true rfl) (fun r9 J_5 hq9 => ?_)
  obtain ⟨rfl, rfl⟩ := hq9
  refine tz_aload_n (pc := 8) dX4_weighBoth_8 rfl rfl ?_
  refine tz_iconst (pc := 9) dX4_weighBoth_9 ?_
  refine tz_pI (pc := 10) (kz := 2) dX4_weighBoth_10 fl_X4_15 i_156_2 rfl rfl (by decide) ?_
  refine tz_aload_n (pc := 13) dX4_weighBoth_13 rfl rfl ?_
  refine tz_iload_n (pc := 14) dX4_weighBoth_14 rfl rfl ?_
  refine tz_iconst (pc := 15) dX4_weighBoth_15 ?_
  refine tz_iconst (pc := 16) dX4_weighBoth_16 ?_
  refine tz_cV (pc := 17) (c_weigh1 hl n _ _ _ (by omega) (by decide) m (C.of (fun c hc => (zup_nc (by omega)).trans (zfl_nc (by omega)))) hs) vl_X4_59 dX4_weighBoth_17 o_156 rfl rfl (Nat.le_of_ble_eq_true rfl) ⟨(Nat.le_of_ble_eq_true rfl), (Nat.le_of_ble_eq_true rfl)⟩ rfl rfl (Nat.le_of_ble_eq_true rfl) (Nat.le_of_ble_eq_true rfl) (fun r9 J_17 hq9 => ?_)
  obtain ⟨rfl, f1, k1⟩ := hq9
  refine tz_aload_n (pc := 20) dX4_weighBoth_20 rfl rfl ?_
  refine tz_iload_n (pc := 21) dX4_weighBoth_21 rfl rfl ?_
  refine tz_iconst (pc := 22) dX4_weighBoth_22 ?_
  refine tz_iconst (pc := 23) dX4_weighBoth_23 ?_
  refine tz_cV (pc := 24) (c_weigh1 hl n _ _ _ (by omega) (by decide) m (C.of (fun c hc => (f1 c (by simp [zbut]; omega)).trans ((zup_nc (by omega)).trans (zfl_nc (by omega))))) ht) vl_X4_59 dX4_weighBoth_24 o_156 rfl rfl (Nat.le_of_ble_eq_true rfl) ⟨(Nat.le_of_ble_eq_true rfl), (Nat.le_of_ble_eq_true rfl)⟩ rfl rfl (Nat.le_of_ble_eq_true rfl) (Nat.le_of_ble_eq_true rfl) (fun r9 J_24 hq9 => ?_)
  obtain ⟨rfl, f2, k2⟩ := hq9
  exact tz_vret (pc := 27) dX4_weighBoth_27 rfl (Nat.le_of_ble_eq_true rfl) (Nat.le_of_ble_eq_true rfl) ⟨Nat.le_refl _, Nat.le_add_right _ _⟩ ⟨rfl, ⟨f2.tr (f1.tr (zOf.up rfl (zOf.fl rfl zOf.rf))), k2.trans (k1.trans rfl)⟩⟩

set_option maxHeartbeats 4000000 in
set_option maxRecDepth 100000 in
theorem c_lacks {l : Launch} {G : tb_G} (hl : l.stackTraces = false) (n : Nat) (J : zJ)     : tz_Ok l G M_X4_lacksVariable 0 0 0 [.ref 156] n J (zqi (fun z J' => J = J' ∧ (z = 0 ∨ z = 1))) zN := by
  refine tz_Ok.of hl (by decide +kernel) rfl (tb_c1 rfl) (Nat.le_of_ble_eq_true rfl) ?_
  show tz_At l G M_X4_lacksVariable (tb_rm 0 0 0) none (tb_ZM G 0 0 (zQ n 0 (zqi (fun z J' => J = J' ∧ (z = 0 ∨ z = 1)))) (zX n 0 zN)) 0 0 n J 0 [some (.ref 156), none] []
  refine tz_iconst (pc := 0) dX4_lacksVariable_0 ?_
  refine tz_istore_n (pc := 1) (L2 := [_, _]) dX4_lacksVariable_1 rfl (by decide) rfl ?_
  have loop2 : ∀ (f9 : Nat) (i : Int), ((8 - i).toNat) < f9 → (0 ≤ i ∧ i ≤ 8) → tz_At l G M_X4_lacksVariable (tb_rm 0 0 0) none (tb_ZM G 0 0 (zQ n 0 (zqi (fun z J' => J = J' ∧ (z = 0 ∨ z = 1)))) (zX n 0 zN)) 0 0 n J 2 [some (.ref 156), some (zi i)] [] := by
    intro f9
    induction f9 with
    | zero => intro i hm9; exact absurd hm9 (Nat.not_lt_zero _)
    | succ f9 ih2 =>
      intro i hm2 hi
      refine tz_iload_n (pc := 2) dX4_lacksVariable_2 rfl rfl ?_
      refine tz_bipush (pc := 3) dX4_lacksVariable_3 (by decide) ?_
      refine tz_icmp_ge (pc := 5) (tgt := 25) dX4_lacksVariable_5 (by decide) (by omega) (by decide) (fun h_5 => ?_) (fun h_5 => ?_)
      · refine tz_iconst (pc := 25) dX4_lacksVariable_25 ?_
        exact tz_zret (pc := 26) (z := 0) dX4_lacksVariable_26 rfl (Or.inl rfl) (Nat.le_of_ble_eq_true rfl) (Nat.le_of_ble_eq_true rfl) ⟨Nat.le_refl _, Nat.le_add_right _ _⟩ ⟨_, rfl, (by decide), ⟨rfl, by omega⟩⟩
      · refine tz_aload_n (pc := 8) dX4_lacksVariable_8 rfl rfl ?_
        refine tz_fR (pc := 9) dX4_lacksVariable_9 fl_X4_9 r_156_1 ?_
        refine tz_iload_n (pc := 12) dX4_lacksVariable_12 rfl rfl ?_
        refine tz_aL (pc := 13) (z := i) (v := (J 157 i)) dX4_lacksVariable_13 a_157 rfl (by omega) rfl (fun r_13 => ?_)
        refine tz_if_ge (pc := 14) (tgt := 19) dX4_lacksVariable_14 (by decide) (by omega) (fun h_14 => ?_) (fun h_14 => ?_)
        · refine tz_iinc (pc := 19) (z := i + 1) (L2 := [_, _]) dX4_lacksVariable_19 rfl (by omega) rfl ?_
          refine tz_goto (pc := 22) (tgt := 2) dX4_lacksVariable_22 (by decide) ?_
          exact ih2 (i + 1) (by omega) (by omega)
        · refine tz_iconst (pc := 17) dX4_lacksVariable_17 ?_
          exact tz_zret (pc := 18) (z := 1) dX4_lacksVariable_18 rfl (Or.inr rfl) (Nat.le_of_ble_eq_true rfl) (Nat.le_of_ble_eq_true rfl) ⟨Nat.le_refl _, Nat.le_add_right _ _⟩ ⟨_, rfl, (by decide), ⟨rfl, by omega⟩⟩
  exact loop2 _ 0 (Nat.lt_succ_self _) (by omega)

set_option maxHeartbeats 4000000 in
set_option maxRecDepth 100000 in
theorem c_unlikeArg {l : Launch} {G : tb_G} (hl : l.stackTraces = false) (n : Nat) (J : zJ) (s : Int) (t : Int) (hr_s : -2147483648 ≤ s ∧ s < 2147483648) (hr_t : -2147483648 ≤ t ∧ t < 2147483648) (m : Int) (C : CT J m) (hs : 0 ≤ s ∧ s < m) (ht : 0 ≤ t ∧ t < m) (h8 : 0 < J 8 s) : tz_Ok l G M_X4_firstUnlike 1 0 0 [.ref 156, zi s, zi t] n J (zqi (fun z J' => J = J' ∧ 0 ≤ z ∧ z < J 8 s)) zN := by
  refine tz_Ok.of hl (by decide +kernel) rfl (tb_c1 rfl) (Nat.le_of_ble_eq_true rfl) ?_
  show tz_At l G M_X4_firstUnlike (tb_rm 1 0 0) none (tb_ZM G 0 0 (zQ n 0 (zqi (fun z J' => J = J' ∧ 0 ≤ z ∧ z < J 8 s))) (zX n 0 zN)) 0 0 n J 0 [some (.ref 156), some (zi s), some (zi t), none, none] []
  have hm := C.told
  have ha := C.ar hs.1 hs.2
  refine tz_aload_n (pc := 0) dX4_firstUnlike_0 rfl rfl ?_
  refine tz_fR (pc := 1) dX4_firstUnlike_1 fl_X4_25 r_156_0 ?_
  refine tz_fR (pc := 4) dX4_firstUnlike_4 fl_X4_72 r_6_2 ?_
  refine tz_iload_n (pc := 7) dX4_firstUnlike_7 rfl rfl ?_
  refine tz_aL (pc := 8) (z := s) (v := (J 8 s)) dX4_firstUnlike_8 a_8 rfl (by omega) rfl (fun r_8 => ?_)
  refine tz_iconst (pc := 9) dX4_firstUnlike_9 ?_
  refine tz_isub (pc := 10) (v := (J 8 s) - 1) dX4_firstUnlike_10 rfl ?_
  refine tz_istore_n (pc := 11) (L2 := [_, _, _, _, _]) dX4_firstUnlike_11 rfl (by decide) rfl ?_
  refine tz_iconst (pc := 12) dX4_firstUnlike_12 ?_
  refine tz_istore (pc := 13) (L2 := [_, _, _, _, _]) dX4_firstUnlike_13 (by decide) rfl ?_
  have loop15 : ∀ (f9 : Nat) (i : Int), ((3 - i).toNat) < f9 → (0 ≤ i ∧ i ≤ J 8 s - 1) → tz_At l G M_X4_firstUnlike (tb_rm 1 0 0) none (tb_ZM G 0 0 (zQ n 0 (zqi (fun z J' => J = J' ∧ 0 ≤ z ∧ z < J 8 s))) (zX n 0 zN)) 0 0 n J 15 [some (.ref 156), some (zi s), some (zi t), some (zi ((J 8 s) - 1)), some (zi i)] [] := by
    intro f9
    induction f9 with
    | zero => intro i hm9; exact absurd hm9 (Nat.not_lt_zero _)
    | succ f9 ih15 =>
      intro i hm15 hi
      refine tz_iload (pc := 15) dX4_firstUnlike_15 rfl ?_
      refine tz_iload_n (pc := 17) dX4_firstUnlike_17 rfl rfl ?_
      refine tz_icmp_ge (pc := 18) (tgt := 53) dX4_firstUnlike_18 (by decide) (by omega) (by omega) (fun h_18 => ?_) (fun h_18 => ?_)
      · refine tz_iload_n (pc := 53) dX4_firstUnlike_53 rfl rfl ?_
        refine tz_iconst (pc := 54) dX4_firstUnlike_54 ?_
        refine tz_mx (pc := 55) (v := J 8 s - 1) dX4_firstUnlike_55 ml_X4_75 (Nat.le_of_ble_eq_true rfl) (Nat.le_of_ble_eq_true rfl) (Nat.le_of_ble_eq_true rfl) (Nat.le_of_ble_eq_true rfl) (by omega) (by decide) (by split <;> omega) ?_
        exact tz_iret (pc := 58) (z := (J 8 s - 1)) dX4_firstUnlike_58 rfl (Nat.le_of_ble_eq_true rfl) (Nat.le_of_ble_eq_true rfl) ⟨Nat.le_refl _, Nat.le_add_right _ _⟩ ⟨_, rfl, (by omega), ⟨rfl, by omega, by omega⟩⟩
      · refine tz_aload_n (pc := 21) dX4_firstUnlike_21 rfl rfl ?_
        refine tz_fR (pc := 22) dX4_firstUnlike_22 fl_X4_25 r_156_0 ?_
        refine tz_iload_n (pc := 25) dX4_firstUnlike_25 rfl rfl ?_
        refine tz_iload (pc := 26) dX4_firstUnlike_26 rfl ?_
        refine tz_cV (pc := 28) (c_arg hl n _ _ _ (by omega) (by omega) (by omega)) vl_X4_50 dX4_firstUnlike_28 o_6 rfl rfl (Nat.le_of_ble_eq_true rfl) ⟨(Nat.le_of_ble_eq_true rfl), (Nat.le_of_ble_eq_true rfl)⟩ rfl rfl (Nat.le_of_ble_eq_true rfl) (Nat.le_of_ble_eq_true rfl) (fun r9 J_28 hq9 => ?_)
        obtain ⟨z_28, rfl, hz_28, rfl, rfl⟩ := hq9
        refine tz_aload_n (pc := 31) dX4_firstUnlike_31 rfl rfl ?_
        refine tz_fR (pc := 32) dX4_firstUnlike_32 fl_X4_25 r_156_0 ?_
        refine tz_iload_n (pc := 35) dX4_firstUnlike_35 rfl rfl ?_
        refine tz_iload (pc := 36) dX4_firstUnlike_36 rfl ?_
        refine tz_cV (pc := 38) (c_arg hl n _ _ _ (by omega) (by omega) (by omega)) vl_X4_50 dX4_firstUnlike_38 o_6 rfl rfl (Nat.le_of_ble_eq_true rfl) ⟨(Nat.le_of_ble_eq_true rfl), (Nat.le_of_ble_eq_true rfl)⟩ rfl rfl (Nat.le_of_ble_eq_true rfl) (Nat.le_of_ble_eq_true rfl) (fun r9 J_38 hq9 => ?_)
        obtain ⟨z_38, rfl, hz_38, rfl, rfl⟩ := hq9
        refine tz_icmp_eq (pc := 41) (tgt := 47) dX4_firstUnlike_41 (by decide) (by omega) (by omega) (fun h_41 => ?_) (fun h_41 => ?_)
        · refine tz_iinc (pc := 47) (z := i + 1) (L2 := [_, _, _, _, _]) dX4_firstUnlike_47 rfl (by omega) rfl ?_
          refine tz_goto (pc := 50) (tgt := 15) dX4_firstUnlike_50 (by decide) ?_
          exact ih15 (i + 1) (by omega) (by omega)
        · refine tz_iload (pc := 44) dX4_firstUnlike_44 rfl ?_
          exact tz_iret (pc := 46) (z := i) dX4_firstUnlike_46 rfl (Nat.le_of_ble_eq_true rfl) (Nat.le_of_ble_eq_true rfl) ⟨Nat.le_refl _, Nat.le_add_right _ _⟩ ⟨_, rfl, (by omega), ⟨rfl, by omega, by omega⟩⟩
  exact loop15 _ 0 (Nat.lt_succ_self _) (by omega)

