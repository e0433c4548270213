/-! ===== drawn of the class, exact ===== -/
theorem dr_v {J1 J J' S : zJ} {x s v z m : Int} (hx : 1 ≤ x) (hG : S 164 21 = 0) (E : A0 J S) (f : zOf (zbut [141]) J1 J) (C : CT J1 m) (hm : J1 6 12 = m) (hs : J1 141 5 = dwS (dwS s)) (hv : v = dwN (dwS (dwS s)) 3) (hv3 : 0 ≤ v ∧ v < 3) (hc : dwN (dwS s) 8 = 0 ∨ x ≤ 1 ∨ J 1 3 = 0) (p : madeP J1 m (-1 - v) (-1) (-1) (-1) z J') : EXD (drO x.toNat S s) z J' := by
  obtain ⟨d, hd⟩ : ∃ d, x.toNat = d + 1 := ⟨x.toNat - 1, by omega⟩
  have e9 := E.1.1
  rw [hd, drO_s, if_pos (by omega)]
  have E1 : A0 J1 S := E.f (fun c hc => f c (by simp [zbut]; omega))
  have t := C.told
  have ar0 : arh (J1 3) (-1 - v) = 0 := by unfold arh; rw [if_pos (by omega)]
  rcases E1.made hG C hm (h := -1 - v) (x := 0) (y := 0) (w := 0) ⟨by omega, by omega⟩ (by rw [ar0]; exact ⟨fun q => by omega, fun q => by omega, fun q => by omega⟩) (by rw [ar0]; exact ⟨fun q => by omega, fun q => by omega, fun q => by omega⟩) p with u | ⟨u1, u2, u3, u4⟩
  · rw [hv] at u
    exact Or.inl ⟨u.1.2, u.2⟩
  · rw [hv] at u2 u3 u4
    exact Or.inr ⟨u1, u2, u3, u4, by rw [p.1 141 rfl]; exact hs⟩
theorem dr_c {J1 J J' S : zJ} {x s y z : Int} (hx : 1 < x) (E : A0 J S) (hc : ¬ dwN (dwS s) 8 = 0) (h3 : ¬ J 1 3 = 0) (hy : y = dwN (dwS (dwS s)) (J 1 3)) (e : EXD (drR (drO (x - 1).toNat) S (dwS (dwS s)) y) z J') : EXD (drO x.toNat S s) z J' := by
  have hd : x.toNat = (x - 1).toNat + 1 := by omega
  have e9 := E.1.1
  rw [hd, drO_s, if_neg (by omega), ← e9, ← hy]
  exact e
set_option maxHeartbeats 4000000 in
set_option maxRecDepth 100000 in
theorem x_drawnP {l : Launch} {G : tb_G} (hl : l.stackTraces = false) (n : Nat) : ∀ (r9 : Nat) (J : zJ) (x : Int) (hr_x : -2147483648 ≤ x ∧ x < 2147483648) (m : Int) (C : CT J m) (hm : J 6 12 = m) (hx : 1 ≤ x), (x.toNat) < r9 → tz_Ok l G M_X2_drawnPart (4 + 1 * r9) 0 0 [.ref 141, zi x] n J (zqi (fun z J' => ∃ m', GX [141] J' J m m' ∧ (z = -3 ∨ (0 ≤ z ∧ z < m')) ∧ ∀ S, S 164 21 = 0 → A0 J S → EXD (drO x.toNat S (J 141 5)) z J')) zN := by
  intro r9
  induction r9 with
  | zero => intro J x hr_x m C hm hx hm9; exact absurd hm9 (Nat.not_lt_zero _)
  | succ r9 ih =>
    intro J x hr_x m C hm hx hm9
    refine tz_Ok.of hl (by decide +kernel) rfl (tb_c1 rfl) (Nat.le_of_ble_eq_true rfl) ?_
    show tz_At l G M_X2_drawnPart (tb_rm (4 + 1 * (r9 + 1)) 0 0) none (tb_ZM G 0 0 (zQ n 0 (zqi (fun z J' => ∃ m', GX [141] J' J m m' ∧ (z = -3 ∨ (0 ≤ z ∧ z < m')) ∧ ∀ S, S 164 21 = 0 → A0 J S → EXD (drO x.toNat S (J 141 5)) z J'))) (zX n 0 zN)) 0 0 n J 0 [some (.ref 141), some (zi x), none, none, none, none, none, none, none] []
    have hb := C.told
    have g0 : GX [141] J J m m := GX.rf C hm
    refine tz_aload_n (pc := 0) dX2_drawnPart_0 rfl rfl ?_
    refine tz_bipush (pc := 1) dX2_drawnPart_1 (by decide) ?_
    refine tz_cV (pc := 3) (c_drawOf hl n _ _ (by omega) (by omega)) vl_X2_111 dX2_drawnPart_3 o_141 rfl rfl (Nat.le_of_ble_eq_true rfl) ⟨(show 0 + 1 ≤ 4 + 1 * (r9 + 1) by omega), (show 8 + (2 + 11) + 40 * (0) ≤ 40 * (4 + 1 * (r9 + 1)) by omega)⟩ rfl rfl (Nat.le_of_ble_eq_true rfl) (Nat.le_of_ble_eq_true rfl) (fun r9 J_3 hq9 => ?_)
    obtain ⟨z_3, rfl, hz_3, hj_3, hz_3, zv_3⟩ := hq9
    have f_3 : zOf (zbut [141]) J_3 J := by rw [← hj_3]; exact zOf.up rfl zOf.rf
    have q_3 : GX [141] J_3 J m m := (g0).off rfl f_3
    have s_3 : J_3 141 5 = dwS (J 141 5) := by rw [← hj_3]; exact zup_at
    have n_3 : z_3 = dwN (dwS (J 141 5)) 8 := by rw [← zv_3, z32767]; rfl
    refine tz_istore_n (pc := 6) (L2 := [_, _, _, _, _, _, _, _, _]) dX2_drawnPart_6 rfl (by decide) rfl ?_
    refine tz_aload_n (pc := 7) dX2_drawnPart_7 rfl rfl ?_
    refine tz_fR (pc := 8) dX2_drawnPart_8 fl_X2_28 r_141_0 ?_
    refine tz_fR (pc := 11) dX2_drawnPart_11 fl_X2_114 r_6_0 ?_
    refine tz_fI (pc := 14) (kz := 3) (v := (J 1 3)) dX2_drawnPart_14 fl_X2_118 i_1_3 rfl (Eq.trans (congrFun (f_3 1 rfl) 3) rfl) (fun r_14 => ?_)
    refine tz_istore_n (pc := 17) (L2 := [_, _, _, _, _, _, _, _, _]) dX2_drawnPart_17 rfl (by decide) rfl ?_
    refine tz_iload_n (pc := 18) dX2_drawnPart_18 rfl rfl ?_
    refine tz_if_eq (pc := 19) (tgt := 31) dX2_drawnPart_19 (by decide) (by omega) (fun h_19 => ?_) (fun h_19 => ?_)
    · refine tz_aload_n (pc := 31) dX2_drawnPart_31 rfl rfl ?_
      refine tz_fR (pc := 32) dX2_drawnPart_32 fl_X2_28 r_141_0 ?_
      refine tz_aload_n (pc := 35) dX2_drawnPart_35 rfl rfl ?_
      refine tz_iconst (pc := 36) dX2_drawnPart_36 ?_
      refine tz_cV (pc := 37) (c_drawOf hl n _ _ (by omega) (by omega)) vl_X2_111 dX2_drawnPart_37 o_141 rfl rfl (Nat.le_of_ble_eq_true rfl) ⟨(show 0 + 1 ≤ 4 + 1 * (r9 + 1) by omega), (show 8 + (2 + 11) + 40 * (0) ≤ 40 * (4 + 1 * (r9 + 1)) by omega)⟩ rfl rfl (Nat.le_of_ble_eq_true rfl) (Nat.le_of_ble_eq_true rfl) (fun r9 J_37 hq9 => ?_)
      obtain ⟨z_37, rfl, hz_37, hj_37, hz_37, zv_37⟩ := hq9
      have f_37 : zOf (zbut [141]) J_37 J_3 := by rw [← hj_37]; exact zOf.up rfl zOf.rf
      have q_37 : GX [141] J_37 J m m := (q_3).off rfl f_37
      have s_37 : J_37 141 5 = dwS (J_3 141 5) := by rw [← hj_37]; exact zup_at
      have n_37 : z_37 = dwN (dwS (J_3 141 5)) 3 := by rw [← zv_37, z32767]; rfl
      have b_40 := (q_37).2.1.told
      refine tz_cV (pc := 40) (c_varTerm hl n _ _ (by omega) m (q_37).2.1 (q_37).2.2.1 (by omega)) vl_X2_99 dX2_drawnPart_40 o_6 rfl rfl (Nat.le_of_ble_eq_true rfl) ⟨(show 3 + 1 ≤ 4 + 1 * (r9 + 1) by omega), (show 8 + (2 + 11) + 40 * (3) ≤ 40 * (4 + 1 * (r9 + 1)) by omega)⟩ rfl rfl (Nat.le_of_ble_eq_true rfl) (Nat.le_of_ble_eq_true rfl) (fun r9 J_40 hq9 => ?_)
      obtain ⟨z_40, rfl, hz_40, p_40⟩ := hq9
      obtain ⟨m_40, g_40, h_40⟩ := GR.made p_40 (by omega)
      have q_40 : GX [141] J_40 J m m_40 := GX.tr q_37 (GR.x g_40)
      exact tz_iret (pc := 43) (z := z_40) dX2_drawnPart_43 rfl (Nat.le_of_ble_eq_true rfl) (Nat.le_of_ble_eq_true rfl) ⟨Nat.le_refl _, Nat.le_add_right _ _⟩ ⟨_, rfl, (by omega), ⟨m_40, q_40, h_40, fun S hG E => dr_v (by omega) hG E (f_37.tr f_3) q_37.2.1 q_37.2.2.1 (by rw [s_37, s_3]) (by rw [n_37, s_3]) (by omega) (by rw [← n_3]; omega) p_40⟩⟩
    · refine tz_iload_n (pc := 22) dX2_drawnPart_22 rfl rfl ?_
      refine tz_iconst (pc := 23) dX2_drawnPart_23 ?_
      refine tz_icmp_le (pc := 24) (tgt := 31) dX2_drawnPart_24 (by decide) (by omega) (by decide) (fun h_24 => ?_) (fun h_24 => ?_)
      · refine tz_aload_n (pc := 31) dX2_drawnPart_31 rfl rfl ?_
        refine tz_fR (pc := 32) dX2_drawnPart_32 fl_X2_28 r_141_0 ?_
        refine tz_aload_n (pc := 35) dX2_drawnPart_35 rfl rfl ?_
        refine tz_iconst (pc := 36) dX2_drawnPart_36 ?_
        refine tz_cV (pc := 37) (c_drawOf hl n _ _ (by omega) (by omega)) vl_X2_111 dX2_drawnPart_37 o_141 rfl rfl (Nat.le_of_ble_eq_true rfl) ⟨(show 0 + 1 ≤ 4 + 1 * (r9 + 1) by omega), (show 8 + (2 + 11) + 40 * (0) ≤ 40 * (4 + 1 * (r9 + 1)) by omega)⟩ rfl rfl (Nat.le_of_ble_eq_true rfl) (Nat.le_of_ble_eq_true rfl) (fun r9 J_37 hq9 => ?_)
        obtain ⟨z_37, rfl, hz_37, hj_37, hz_37, zv_37⟩ := hq9
        have f_37 : zOf (zbut [141]) J_37 J_3 := by rw [← hj_37]; exact zOf.up rfl zOf.rf
        have q_37 : GX [141] J_37 J m m := (q_3).off rfl f_37
        have s_37 : J_37 141 5 = dwS (J_3 141 5) := by rw [← hj_37]; exact zup_at
        have n_37 : z_37 = dwN (dwS (J_3 141 5)) 3 := by rw [← zv_37, z32767]; rfl
        have b_40 := (q_37).2.1.told
        refine tz_cV (pc := 40) (c_varTerm hl n _ _ (by omega) m (q_37).2.1 (q_37).2.2.1 (by omega)) vl_X2_99 dX2_drawnPart_40 o_6 rfl rfl (Nat.le_of_ble_eq_true rfl) ⟨(show 3 + 1 ≤ 4 + 1 * (r9 + 1) by omega), (show 8 + (2 + 11) + 40 * (3) ≤ 40 * (4 + 1 * (r9 + 1)) by omega)⟩ rfl rfl (Nat.le_of_ble_eq_true rfl) (Nat.le_of_ble_eq_true rfl) (fun r9 J_40 hq9 => ?_)
        obtain ⟨z_40, rfl, hz_40, p_40⟩ := hq9
        obtain ⟨m_40, g_40, h_40⟩ := GR.made p_40 (by omega)
        have q_40 : GX [141] J_40 J m m_40 := GX.tr q_37 (GR.x g_40)
        exact tz_iret (pc := 43) (z := z_40) dX2_drawnPart_43 rfl (Nat.le_of_ble_eq_true rfl) (Nat.le_of_ble_eq_true rfl) ⟨Nat.le_refl _, Nat.le_add_right _ _⟩ ⟨_, rfl, (by omega), ⟨m_40, q_40, h_40, fun S hG E => dr_v (by omega) hG E (f_37.tr f_3) q_37.2.1 q_37.2.2.1 (by rw [s_37, s_3]) (by rw [n_37, s_3]) (by omega) (by rw [← n_3]; omega) p_40⟩⟩
      · refine tz_iload_n (pc := 27) dX2_drawnPart_27 rfl rfl ?_
        refine tz_if_ne (pc := 28) (tgt := 44) dX2_drawnPart_28 (by decide) (by omega) (fun h_28 => ?_) (fun h_28 => ?_)
        · refine tz_aload_n (pc := 44) dX2_drawnPart_44 rfl rfl ?_
          refine tz_iload_n (pc := 45) dX2_drawnPart_45 rfl rfl ?_
          refine tz_cV (pc := 46) (c_drawOf hl n _ _ (by omega) (by omega)) vl_X2_111 dX2_drawnPart_46 o_141 rfl rfl (Nat.le_of_ble_eq_true rfl) ⟨(show 0 + 1 ≤ 4 + 1 * (r9 + 1) by omega), (show 8 + (2 + 11) + 40 * (0) ≤ 40 * (4 + 1 * (r9 + 1)) by omega)⟩ rfl rfl (Nat.le_of_ble_eq_true rfl) (Nat.le_of_ble_eq_true rfl) (fun r9 J_46 hq9 => ?_)
          obtain ⟨z_46, rfl, hz_46, hj_46, hz_46, zv_46⟩ := hq9
          have f_46 : zOf (zbut [141]) J_46 J_3 := by rw [← hj_46]; exact zOf.up rfl zOf.rf
          have q_46 : GX [141] J_46 J m m := (q_3).off rfl f_46
          have s_46 : J_46 141 5 = dwS (J_3 141 5) := by rw [← hj_46]; exact zup_at
          have n_46 : z_46 = dwN (dwS (J_3 141 5)) (J 1 3) := by rw [← zv_46, z32767]; rfl
          refine tz_istore (pc := 49) (L2 := [_, _, _, _, _, _, _, _, _]) dX2_drawnPart_49 (by decide) rfl ?_
          refine tz_aload_n (pc := 51) dX2_drawnPart_51 rfl rfl ?_
          refine tz_fR (pc := 52) dX2_drawnPart_52 fl_X2_28 r_141_0 ?_
          refine tz_fR (pc := 55) dX2_drawnPart_55 fl_X2_114 r_6_0 ?_
          refine tz_fR (pc := 58) dX2_drawnPart_58 fl_X2_123 r_1_1 ?_
          refine tz_iload (pc := 61) dX2_drawnPart_61 rfl ?_
          have hA := C.1.1.1.2 z_46 (by omega) (by omega)
          have e46 : J_46 3 z_46 = J 3 z_46 := congrFun ((f_46.tr f_3) 3 rfl) z_46
          refine tz_aL (pc := 63) (z := z_46) (v := (J 3 z_46)) dX2_drawnPart_63 a_3 rfl (by omega) (Eq.trans (congrFun (f_46 3 rfl) z_46) (Eq.trans (congrFun (f_3 3 rfl) z_46) rfl)) (fun r_63 => ?_)
          refine tz_istore (pc := 64) (L2 := [_, _, _, _, _, _, _, _, _]) dX2_drawnPart_64 (by decide) rfl ?_
          refine tz_iload (pc := 66) dX2_drawnPart_66 rfl ?_
          refine tz_iconst (pc := 68) dX2_drawnPart_68 ?_
          refine tz_icmp_ge (pc := 69) (tgt := 76) dX2_drawnPart_69 (by decide) (by omega) (by decide) (fun h_69 => ?_) (fun h_69 => ?_)
          · refine tz_aload_n (pc := 76) dX2_drawnPart_76 rfl rfl ?_
            refine tz_iload_n (pc := 77) dX2_drawnPart_77 rfl rfl ?_
            refine tz_iconst (pc := 78) dX2_drawnPart_78 ?_
            refine tz_isub (pc := 79) (v := x - 1) dX2_drawnPart_79 rfl ?_
            refine tz_cV (pc := 80) (ih _ _ (by omega) m (q_46).2.1 (q_46).2.2.1 (by omega) (by omega)) vl_X2_108 dX2_drawnPart_80 o_141 rfl rfl (Nat.le_of_ble_eq_true rfl) ⟨(show (4 + 1 * r9) + 1 ≤ 4 + 1 * (r9 + 1) by omega), (show 8 + (9 + 11) + 40 * ((4 + 1 * r9)) ≤ 40 * (4 + 1 * (r9 + 1)) by omega)⟩ rfl rfl (Nat.le_of_ble_eq_true rfl) (Nat.le_of_ble_eq_true rfl) (fun r9 J_80 hq9 => ?_)
            obtain ⟨z_80, rfl, hz_80, m_80, g_80, h_80, x_80⟩ := hq9
            have q_80 := GX.tr q_46 g_80
            have e_80 := g_80.1
            refine tz_istore (pc := 83) (L2 := [_, _, _, _, _, _, _, _, _]) dX2_drawnPart_83 (by decide) rfl ?_
            refine tz_iload (pc := 85) dX2_drawnPart_85 rfl ?_
            refine tz_iconst (pc := 87) dX2_drawnPart_87 ?_
            refine tz_icmp_ge (pc := 88) (tgt := 95) dX2_drawnPart_88 (by decide) (by omega) (by decide) (fun h_88 => ?_) (fun h_88 => ?_)
            · refine tz_aload_n (pc := 95) dX2_drawnPart_95 rfl rfl ?_
              refine tz_iload_n (pc := 96) dX2_drawnPart_96 rfl rfl ?_
              refine tz_iconst (pc := 97) dX2_drawnPart_97 ?_
              refine tz_isub (pc := 98) (v := x - 1) dX2_drawnPart_98 rfl ?_
              refine tz_cV (pc := 99) (ih _ _ (by omega) m_80 (q_80).2.1 (q_80).2.2.1 (by omega) (by omega)) vl_X2_108 dX2_drawnPart_99 o_141 rfl rfl (Nat.le_of_ble_eq_true rfl) ⟨(show (4 + 1 * r9) + 1 ≤ 4 + 1 * (r9 + 1) by omega), (show 8 + (9 + 11) + 40 * ((4 + 1 * r9)) ≤ 40 * (4 + 1 * (r9 + 1)) by omega)⟩ rfl rfl (Nat.le_of_ble_eq_true rfl) (Nat.le_of_ble_eq_true rfl) (fun r9 J_99 hq9 => ?_)
              obtain ⟨z_99, rfl, hz_99, m_99, g_99, h_99, x_99⟩ := hq9
              have q_99 := GX.tr q_80 g_99
              have e_99 := g_99.1
              refine tz_istore (pc := 102) (L2 := [_, _, _, _, _, _, _, _, _]) dX2_drawnPart_102 (by decide) rfl ?_
              refine tz_iload (pc := 104) dX2_drawnPart_104 rfl ?_
              refine tz_iconst (pc := 106) dX2_drawnPart_106 ?_
              refine tz_icmp_ge (pc := 107) (tgt := 114) dX2_drawnPart_107 (by decide) (by omega) (by decide) (fun h_107 => ?_) (fun h_107 => ?_)
              · refine tz_aload_n (pc := 114) dX2_drawnPart_114 rfl rfl ?_
                refine tz_iload_n (pc := 115) dX2_drawnPart_115 rfl rfl ?_
                refine tz_iconst (pc := 116) dX2_drawnPart_116 ?_
                refine tz_isub (pc := 117) (v := x - 1) dX2_drawnPart_117 rfl ?_
                refine tz_cV (pc := 118) (ih _ _ (by omega) m_99 (q_99).2.1 (q_99).2.2.1 (by omega) (by omega)) vl_X2_108 dX2_drawnPart_118 o_141 rfl rfl (Nat.le_of_ble_eq_true rfl) ⟨(show (4 + 1 * r9) + 1 ≤ 4 + 1 * (r9 + 1) by omega), (show 8 + (9 + 11) + 40 * ((4 + 1 * r9)) ≤ 40 * (4 + 1 * (r9 + 1)) by omega)⟩ rfl rfl (Nat.le_of_ble_eq_true rfl) (Nat.le_of_ble_eq_true rfl) (fun r9 J_118 hq9 => ?_)
                obtain ⟨z_118, rfl, hz_118, m_118, g_118, h_118, x_118⟩ := hq9
                have q_118 := GX.tr q_99 g_118
                have e_118 := g_118.1
                refine tz_istore (pc := 121) (L2 := [_, _, _, _, _, _, _, _, _]) dX2_drawnPart_121 (by decide) rfl ?_
                refine tz_aload_n (pc := 123) dX2_drawnPart_123 rfl rfl ?_
                refine tz_fR (pc := 124) dX2_drawnPart_124 fl_X2_28 r_141_0 ?_
                refine tz_iload (pc := 127) dX2_drawnPart_127 rfl ?_
                refine tz_iload (pc := 129) dX2_drawnPart_129 rfl ?_
                refine tz_iload (pc := 131) dX2_drawnPart_131 rfl ?_
                refine tz_iload (pc := 133) dX2_drawnPart_133 rfl ?_
                have x_3 := (q_118).2.2.2.2 3 rfl
                have x_1 := (q_118).2.2.2.2 1 rfl
                refine tz_cV (pc := 135) (c_made hl n _ _ _ _ _ (by omega) (by omega) (by omega) (by omega) m_118 (q_118).2.1 (q_118).2.2.1 (by rw [x_1]; omega) (ltA_of (by omega) (by omega) (by omega))) vl_X2_52 dX2_drawnPart_135 o_6 rfl rfl (Nat.le_of_ble_eq_true rfl) ⟨(show 2 + 1 ≤ 4 + 1 * (r9 + 1) by omega), (show 8 + (11 + 11) + 40 * (2) ≤ 40 * (4 + 1 * (r9 + 1)) by omega)⟩ rfl rfl (Nat.le_of_ble_eq_true rfl) (Nat.le_of_ble_eq_true rfl) (fun r9 J_135 hq9 => ?_)
                obtain ⟨z_135, rfl, hz_135, p_135⟩ := hq9
                obtain ⟨m_135, g_135, h_135⟩ := GR.made p_135 (by omega)
                have q_135 : GX [141] J_135 J m m_135 := GX.tr q_118 (GR.x g_135)
                exact tz_iret (pc := 138) (z := z_135) dX2_drawnPart_138 rfl (Nat.le_of_ble_eq_true rfl) (Nat.le_of_ble_eq_true rfl) ⟨Nat.le_refl _, Nat.le_add_right _ _⟩ ⟨_, rfl, (by omega), ⟨m_135, q_135, h_135, fun S hG E => dr_c (J1 := J) (by omega) E (by rw [← n_3]; omega) (by omega) (by rw [n_46, s_3]) (dr_end (fun S s h => drO_f _ S s h) hG (E.f (fun c hc => (f_46.tr f_3) c (by simp [zbut]; omega))) q_46.2.1 q_46.2.2.1 (by rw [(f_46.tr f_3) 1 rfl]; omega) (by rw [s_46, s_3]) (Or.inl ⟨by omega, g_80, h_80, fun S9 h9 E9 => x_80 S9 h9 E9⟩) (Or.inl ⟨by omega, g_99, h_99, fun S9 h9 E9 => x_99 S9 h9 E9⟩) (Or.inl ⟨by omega, g_118, h_118, fun S9 h9 E9 => x_118 S9 h9 E9⟩) p_135)⟩⟩
              · refine tz_iconst (pc := 110) dX2_drawnPart_110 ?_
                refine tz_goto (pc := 111) (tgt := 121) dX2_drawnPart_111 (by decide) ?_
                refine tz_istore (pc := 121) (L2 := [_, _, _, _, _, _, _, _, _]) dX2_drawnPart_121 (by decide) rfl ?_
                refine tz_aload_n (pc := 123) dX2_drawnPart_123 rfl rfl ?_
                refine tz_fR (pc := 124) dX2_drawnPart_124 fl_X2_28 r_141_0 ?_
                refine tz_iload (pc := 127) dX2_drawnPart_127 rfl ?_
                refine tz_iload (pc := 129) dX2_drawnPart_129 rfl ?_
                refine tz_iload (pc := 131) dX2_drawnPart_131 rfl ?_
                refine tz_iload (pc := 133) dX2_drawnPart_133 rfl ?_
                have x_3 := (q_99).2.2.2.2 3 rfl
                have x_1 := (q_99).2.2.2.2 1 rfl
                refine tz_cV (pc := 135) (c_made hl n _ _ _ _ _ (by omega) (by omega) (by omega) (by omega) m_99 (q_99).2.1 (q_99).2.2.1 (by rw [x_1]; omega) (ltA_of (by omega) (by omega) (by omega))) vl_X2_52 dX2_drawnPart_135 o_6 rfl rfl (Nat.le_of_ble_eq_true rfl) ⟨(show 2 + 1 ≤ 4 + 1 * (r9 + 1) by omega), (show 8 + (11 + 11) + 40 * (2) ≤ 40 * (4 + 1 * (r9 + 1)) by omega)⟩ rfl rfl (Nat.le_of_ble_eq_true rfl) (Nat.le_of_ble_eq_true rfl) (fun r9 J_135 hq9 => ?_)
                obtain ⟨z_135, rfl, hz_135, p_135⟩ := hq9
                obtain ⟨m_135, g_135, h_135⟩ := GR.made p_135 (by omega)
                have q_135 : GX [141] J_135 J m m_135 := GX.tr q_99 (GR.x g_135)
                exact tz_iret (pc := 138) (z := z_135) dX2_drawnPart_138 rfl (Nat.le_of_ble_eq_true rfl) (Nat.le_of_ble_eq_true rfl) ⟨Nat.le_refl _, Nat.le_add_right _ _⟩ ⟨_, rfl, (by omega), ⟨m_135, q_135, h_135, fun S hG E => dr_c (J1 := J) (by omega) E (by rw [← n_3]; omega) (by omega) (by rw [n_46, s_3]) (dr_end (fun S s h => drO_f _ S s h) hG (E.f (fun c hc => (f_46.tr f_3) c (by simp [zbut]; omega))) q_46.2.1 q_46.2.2.1 (by rw [(f_46.tr f_3) 1 rfl]; omega) (by rw [s_46, s_3]) (Or.inl ⟨by omega, g_80, h_80, fun S9 h9 E9 => x_80 S9 h9 E9⟩) (Or.inl ⟨by omega, g_99, h_99, fun S9 h9 E9 => x_99 S9 h9 E9⟩) (Or.inr ⟨by omega, rfl, rfl⟩) p_135)⟩⟩
            · refine tz_iconst (pc := 91) dX2_drawnPart_91 ?_
              refine tz_goto (pc := 92) (tgt := 102) dX2_drawnPart_92 (by decide) ?_
              refine tz_istore (pc := 102) (L2 := [_, _, _, _, _, _, _, _, _]) dX2_drawnPart_102 (by decide) rfl ?_
              refine tz_iload (pc := 104) dX2_drawnPart_104 rfl ?_
              refine tz_iconst (pc := 106) dX2_drawnPart_106 ?_
              refine tz_icmp_ge (pc := 107) (tgt := 114) dX2_drawnPart_107 (by decide) (by omega) (by decide) (fun h_107 => ?_) (fun h_107 => ?_)
              · refine tz_aload_n (pc := 114) dX2_drawnPart_114 rfl rfl ?_
                refine tz_iload_n (pc := 115) dX2_drawnPart_115 rfl rfl ?_
                refine tz_iconst (pc := 116) dX2_drawnPart_116 ?_
                refine tz_isub (pc := 117) (v := x - 1) dX2_drawnPart_117 rfl ?_
                refine tz_cV (pc := 118) (ih _ _ (by omega) m_80 (q_80).2.1 (q_80).2.2.1 (by omega) (by omega)) vl_X2_108 dX2_drawnPart_118 o_141 rfl rfl (Nat.le_of_ble_eq_true rfl) ⟨(show (4 + 1 * r9) + 1 ≤ 4 + 1 * (r9 + 1) by omega), (show 8 + (9 + 11) + 40 * ((4 + 1 * r9)) ≤ 40 * (4 + 1 * (r9 + 1)) by omega)⟩ rfl rfl (Nat.le_of_ble_eq_true rfl) (Nat.le_of_ble_eq_true rfl) (fun r9 J_118 hq9 => ?_)
                obtain ⟨z_118, rfl, hz_118, m_118, g_118, h_118, x_118⟩ := hq9
                have q_118 := GX.tr q_80 g_118
                have e_118 := g_118.1
                refine tz_istore (pc := 121) (L2 := [_, _, _, _, _, _, _, _, _]) dX2_drawnPart_121 (by decide) rfl ?_
                refine tz_aload_n (pc := 123) dX2_drawnPart_123 rfl rfl ?_
                refine tz_fR (pc := 124) dX2_drawnPart_124 fl_X2_28 r_141_0 ?_
                refine tz_iload (pc := 127) dX2_drawnPart_127 rfl ?_
                refine tz_iload (pc := 129) dX2_drawnPart_129 rfl ?_
                refine tz_iload (pc := 131) dX2_drawnPart_131 rfl ?_
                refine tz_iload (pc := 133) dX2_drawnPart_133 rfl ?_
                have x_3 := (q_118).2.2.2.2 3 rfl
                have x_1 := (q_118).2.2.2.2 1 rfl
                refine tz_cV (pc := 135) (c_made hl n _ _ _ _ _ (by omega) (by omega) (by omega) (by omega) m_118 (q_118).2.1 (q_118).2.2.1 (by rw [x_1]; omega) (ltA_of (by omega) (by omega) (by omega))) vl_X2_52 dX2_drawnPart_135 o_6 rfl rfl (Nat.le_of_ble_eq_true rfl) ⟨(show 2 + 1 ≤ 4 + 1 * (r9 + 1) by omega), (show 8 + (11 + 11) + 40 * (2) ≤ 40 * (4 + 1 * (r9 + 1)) by omega)⟩ rfl rfl (Nat.le_of_ble_eq_true rfl) (Nat.le_of_ble_eq_true rfl) (fun r9 J_135 hq9 => ?_)
                obtain ⟨z_135, rfl, hz_135, p_135⟩ := hq9
                obtain ⟨m_135, g_135, h_135⟩ := GR.made p_135 (by omega)
                have q_135 : GX [141] J_135 J m m_135 := GX.tr q_118 (GR.x g_135)
                exact tz_iret (pc := 138) (z := z_135) dX2_drawnPart_138 rfl (Nat.le_of_ble_eq_true rfl) (Nat.le_of_ble_eq_true rfl) ⟨Nat.le_refl _, Nat.le_add_right _ _⟩ ⟨_, rfl, (by omega), ⟨m_135, q_135, h_135, fun S hG E => dr_c (J1 := J) (by omega) E (by rw [← n_3]; omega) (by omega) (by rw [n_46, s_3]) (dr_end (fun S s h => drO_f _ S s h) hG (E.f (fun c hc => (f_46.tr f_3) c (by simp [zbut]; omega))) q_46.2.1 q_46.2.2.1 (by rw [(f_46.tr f_3) 1 rfl]; omega) (by rw [s_46, s_3]) (Or.inl ⟨by omega, g_80, h_80, fun S9 h9 E9 => x_80 S9 h9 E9⟩) (Or.inr ⟨by omega, rfl, rfl⟩) (Or.inl ⟨by omega, g_118, h_118, fun S9 h9 E9 => x_118 S9 h9 E9⟩) p_135)⟩⟩
              · refine tz_iconst (pc := 110) dX2_drawnPart_110 ?_
                refine tz_goto (pc := 111) (tgt := 121) dX2_drawnPart_111 (by decide) ?_
                refine tz_istore (pc := 121) (L2 := [_, _, _, _, _, _, _, _, _]) dX2_drawnPart_121 (by decide) rfl ?_
                refine tz_aload_n (pc := 123) dX2_drawnPart_123 rfl rfl ?_
                refine tz_fR (pc := 124) dX2_drawnPart_124 fl_X2_28 r_141_0 ?_
                refine tz_iload (pc := 127) dX2_drawnPart_127 rfl ?_
                refine tz_iload (pc := 129) dX2_drawnPart_129 rfl ?_
                refine tz_iload (pc := 131) dX2_drawnPart_131 rfl ?_
                refine tz_iload (pc := 133) dX2_drawnPart_133 rfl ?_
                have x_3 := (q_80).2.2.2.2 3 rfl
                have x_1 := (q_80).2.2.2.2 1 rfl
                refine tz_cV (pc := 135) (c_made hl n _ _ _ _ _ (by omega) (by omega) (by omega) (by omega) m_80 (q_80).2.1 (q_80).2.2.1 (by rw [x_1]; omega) (ltA_of (by omega) (by omega) (by omega))) vl_X2_52 dX2_drawnPart_135 o_6 rfl rfl (Nat.le_of_ble_eq_true rfl) ⟨(show 2 + 1 ≤ 4 + 1 * (r9 + 1) by omega), (show 8 + (11 + 11) + 40 * (2) ≤ 40 * (4 + 1 * (r9 + 1)) by omega)⟩ rfl rfl (Nat.le_of_ble_eq_true rfl) (Nat.le_of_ble_eq_true rfl) (fun r9 J_135 hq9 => ?_)
                obtain ⟨z_135, rfl, hz_135, p_135⟩ := hq9
                obtain ⟨m_135, g_135, h_135⟩ := GR.made p_135 (by omega)
                have q_135 : GX [141] J_135 J m m_135 := GX.tr q_80 (GR.x g_135)
                exact tz_iret (pc := 138) (z := z_135) dX2_drawnPart_138 rfl (Nat.le_of_ble_eq_true rfl) (Nat.le_of_ble_eq_true rfl) ⟨Nat.le_refl _, Nat.le_add_right _ _⟩ ⟨_, rfl, (by omega), ⟨m_135, q_135, h_135, fun S hG E => dr_c (J1 := J) (by omega) E (by rw [← n_3]; omega) (by omega) (by rw [n_46, s_3]) (dr_end (fun S s h => drO_f _ S s h) hG (E.f (fun c hc => (f_46.tr f_3) c (by simp [zbut]; omega))) q_46.2.1 q_46.2.2.1 (by rw [(f_46.tr f_3) 1 rfl]; omega) (by rw [s_46, s_3]) (Or.inl ⟨by omega, g_80, h_80, fun S9 h9 E9 => x_80 S9 h9 E9⟩) (Or.inr ⟨by omega, rfl, rfl⟩) (Or.inr ⟨by omega, rfl, rfl⟩) p_135)⟩⟩
          · refine tz_iconst (pc := 72) dX2_drawnPart_72 ?_
            refine tz_goto (pc := 73) (tgt := 83) dX2_drawnPart_73 (by decide) ?_
            refine tz_istore (pc := 83) (L2 := [_, _, _, _, _, _, _, _, _]) dX2_drawnPart_83 (by decide) rfl ?_
            refine tz_iload (pc := 85) dX2_drawnPart_85 rfl ?_
            refine tz_iconst (pc := 87) dX2_drawnPart_87 ?_
            refine tz_icmp_ge (pc := 88) (tgt := 95) dX2_drawnPart_88 (by decide) (by omega) (by decide) (fun h_88 => ?_) (fun h_88 => ?_)
            · refine tz_aload_n (pc := 95) dX2_drawnPart_95 rfl rfl ?_
              refine tz_iload_n (pc := 96) dX2_drawnPart_96 rfl rfl ?_
              refine tz_iconst (pc := 97) dX2_drawnPart_97 ?_
              refine tz_isub (pc := 98) (v := x - 1) dX2_drawnPart_98 rfl ?_
              refine tz_cV (pc := 99) (ih _ _ (by omega) m (q_46).2.1 (q_46).2.2.1 (by omega) (by omega)) vl_X2_108 dX2_drawnPart_99 o_141 rfl rfl (Nat.le_of_ble_eq_true rfl) ⟨(show (4 + 1 * r9) + 1 ≤ 4 + 1 * (r9 + 1) by omega), (show 8 + (9 + 11) + 40 * ((4 + 1 * r9)) ≤ 40 * (4 + 1 * (r9 + 1)) by omega)⟩ rfl rfl (Nat.le_of_ble_eq_true rfl) (Nat.le_of_ble_eq_true rfl) (fun r9 J_99 hq9 => ?_)
              obtain ⟨z_99, rfl, hz_99, m_99, g_99, h_99, x_99⟩ := hq9
              have q_99 := GX.tr q_46 g_99
              have e_99 := g_99.1
              refine tz_istore (pc := 102) (L2 := [_, _, _, _, _, _, _, _, _]) dX2_drawnPart_102 (by decide) rfl ?_
              refine tz_iload (pc := 104) dX2_drawnPart_104 rfl ?_
              refine tz_iconst (pc := 106) dX2_drawnPart_106 ?_
              refine tz_icmp_ge (pc := 107) (tgt := 114) dX2_drawnPart_107 (by decide) (by omega) (by decide) (fun h_107 => ?_) (fun h_107 => ?_)
              · refine tz_aload_n (pc := 114) dX2_drawnPart_114 rfl rfl ?_
                refine tz_iload_n (pc := 115) dX2_drawnPart_115 rfl rfl ?_
                refine tz_iconst (pc := 116) dX2_drawnPart_116 ?_
                refine tz_isub (pc := 117) (v := x - 1) dX2_drawnPart_117 rfl ?_
                refine tz_cV (pc := 118) (ih _ _ (by omega) m_99 (q_99).2.1 (q_99).2.2.1 (by omega) (by omega)) vl_X2_108 dX2_drawnPart_118 o_141 rfl rfl (Nat.le_of_ble_eq_true rfl) ⟨(show (4 + 1 * r9) + 1 ≤ 4 + 1 * (r9 + 1) by omega), (show 8 + (9 + 11) + 40 * ((4 + 1 * r9)) ≤ 40 * (4 + 1 * (r9 + 1)) by omega)⟩ rfl rfl (Nat.le_of_ble_eq_true rfl) (Nat.le_of_ble_eq_true rfl) (fun r9 J_118 hq9 => ?_)
                obtain ⟨z_118, rfl, hz_118, m_118, g_118, h_118, x_118⟩ := hq9
                have q_118 := GX.tr q_99 g_118
                have e_118 := g_118.1
                refine tz_istore (pc := 121) (L2 := [_, _, _, _, _, _, _, _, _]) dX2_drawnPart_121 (by decide) rfl ?_
                refine tz_aload_n (pc := 123) dX2_drawnPart_123 rfl rfl ?_
                refine tz_fR (pc := 124) dX2_drawnPart_124 fl_X2_28 r_141_0 ?_
                refine tz_iload (pc := 127) dX2_drawnPart_127 rfl ?_
                refine tz_iload (pc := 129) dX2_drawnPart_129 rfl ?_
                refine tz_iload (pc := 131) dX2_drawnPart_131 rfl ?_
                refine tz_iload (pc := 133) dX2_drawnPart_133 rfl ?_
                have x_3 := (q_118).2.2.2.2 3 rfl
                have x_1 := (q_118).2.2.2.2 1 rfl
                refine tz_cV (pc := 135) (c_made hl n _ _ _ _ _ (by omega) (by omega) (by omega) (by omega) m_118 (q_118).2.1 (q_118).2.2.1 (by rw [x_1]; omega) (ltA_of (by omega) (by omega) (by omega))) vl_X2_52 dX2_drawnPart_135 o_6 rfl rfl (Nat.le_of_ble_eq_true rfl) ⟨(show 2 + 1 ≤ 4 + 1 * (r9 + 1) by omega), (show 8 + (11 + 11) + 40 * (2) ≤ 40 * (4 + 1 * (r9 + 1)) by omega)⟩ rfl rfl (Nat.le_of_ble_eq_true rfl) (Nat.le_of_ble_eq_true rfl) (fun r9 J_135 hq9 => ?_)
                obtain ⟨z_135, rfl, hz_135, p_135⟩ := hq9
                obtain ⟨m_135, g_135, h_135⟩ := GR.made p_135 (by omega)
                have q_135 : GX [141] J_135 J m m_135 := GX.tr q_118 (GR.x g_135)
                exact tz_iret (pc := 138) (z := z_135) dX2_drawnPart_138 rfl (Nat.le_of_ble_eq_true rfl) (Nat.le_of_ble_eq_true rfl) ⟨Nat.le_refl _, Nat.le_add_right _ _⟩ ⟨_, rfl, (by omega), ⟨m_135, q_135, h_135, fun S hG E => dr_c (J1 := J) (by omega) E (by rw [← n_3]; omega) (by omega) (by rw [n_46, s_3]) (dr_end (fun S s h => drO_f _ S s h) hG (E.f (fun c hc => (f_46.tr f_3) c (by simp [zbut]; omega))) q_46.2.1 q_46.2.2.1 (by rw [(f_46.tr f_3) 1 rfl]; omega) (by rw [s_46, s_3]) (Or.inr ⟨by omega, rfl, rfl⟩) (Or.inl ⟨by omega, g_99, h_99, fun S9 h9 E9 => x_99 S9 h9 E9⟩) (Or.inl ⟨by omega, g_118, h_118, fun S9 h9 E9 => x_118 S9 h9 E9⟩) p_135)⟩⟩
              · refine tz_iconst (pc := 110) dX2_drawnPart_110 ?_
                refine tz_goto (pc := 111) (tgt := 121) dX2_drawnPart_111 (by decide) ?_
                refine tz_istore (pc := 121) (L2 := [_, _, _, _, _, _, _, _, _]) dX2_drawnPart_121 (by decide) rfl ?_
                refine tz_aload_n (pc := 123) dX2_drawnPart_123 rfl rfl ?_
                refine tz_fR (pc := 124) dX2_drawnPart_124 fl_X2_28 r_141_0 ?_
                refine tz_iload (pc := 127) dX2_drawnPart_127 rfl ?_
                refine tz_iload (pc := 129) dX2_drawnPart_129 rfl ?_
                refine tz_iload (pc := 131) dX2_drawnPart_131 rfl ?_
                refine tz_iload (pc := 133) dX2_drawnPart_133 rfl ?_
                have x_3 := (q_99).2.2.2.2 3 rfl
                have x_1 := (q_99).2.2.2.2 1 rfl
                refine tz_cV (pc := 135) (c_made hl n _ _ _ _ _ (by omega) (by omega) (by omega) (by omega) m_99 (q_99).2.1 (q_99).2.2.1 (by rw [x_1]; omega) (ltA_of (by omega) (by omega) (by omega))) vl_X2_52 dX2_drawnPart_135 o_6 rfl rfl (Nat.le_of_ble_eq_true rfl) ⟨(show 2 + 1 ≤ 4 + 1 * (r9 + 1) by omega), (show 8 + (11 + 11) + 40 * (2) ≤ 40 * (4 + 1 * (r9 + 1)) by omega)⟩ rfl rfl (Nat.le_of_ble_eq_true rfl) (Nat.le_of_ble_eq_true rfl) (fun r9 J_135 hq9 => ?_)
                obtain ⟨z_135, rfl, hz_135, p_135⟩ := hq9
                obtain ⟨m_135, g_135, h_135⟩ := GR.made p_135 (by omega)
                have q_135 : GX [141] J_135 J m m_135 := GX.tr q_99 (GR.x g_135)
                exact tz_iret (pc := 138) (z := z_135) dX2_drawnPart_138 rfl (Nat.le_of_ble_eq_true rfl) (Nat.le_of_ble_eq_true rfl) ⟨Nat.le_refl _, Nat.le_add_right _ _⟩ ⟨_, rfl, (by omega), ⟨m_135, q_135, h_135, fun S hG E => dr_c (J1 := J) (by omega) E (by rw [← n_3]; omega) (by omega) (by rw [n_46, s_3]) (dr_end (fun S s h => drO_f _ S s h) hG (E.f (fun c hc => (f_46.tr f_3) c (by simp [zbut]; omega))) q_46.2.1 q_46.2.2.1 (by rw [(f_46.tr f_3) 1 rfl]; omega) (by rw [s_46, s_3]) (Or.inr ⟨by omega, rfl, rfl⟩) (Or.inl ⟨by omega, g_99, h_99, fun S9 h9 E9 => x_99 S9 h9 E9⟩) (Or.inr ⟨by omega, rfl, rfl⟩) p_135)⟩⟩
            · refine tz_iconst (pc := 91) dX2_drawnPart_91 ?_
              refine tz_goto (pc := 92) (tgt := 102) dX2_drawnPart_92 (by decide) ?_
              refine tz_istore (pc := 102) (L2 := [_, _, _, _, _, _, _, _, _]) dX2_drawnPart_102 (by decide) rfl ?_
              refine tz_iload (pc := 104) dX2_drawnPart_104 rfl ?_
              refine tz_iconst (pc := 106) dX2_drawnPart_106 ?_
              refine tz_icmp_ge (pc := 107) (tgt := 114) dX2_drawnPart_107 (by decide) (by omega) (by decide) (fun h_107 => ?_) (fun h_107 => ?_)
              · refine tz_aload_n (pc := 114) dX2_drawnPart_114 rfl rfl ?_
                refine tz_iload_n (pc := 115) dX2_drawnPart_115 rfl rfl ?_
                refine tz_iconst (pc := 116) dX2_drawnPart_116 ?_
                refine tz_isub (pc := 117) (v := x - 1) dX2_drawnPart_117 rfl ?_
                refine tz_cV (pc := 118) (ih _ _ (by omega) m (q_46).2.1 (q_46).2.2.1 (by omega) (by omega)) vl_X2_108 dX2_drawnPart_118 o_141 rfl rfl (Nat.le_of_ble_eq_true rfl) ⟨(show (4 + 1 * r9) + 1 ≤ 4 + 1 * (r9 + 1) by omega), (show 8 + (9 + 11) + 40 * ((4 + 1 * r9)) ≤ 40 * (4 + 1 * (r9 + 1)) by omega)⟩ rfl rfl (Nat.le_of_ble_eq_true rfl) (Nat.le_of_ble_eq_true rfl) (fun r9 J_118 hq9 => ?_)
                obtain ⟨z_118, rfl, hz_118, m_118, g_118, h_118, x_118⟩ := hq9
                have q_118 := GX.tr q_46 g_118
                have e_118 := g_118.1
                refine tz_istore (pc := 121) (L2 := [_, _, _, _, _, _, _, _, _]) dX2_drawnPart_121 (by decide) rfl ?_
                refine tz_aload_n (pc := 123) dX2_drawnPart_123 rfl rfl ?_
                refine tz_fR (pc := 124) dX2_drawnPart_124 fl_X2_28 r_141_0 ?_
                refine tz_iload (pc := 127) dX2_drawnPart_127 rfl ?_
                refine tz_iload (pc := 129) dX2_drawnPart_129 rfl ?_
                refine tz_iload (pc := 131) dX2_drawnPart_131 rfl ?_
                refine tz_iload (pc := 133) dX2_drawnPart_133 rfl ?_
                have x_3 := (q_118).2.2.2.2 3 rfl
                have x_1 := (q_118).2.2.2.2 1 rfl
                refine tz_cV (pc := 135) (c_made hl n _ _ _ _ _ (by omega) (by omega) (by omega) (by omega) m_118 (q_118).2.1 (q_118).2.2.1 (by rw [x_1]; omega) (ltA_of (by omega) (by omega) (by omega))) vl_X2_52 dX2_drawnPart_135 o_6 rfl rfl (Nat.le_of_ble_eq_true rfl) ⟨(show 2 + 1 ≤ 4 + 1 * (r9 + 1) by omega), (show 8 + (11 + 11) + 40 * (2) ≤ 40 * (4 + 1 * (r9 + 1)) by omega)⟩ rfl rfl (Nat.le_of_ble_eq_true rfl) (Nat.le_of_ble_eq_true rfl) (fun r9 J_135 hq9 => ?_)
                obtain ⟨z_135, rfl, hz_135, p_135⟩ := hq9
                obtain ⟨m_135, g_135, h_135⟩ := GR.made p_135 (by omega)
                have q_135 : GX [141] J_135 J m m_135 := GX.tr q_118 (GR.x g_135)
                exact tz_iret (pc := 138) (z := z_135) dX2_drawnPart_138 rfl (Nat.le_of_ble_eq_true rfl) (Nat.le_of_ble_eq_true rfl) ⟨Nat.le_refl _, Nat.le_add_right _ _⟩ ⟨_, rfl, (by omega), ⟨m_135, q_135, h_135, fun S hG E => dr_c (J1 := J) (by omega) E (by rw [← n_3]; omega) (by omega) (by rw [n_46, s_3]) (dr_end (fun S s h => drO_f _ S s h) hG (E.f (fun c hc => (f_46.tr f_3) c (by simp [zbut]; omega))) q_46.2.1 q_46.2.2.1 (by rw [(f_46.tr f_3) 1 rfl]; omega) (by rw [s_46, s_3]) (Or.inr ⟨by omega, rfl, rfl⟩) (Or.inr ⟨by omega, rfl, rfl⟩) (Or.inl ⟨by omega, g_118, h_118, fun S9 h9 E9 => x_118 S9 h9 E9⟩) p_135)⟩⟩
              · refine tz_iconst (pc := 110) dX2_drawnPart_110 ?_
                refine tz_goto (pc := 111) (tgt := 121) dX2_drawnPart_111 (by decide) ?_
                refine tz_istore (pc := 121) (L2 := [_, _, _, _, _, _, _, _, _]) dX2_drawnPart_121 (by decide) rfl ?_
                refine tz_aload_n (pc := 123) dX2_drawnPart_123 rfl rfl ?_
                refine tz_fR (pc := 124) dX2_drawnPart_124 fl_X2_28 r_141_0 ?_
                refine tz_iload (pc := 127) dX2_drawnPart_127 rfl ?_
                refine tz_iload (pc := 129) dX2_drawnPart_129 rfl ?_
                refine tz_iload (pc := 131) dX2_drawnPart_131 rfl ?_
                refine tz_iload (pc := 133) dX2_drawnPart_133 rfl ?_
                have x_3 := (q_46).2.2.2.2 3 rfl
                have x_1 := (q_46).2.2.2.2 1 rfl
                refine tz_cV (pc := 135) (c_made hl n _ _ _ _ _ (by omega) (by omega) (by omega) (by omega) m (q_46).2.1 (q_46).2.2.1 (by rw [x_1]; omega) (ltA_of (by omega) (by omega) (by omega))) vl_X2_52 dX2_drawnPart_135 o_6 rfl rfl (Nat.le_of_ble_eq_true rfl) ⟨(show 2 + 1 ≤ 4 + 1 * (r9 + 1) by omega), (show 8 + (11 + 11) + 40 * (2) ≤ 40 * (4 + 1 * (r9 + 1)) by omega)⟩ rfl rfl (Nat.le_of_ble_eq_true rfl) (Nat.le_of_ble_eq_true rfl) (fun r9 J_135 hq9 => ?_)
                obtain ⟨z_135, rfl, hz_135, p_135⟩ := hq9
                obtain ⟨m_135, g_135, h_135⟩ := GR.made p_135 (by omega)
                have q_135 : GX [141] J_135 J m m_135 := GX.tr q_46 (GR.x g_135)
                exact tz_iret (pc := 138) (z := z_135) dX2_drawnPart_138 rfl (Nat.le_of_ble_eq_true rfl) (Nat.le_of_ble_eq_true rfl) ⟨Nat.le_refl _, Nat.le_add_right _ _⟩ ⟨_, rfl, (by omega), ⟨m_135, q_135, h_135, fun S hG E => dr_c (J1 := J) (by omega) E (by rw [← n_3]; omega) (by omega) (by rw [n_46, s_3]) (dr_end (fun S s h => drO_f _ S s h) hG (E.f (fun c hc => (f_46.tr f_3) c (by simp [zbut]; omega))) q_46.2.1 q_46.2.2.1 (by rw [(f_46.tr f_3) 1 rfl]; omega) (by rw [s_46, s_3]) (Or.inr ⟨by omega, rfl, rfl⟩) (Or.inr ⟨by omega, rfl, rfl⟩) (Or.inr ⟨by omega, rfl, rfl⟩) p_135)⟩⟩
        · refine tz_aload_n (pc := 31) dX2_drawnPart_31 rfl rfl ?_
          refine tz_fR (pc := 32) dX2_drawnPart_32 fl_X2_28 r_141_0 ?_
          refine tz_aload_n (pc := 35) dX2_drawnPart_35 rfl rfl ?_
          refine tz_iconst (pc := 36) dX2_drawnPart_36 ?_
          refine tz_cV (pc := 37) (c_drawOf hl n _ _ (by omega) (by omega)) vl_X2_111 dX2_drawnPart_37 o_141 rfl rfl (Nat.le_of_ble_eq_true rfl) ⟨(show 0 + 1 ≤ 4 + 1 * (r9 + 1) by omega), (show 8 + (2 + 11) + 40 * (0) ≤ 40 * (4 + 1 * (r9 + 1)) by omega)⟩ rfl rfl (Nat.le_of_ble_eq_true rfl) (Nat.le_of_ble_eq_true rfl) (fun r9 J_37 hq9 => ?_)
          obtain ⟨z_37, rfl, hz_37, hj_37, hz_37, zv_37⟩ := hq9
          have f_37 : zOf (zbut [141]) J_37 J_3 := by rw [← hj_37]; exact zOf.up rfl zOf.rf
          have q_37 : GX [141] J_37 J m m := (q_3).off rfl f_37
          have s_37 : J_37 141 5 = dwS (J_3 141 5) := by rw [← hj_37]; exact zup_at
          have n_37 : z_37 = dwN (dwS (J_3 141 5)) 3 := by rw [← zv_37, z32767]; rfl
          have b_40 := (q_37).2.1.told
          refine tz_cV (pc := 40) (c_varTerm hl n _ _ (by omega) m (q_37).2.1 (q_37).2.2.1 (by omega)) vl_X2_99 dX2_drawnPart_40 o_6 rfl rfl (Nat.le_of_ble_eq_true rfl) ⟨(show 3 + 1 ≤ 4 + 1 * (r9 + 1) by omega), (show 8 + (2 + 11) + 40 * (3) ≤ 40 * (4 + 1 * (r9 + 1)) by omega)⟩ rfl rfl (Nat.le_of_ble_eq_true rfl) (Nat.le_of_ble_eq_true rfl) (fun r9 J_40 hq9 => ?_)
          obtain ⟨z_40, rfl, hz_40, p_40⟩ := hq9
          obtain ⟨m_40, g_40, h_40⟩ := GR.made p_40 (by omega)
          have q_40 : GX [141] J_40 J m m_40 := GX.tr q_37 (GR.x g_40)
          exact tz_iret (pc := 43) (z := z_40) dX2_drawnPart_43 rfl (Nat.le_of_ble_eq_true rfl) (Nat.le_of_ble_eq_true rfl) ⟨Nat.le_refl _, Nat.le_add_right _ _⟩ ⟨_, rfl, (by omega), ⟨m_40, q_40, h_40, fun S hG E => dr_v (by omega) hG E (f_37.tr f_3) q_37.2.1 q_37.2.2.1 (by rw [s_37, s_3]) (by rw [n_37, s_3]) (by omega) (by rw [← n_3]; omega) p_40⟩⟩

