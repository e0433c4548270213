def cOK (J : zJ) (m : Int) : Prop := ∀ v, 0 ≤ v → v < 8 → J 142 v = -1 ∨ J 142 v = -3 ∨ (0 ≤ J 142 v ∧ J 142 v < m)
theorem cOK.gx {X : List Nat} {J' J : zJ} {m m' : Int} (h : cOK J m) (g : GX X J' J m m') (hx : zbut (6 :: 7 :: 8 :: 9 :: 10 :: 11 :: 12 :: 13 :: 14 :: 15 :: 16 :: 17 :: X) 142 = true) : cOK J' m' := fun v a b => by
  rw [g.2.2.2.2 142 hx]
  have := h v a b
  have := g.1
  omega
theorem cOK.up {J : zJ} {m v z : Int} (h : cOK J m) (hz : z = -3 ∨ (0 ≤ z ∧ z < m)) : cOK (zup J 142 v z) m := fun u a b => by
  by_cases e : u = v
  · rw [e, zup_at]; omega
  · rw [zup_ne e]; exact h u a b
set_option maxHeartbeats 4000000 in
set_option maxRecDepth 100000 in
theorem c_closedVar {l : Launch} {G : tb_G} (hl : l.stackTraces = false) (n : Nat) (J : zJ) (t : Int) (lv : Int) (hr_t : -2147483648 ≤ t ∧ t < 2147483648) (hr_lv : -2147483648 ≤ lv ∧ lv < 2147483648) (d9 : Nat) (H : ∀ (J : zJ) (t : Int) (hr_t : -2147483648 ≤ t ∧ t < 2147483648) (m : Int) (C : CT J m) (hm : J 6 12 = m) (ht : 0 ≤ t ∧ t < m) (hr : rOK J 19 7 m) (hc : cOK J m), tz_Ok l G M_X2_closedPart d9 0 0 [.ref 141, zi t, .ref 19, zi 7, zi (lv + 1)] n J (zqi (fun z J' => ∃ m', GX [142] J' J m m' ∧ cOK J' m' ∧ (z = -3 ∨ (0 ≤ z ∧ z < m')))) zN) (m : Int) (C : CT J m) (hm : J 6 12 = m) (ht : 0 ≤ t ∧ t < m) (hr : rOK J 19 7 m) (hc : cOK J m) (hv : J 7 t < 0) : tz_Ok l G M_X2_closedVariable (d9 + 1) 0 0 [.ref 141, zi t, .ref 19, zi 7, zi lv] n J (zqi (fun z J' => ∃ m', GX [142] J' J m m' ∧ cOK J' m' ∧ (z = -3 ∨ (0 ≤ z ∧ z < m')))) zN := by
  refine tz_Ok.of hl (by decide +kernel) rfl (tb_c1 rfl) (Nat.le_of_ble_eq_true rfl) ?_
  show tz_At l G M_X2_closedVariable (tb_rm (d9 + 1) 0 0) none (tb_ZM G 0 0 (zQ n 0 (zqi (fun z J' => ∃ m', GX [142] J' J m m' ∧ cOK J' m' ∧ (z = -3 ∨ (0 ≤ z ∧ z < m'))))) (zX n 0 zN)) 0 0 n J 0 [some (.ref 141), some (zi t), some (.ref 19), some (zi 7), some (zi lv), none, none] []
  have hb := C.told
  have ha := C.ar ht.1 ht.2
  have hv8 : 0 ≤ zxor (J 7 t) (-1) ∧ zxor (J 7 t) (-1) < 8 := by rw [z_nn (by omega)]; omega
  have hq := hr _ hv8.1 hv8.2
  have hk := hc _ hv8.1 hv8.2
  refine tz_aload_n (pc := 0) dX2_closedVariable_0 rfl rfl ?_
  refine tz_fR (pc := 1) dX2_closedVariable_1 fl_X2_28 r_141_0 ?_
  refine tz_fR (pc := 4) dX2_closedVariable_4 fl_X2_42 r_6_1 ?_
  refine tz_iload_n (pc := 7) dX2_closedVariable_7 rfl rfl ?_
  refine tz_aL (pc := 8) (z := t) (v := (J 7 t)) dX2_closedVariable_8 a_7 rfl (by omega) rfl (fun r_8 => ?_)
  refine tz_iconst (pc := 9) dX2_closedVariable_9 ?_
  refine tz_ixor (pc := 10) (v := zxor (J 7 t) (-1)) dX2_closedVariable_10 rfl ?_
  refine tz_istore (pc := 11) (L2 := [_, _, _, _, _, _, _]) dX2_closedVariable_11 (by decide) rfl ?_
  refine tz_aload_n (pc := 13) dX2_closedVariable_13 rfl rfl ?_
  refine tz_iload_n (pc := 14) dX2_closedVariable_14 rfl rfl ?_
  refine tz_iload (pc := 15) dX2_closedVariable_15 rfl ?_
  refine tz_iadd (pc := 17) (v := 7 + (zxor (J 7 t) (-1))) dX2_closedVariable_17 rfl ?_
  refine tz_aL (pc := 18) (z := (7 + (zxor (J 7 t) (-1)))) (v := (J 19 (7 + (zxor (J 7 t) (-1))))) dX2_closedVariable_18 a_19 rfl (by omega) rfl (fun r_18 => ?_)
  refine tz_istore (pc := 19) (L2 := [_, _, _, _, _, _, _]) dX2_closedVariable_19 (by decide) rfl ?_
  refine tz_iload (pc := 21) dX2_closedVariable_21 rfl ?_
  refine tz_iconst (pc := 23) dX2_closedVariable_23 ?_
  refine tz_icmp_ne (pc := 24) (tgt := 29) dX2_closedVariable_24 (by decide) (by omega) (by decide) (fun h_24 => ?_) (fun h_24 => ?_)
  · refine tz_aload_n (pc := 29) dX2_closedVariable_29 rfl rfl ?_
    refine tz_fR (pc := 30) dX2_closedVariable_30 fl_X2_9 r_141_1 ?_
    refine tz_iload (pc := 33) dX2_closedVariable_33 rfl ?_
    refine tz_aL (pc := 35) (z := (zxor (J 7 t) (-1))) (v := (J 142 (zxor (J 7 t) (-1)))) dX2_closedVariable_35 a_142 rfl (by omega) rfl (fun r_35 => ?_)
    refine tz_iconst (pc := 36) dX2_closedVariable_36 ?_
    refine tz_icmp_ne (pc := 37) (tgt := 59) dX2_closedVariable_37 (by decide) (by omega) (by decide) (fun h_37 => ?_) (fun h_37 => ?_)
    · refine tz_aload_n (pc := 59) dX2_closedVariable_59 rfl rfl ?_
      refine tz_fR (pc := 60) dX2_closedVariable_60 fl_X2_9 r_141_1 ?_
      refine tz_iload (pc := 63) dX2_closedVariable_63 rfl ?_
      refine tz_aL (pc := 65) (z := (zxor (J 7 t) (-1))) (v := (J 142 (zxor (J 7 t) (-1)))) dX2_closedVariable_65 a_142 rfl (by omega) rfl (fun r_65 => ?_)
      exact tz_iret (pc := 66) (z := (J 142 (zxor (J 7 t) (-1)))) dX2_closedVariable_66 rfl (Nat.le_of_ble_eq_true rfl) (Nat.le_of_ble_eq_true rfl) ⟨Nat.le_refl _, Nat.le_add_right _ _⟩ ⟨_, rfl, (by omega), ⟨m, GX.rf C hm, hc, by omega⟩⟩
    · refine tz_aload_n (pc := 40) dX2_closedVariable_40 rfl rfl ?_
      refine tz_fR (pc := 41) dX2_closedVariable_41 fl_X2_9 r_141_1 ?_
      refine tz_iload (pc := 44) dX2_closedVariable_44 rfl ?_
      refine tz_aload_n (pc := 46) dX2_closedVariable_46 rfl rfl ?_
      refine tz_iload (pc := 47) dX2_closedVariable_47 rfl ?_
      refine tz_aload_n (pc := 49) dX2_closedVariable_49 rfl rfl ?_
      refine tz_iload_n (pc := 50) dX2_closedVariable_50 rfl rfl ?_
      refine tz_iload (pc := 51) dX2_closedVariable_51 rfl ?_
      refine tz_iconst (pc := 53) dX2_closedVariable_53 ?_
      refine tz_iadd (pc := 54) (v := lv + 1) dX2_closedVariable_54 rfl ?_
      refine tz_cV (pc := 55) (H _ _ (by omega) m C hm (by omega) hr hc) vl_X2_69 dX2_closedVariable_55 o_141 rfl rfl (Nat.le_of_ble_eq_true rfl) ⟨(show d9 + 1 ≤ d9 + 1 by omega), (show 8 + (9 + 11) + 40 * (d9) ≤ 40 * (d9 + 1) by omega)⟩ rfl rfl (Nat.le_of_ble_eq_true rfl) (Nat.le_of_ble_eq_true rfl) (fun r9 J_55 hq9 => ?_)
      obtain ⟨z_55, rfl, hz_55, m_55, q_55, o_55, h_55⟩ := hq9
      refine tz_aS (pc := 58) (z := (zxor (J 7 t) (-1))) dX2_closedVariable_58 a_142 rfl (by omega) (by omega) ?_
      refine tz_aload_n (pc := 59) dX2_closedVariable_59 rfl rfl ?_
      refine tz_fR (pc := 60) dX2_closedVariable_60 fl_X2_9 r_141_1 ?_
      refine tz_iload (pc := 63) dX2_closedVariable_63 rfl ?_
      refine tz_aL (pc := 65) (z := (zxor (J 7 t) (-1))) (v := z_55) dX2_closedVariable_65 a_142 rfl (by omega) (by simp [zup]) (fun r_65 => ?_)
      exact tz_iret (pc := 66) (z := z_55) dX2_closedVariable_66 rfl (Nat.le_of_ble_eq_true rfl) (Nat.le_of_ble_eq_true rfl) ⟨Nat.le_refl _, Nat.le_add_right _ _⟩ ⟨_, rfl, (by omega), ⟨m_55, q_55.off rfl (zOf.up rfl zOf.rf), o_55.up h_55, h_55⟩⟩
  · refine tz_iload_n (pc := 27) dX2_closedVariable_27 rfl rfl ?_
    exact tz_iret (pc := 28) (z := t) dX2_closedVariable_28 rfl (Nat.le_of_ble_eq_true rfl) (Nat.le_of_ble_eq_true rfl) ⟨Nat.le_refl _, Nat.le_add_right _ _⟩ ⟨_, rfl, (by omega), ⟨m, GX.rf C hm, hc, by omega⟩⟩

set_option maxHeartbeats 4000000 in
set_option maxRecDepth 100000 in
theorem c_closedP {l : Launch} {G : tb_G} (hl : l.stackTraces = false) (n : Nat) : ∀ (r9 : Nat) (J : zJ) (t : Int) (lv : Int) (hr_t : -2147483648 ≤ t ∧ t < 2147483648) (hr_lv : -2147483648 ≤ lv ∧ lv < 2147483648) (m : Int) (C : CT J m) (hm : J 6 12 = m) (ht : 0 ≤ t ∧ t < m) (hr : rOK J 19 7 m) (hc : cOK J m), ((15 - lv).toNat) < r9 → tz_Ok l G M_X2_closedPart (4 + 2 * r9) 0 0 [.ref 141, zi t, .ref 19, zi 7, zi lv] n J (zqi (fun z J' => ∃ m', GX [142] J' J m m' ∧ cOK J' m' ∧ (z = -3 ∨ (0 ≤ z ∧ z < m')))) zN := by
  intro r9
  induction r9 with
  | zero => intro J t lv hr_t hr_lv m C hm ht hr hc hm9; exact absurd hm9 (Nat.not_lt_zero _)
  | succ r9 ih =>
    intro J t lv hr_t hr_lv m C hm ht hr hc hm9
    refine tz_Ok.of hl (by decide +kernel) rfl (tb_c1 rfl) (Nat.le_of_ble_eq_true rfl) ?_
    show tz_At l G M_X2_closedPart (tb_rm (4 + 2 * (r9 + 1)) 0 0) none (tb_ZM G 0 0 (zQ n 0 (zqi (fun z J' => ∃ m', GX [142] J' J m m' ∧ cOK J' m' ∧ (z = -3 ∨ (0 ≤ z ∧ z < m'))))) (zX n 0 zN)) 0 0 n J 0 [some (.ref 141), some (zi t), some (.ref 19), some (zi 7), some (zi lv), none, none, none, none] []
    have hb := C.told
    have ha := C.ar ht.1 ht.2
    have g0 : GX [142] J J m m := GX.rf C hm
    refine tz_iload (pc := 0) dX2_closedPart_0 rfl ?_
    refine tz_bipush (pc := 2) dX2_closedPart_2 (by decide) ?_
    refine tz_icmp_le (pc := 4) (tgt := 10) dX2_closedPart_4 (by decide) (by omega) (by decide) (fun h_4 => ?_) (fun h_4 => ?_)
    · refine tz_aload_n (pc := 10) dX2_closedPart_10 rfl rfl ?_
      refine tz_fR (pc := 11) dX2_closedPart_11 fl_X2_28 r_141_0 ?_
      refine tz_iload_n (pc := 14) dX2_closedPart_14 rfl rfl ?_
      refine tz_cV (pc := 15) (c_isVar hl n _ _ (by omega) (by omega)) vl_X2_36 dX2_closedPart_15 o_6 rfl rfl (Nat.le_of_ble_eq_true rfl) ⟨(show 0 + 1 ≤ 4 + 2 * (r9 + 1) by omega), (show 8 + (2 + 11) + 40 * (0) ≤ 40 * (4 + 2 * (r9 + 1)) by omega)⟩ rfl rfl (Nat.le_of_ble_eq_true rfl) (Nat.le_of_ble_eq_true rfl) (fun r9 J_15 hq9 => ?_)
      obtain ⟨z_15, rfl, hz_15, rfl, rfl⟩ := hq9
      by_cases hw_18 : J 7 t < 0
      · rw [show (if J 7 t < 0 then 1 else 0 : Int) = 1 from if_pos hw_18]
        refine tz_if_eqF (pc := 18) (tgt := 31) (by decide) dX2_closedPart_18 (by decide) (by decide) ?_
        refine tz_aload_n (pc := 21) dX2_closedPart_21 rfl rfl ?_
        refine tz_iload_n (pc := 22) dX2_closedPart_22 rfl rfl ?_
        refine tz_aload_n (pc := 23) dX2_closedPart_23 rfl rfl ?_
        refine tz_iload_n (pc := 24) dX2_closedPart_24 rfl rfl ?_
        refine tz_iload (pc := 25) dX2_closedPart_25 rfl ?_
        refine tz_cV (pc := 27) (c_closedVar hl n _ _ _ (by omega) (by omega) (4 + 2 * r9) (fun J t a m b c d e f => ih J t _ a (by omega) m b c d e f (by omega)) m C hm ht hr hc (by omega)) vl_X2_72 dX2_closedPart_27 o_141 rfl rfl (Nat.le_of_ble_eq_true rfl) ⟨(show (4 + 2 * r9 + 1) + 1 ≤ 4 + 2 * (r9 + 1) by omega), (show 8 + (7 + 11) + 40 * ((4 + 2 * r9 + 1)) ≤ 40 * (4 + 2 * (r9 + 1)) by omega)⟩ rfl rfl (Nat.le_of_ble_eq_true rfl) (Nat.le_of_ble_eq_true rfl) (fun r9 J_27 hq9 => ?_)
        obtain ⟨z_27, rfl, hz_27, m_27, q_27, o_27, h_27⟩ := hq9
        exact tz_iret (pc := 30) (z := z_27) dX2_closedPart_30 rfl (Nat.le_of_ble_eq_true rfl) (Nat.le_of_ble_eq_true rfl) ⟨Nat.le_refl _, Nat.le_add_right _ _⟩ ⟨_, rfl, (by omega), ⟨m_27, q_27, o_27, h_27⟩⟩
      · rw [show (if J 7 t < 0 then 1 else 0 : Int) = 0 from if_neg hw_18]
        refine tz_if_eqT (pc := 18) (tgt := 31) (by decide) dX2_closedPart_18 (by decide) (by decide) ?_
        refine tz_aload_n (pc := 31) dX2_closedPart_31 rfl rfl ?_
        refine tz_fR (pc := 32) dX2_closedPart_32 fl_X2_28 r_141_0 ?_
        refine tz_fR (pc := 35) dX2_closedPart_35 fl_X2_45 r_6_2 ?_
        refine tz_iload_n (pc := 38) dX2_closedPart_38 rfl rfl ?_
        refine tz_aL (pc := 39) (z := t) (v := (J 8 t)) dX2_closedPart_39 a_8 rfl (by omega) rfl (fun r_39 => ?_)
        refine tz_istore (pc := 40) (L2 := [_, _, _, _, _, _, _, _, _]) dX2_closedPart_40 (by decide) rfl ?_
        refine tz_iload (pc := 42) dX2_closedPart_42 rfl ?_
        refine tz_iconst (pc := 44) dX2_closedPart_44 ?_
        refine tz_icmp_ge (pc := 45) (tgt := 52) dX2_closedPart_45 (by decide) (by omega) (by decide) (fun h_45 => ?_) (fun h_45 => ?_)
        · refine tz_aload_n (pc := 52) dX2_closedPart_52 rfl rfl ?_
          refine tz_aload_n (pc := 53) dX2_closedPart_53 rfl rfl ?_
          refine tz_fR (pc := 54) dX2_closedPart_54 fl_X2_28 r_141_0 ?_
          refine tz_iload_n (pc := 57) dX2_closedPart_57 rfl rfl ?_
          refine tz_iconst (pc := 58) dX2_closedPart_58 ?_
          refine tz_cV (pc := 59) (c_arg hl n _ _ _ (by omega) (by decide) (by omega)) vl_X2_48 dX2_closedPart_59 o_6 rfl rfl (Nat.le_of_ble_eq_true rfl) ⟨(show 0 + 1 ≤ 4 + 2 * (r9 + 1) by omega), (show 8 + (3 + 11) + 40 * (0) ≤ 40 * (4 + 2 * (r9 + 1)) by omega)⟩ rfl rfl (Nat.le_of_ble_eq_true rfl) (Nat.le_of_ble_eq_true rfl) (fun r9 J_59 hq9 => ?_)
          obtain ⟨z_59, rfl, hz_59, rfl, rfl⟩ := hq9
          refine tz_aload_n (pc := 62) dX2_closedPart_62 rfl rfl ?_
          refine tz_iload_n (pc := 63) dX2_closedPart_63 rfl rfl ?_
          refine tz_iload (pc := 64) dX2_closedPart_64 rfl ?_
          refine tz_iconst (pc := 66) dX2_closedPart_66 ?_
          refine tz_iadd (pc := 67) (v := lv + 1) dX2_closedPart_67 rfl ?_
          have b_68 := (GX.arg g0 C ht (i := 0) (by omega)).1
          have c_68 := (g0).1
          refine tz_cV (pc := 68) (ih _ _ _ (by omega) (by omega) m (g0).2.1 (g0).2.2.1 (by omega) (GX.row g0 rfl hr) hc (by omega)) vl_X2_69 dX2_closedPart_68 o_141 rfl rfl (Nat.le_of_ble_eq_true rfl) ⟨(show (4 + 2 * r9) + 1 ≤ 4 + 2 * (r9 + 1) by omega), (show 8 + (9 + 11) + 40 * ((4 + 2 * r9)) ≤ 40 * (4 + 2 * (r9 + 1)) by omega)⟩ rfl rfl (Nat.le_of_ble_eq_true rfl) (Nat.le_of_ble_eq_true rfl) (fun r9 J_68 hq9 => ?_)
          obtain ⟨z_68, rfl, hz_68, m_68, g_68, o_68, h_68⟩ := hq9
          have q_68 := GX.tr g0 g_68
          have d_68 := q_68.1
          have e_68 := g_68.1
          refine tz_istore (pc := 71) (L2 := [_, _, _, _, _, _, _, _, _]) dX2_closedPart_71 (by decide) rfl ?_
          refine tz_iload (pc := 73) dX2_closedPart_73 rfl ?_
          refine tz_iconst (pc := 75) dX2_closedPart_75 ?_
          refine tz_icmp_ge (pc := 76) (tgt := 83) dX2_closedPart_76 (by decide) (by omega) (by decide) (fun h_76 => ?_) (fun h_76 => ?_)
          · refine tz_aload_n (pc := 83) dX2_closedPart_83 rfl rfl ?_
            refine tz_aload_n (pc := 84) dX2_closedPart_84 rfl rfl ?_
            refine tz_fR (pc := 85) dX2_closedPart_85 fl_X2_28 r_141_0 ?_
            refine tz_iload_n (pc := 88) dX2_closedPart_88 rfl rfl ?_
            refine tz_iconst (pc := 89) dX2_closedPart_89 ?_
            refine tz_cV (pc := 90) (c_arg hl n _ _ _ (by omega) (by decide) (by omega)) vl_X2_48 dX2_closedPart_90 o_6 rfl rfl (Nat.le_of_ble_eq_true rfl) ⟨(show 0 + 1 ≤ 4 + 2 * (r9 + 1) by omega), (show 8 + (3 + 11) + 40 * (0) ≤ 40 * (4 + 2 * (r9 + 1)) by omega)⟩ rfl rfl (Nat.le_of_ble_eq_true rfl) (Nat.le_of_ble_eq_true rfl) (fun r9 J_90 hq9 => ?_)
            obtain ⟨z_90, rfl, hz_90, rfl, rfl⟩ := hq9
            refine tz_aload_n (pc := 93) dX2_closedPart_93 rfl rfl ?_
            refine tz_iload_n (pc := 94) dX2_closedPart_94 rfl rfl ?_
            refine tz_iload (pc := 95) dX2_closedPart_95 rfl ?_
            refine tz_iconst (pc := 97) dX2_closedPart_97 ?_
            refine tz_iadd (pc := 98) (v := lv + 1) dX2_closedPart_98 rfl ?_
            have b_99 := (GX.arg q_68 C ht (i := 1) (by omega)).1
            have c_99 := (q_68).1
            refine tz_cV (pc := 99) (ih _ _ _ (by omega) (by omega) m_68 (q_68).2.1 (q_68).2.2.1 (by omega) (GX.row q_68 rfl hr) o_68 (by omega)) vl_X2_69 dX2_closedPart_99 o_141 rfl rfl (Nat.le_of_ble_eq_true rfl) ⟨(show (4 + 2 * r9) + 1 ≤ 4 + 2 * (r9 + 1) by omega), (show 8 + (9 + 11) + 40 * ((4 + 2 * r9)) ≤ 40 * (4 + 2 * (r9 + 1)) by omega)⟩ rfl rfl (Nat.le_of_ble_eq_true rfl) (Nat.le_of_ble_eq_true rfl) (fun r9 J_99 hq9 => ?_)
            obtain ⟨z_99, rfl, hz_99, m_99, g_99, o_99, h_99⟩ := hq9
            have q_99 := GX.tr q_68 g_99
            have d_99 := q_99.1
            have e_99 := g_99.1
            refine tz_istore (pc := 102) (L2 := [_, _, _, _, _, _, _, _, _]) dX2_closedPart_102 (by decide) rfl ?_
            refine tz_iload (pc := 104) dX2_closedPart_104 rfl ?_
            refine tz_iconst (pc := 106) dX2_closedPart_106 ?_
            refine tz_icmp_ge (pc := 107) (tgt := 114) dX2_closedPart_107 (by decide) (by omega) (by decide) (fun h_107 => ?_) (fun h_107 => ?_)
            · refine tz_aload_n (pc := 114) dX2_closedPart_114 rfl rfl ?_
              refine tz_aload_n (pc := 115) dX2_closedPart_115 rfl rfl ?_
              refine tz_fR (pc := 116) dX2_closedPart_116 fl_X2_28 r_141_0 ?_
              refine tz_iload_n (pc := 119) dX2_closedPart_119 rfl rfl ?_
              refine tz_iconst (pc := 120) dX2_closedPart_120 ?_
              refine tz_cV (pc := 121) (c_arg hl n _ _ _ (by omega) (by decide) (by omega)) vl_X2_48 dX2_closedPart_121 o_6 rfl rfl (Nat.le_of_ble_eq_true rfl) ⟨(show 0 + 1 ≤ 4 + 2 * (r9 + 1) by omega), (show 8 + (3 + 11) + 40 * (0) ≤ 40 * (4 + 2 * (r9 + 1)) by omega)⟩ rfl rfl (Nat.le_of_ble_eq_true rfl) (Nat.le_of_ble_eq_true rfl) (fun r9 J_121 hq9 => ?_)
              obtain ⟨z_121, rfl, hz_121, rfl, rfl⟩ := hq9
              refine tz_aload_n (pc := 124) dX2_closedPart_124 rfl rfl ?_
              refine tz_iload_n (pc := 125) dX2_closedPart_125 rfl rfl ?_
              refine tz_iload (pc := 126) dX2_closedPart_126 rfl ?_
              refine tz_iconst (pc := 128) dX2_closedPart_128 ?_
              refine tz_iadd (pc := 129) (v := lv + 1) dX2_closedPart_129 rfl ?_
              have b_130 := (GX.arg q_99 C ht (i := 2) (by omega)).1
              have c_130 := (q_99).1
              refine tz_cV (pc := 130) (ih _ _ _ (by omega) (by omega) m_99 (q_99).2.1 (q_99).2.2.1 (by omega) (GX.row q_99 rfl hr) o_99 (by omega)) vl_X2_69 dX2_closedPart_130 o_141 rfl rfl (Nat.le_of_ble_eq_true rfl) ⟨(show (4 + 2 * r9) + 1 ≤ 4 + 2 * (r9 + 1) by omega), (show 8 + (9 + 11) + 40 * ((4 + 2 * r9)) ≤ 40 * (4 + 2 * (r9 + 1)) by omega)⟩ rfl rfl (Nat.le_of_ble_eq_true rfl) (Nat.le_of_ble_eq_true rfl) (fun r9 J_130 hq9 => ?_)
              obtain ⟨z_130, rfl, hz_130, m_130, g_130, o_130, h_130⟩ := hq9
              have q_130 := GX.tr q_99 g_130
              have d_130 := q_130.1
              have e_130 := g_130.1
              refine tz_istore (pc := 133) (L2 := [_, _, _, _, _, _, _, _, _]) dX2_closedPart_133 (by decide) rfl ?_
              refine tz_aload_n (pc := 135) dX2_closedPart_135 rfl rfl ?_
              refine tz_fR (pc := 136) dX2_closedPart_136 fl_X2_28 r_141_0 ?_
              refine tz_aload_n (pc := 139) dX2_closedPart_139 rfl rfl ?_
              refine tz_fR (pc := 140) dX2_closedPart_140 fl_X2_28 r_141_0 ?_
              refine tz_fR (pc := 143) dX2_closedPart_143 fl_X2_42 r_6_1 ?_
              refine tz_iload_n (pc := 146) dX2_closedPart_146 rfl rfl ?_
              refine tz_aL (pc := 147) (z := t) (v := (J_130 7 t)) dX2_closedPart_147 a_7 rfl (by omega) rfl (fun r_147 => ?_)
              refine tz_iload (pc := 148) dX2_closedPart_148 rfl ?_
              refine tz_iload (pc := 150) dX2_closedPart_150 rfl ?_
              refine tz_iload (pc := 152) dX2_closedPart_152 rfl ?_
              refine tz_cV (pc := 154) (c_made hl n _ _ _ _ _ (by omega) (by omega) (by omega) (by omega) m_130 (q_130).2.1 (q_130).2.2.1 (by have := (q_130).2.1.ar (t := t) (by omega) (by have := (q_130).1; omega); omega) (ltA_of (by omega) (by omega) (by omega))) vl_X2_52 dX2_closedPart_154 o_6 rfl rfl (Nat.le_of_ble_eq_true rfl) ⟨(show 2 + 1 ≤ 4 + 2 * (r9 + 1) by omega), (show 8 + (11 + 11) + 40 * (2) ≤ 40 * (4 + 2 * (r9 + 1)) by omega)⟩ rfl rfl (Nat.le_of_ble_eq_true rfl) (Nat.le_of_ble_eq_true rfl) (fun r9 J_154 hq9 => ?_)
              obtain ⟨z_154, rfl, hz_154, p_154⟩ := hq9
              obtain ⟨m_154, g_154, h_154⟩ := GR.made p_154 (by omega)
              have q_154 : GX [142] J_154 J m m_154 := GX.tr q_130 (GR.x g_154)
              have o_154 := (o_130).gx (GR.x (X := []) g_154) rfl
              exact tz_iret (pc := 157) (z := z_154) dX2_closedPart_157 rfl (Nat.le_of_ble_eq_true rfl) (Nat.le_of_ble_eq_true rfl) ⟨Nat.le_refl _, Nat.le_add_right _ _⟩ ⟨_, rfl, (by omega), ⟨m_154, q_154, o_154, h_154⟩⟩
            · refine tz_iconst (pc := 110) dX2_closedPart_110 ?_
              refine tz_goto (pc := 111) (tgt := 133) dX2_closedPart_111 (by decide) ?_
              refine tz_istore (pc := 133) (L2 := [_, _, _, _, _, _, _, _, _]) dX2_closedPart_133 (by decide) rfl ?_
              refine tz_aload_n (pc := 135) dX2_closedPart_135 rfl rfl ?_
              refine tz_fR (pc := 136) dX2_closedPart_136 fl_X2_28 r_141_0 ?_
              refine tz_aload_n (pc := 139) dX2_closedPart_139 rfl rfl ?_
              refine tz_fR (pc := 140) dX2_closedPart_140 fl_X2_28 r_141_0 ?_
              refine tz_fR (pc := 143) dX2_closedPart_143 fl_X2_42 r_6_1 ?_
              refine tz_iload_n (pc := 146) dX2_closedPart_146 rfl rfl ?_
              refine tz_aL (pc := 147) (z := t) (v := (J_99 7 t)) dX2_closedPart_147 a_7 rfl (by omega) rfl (fun r_147 => ?_)
              refine tz_iload (pc := 148) dX2_closedPart_148 rfl ?_
              refine tz_iload (pc := 150) dX2_closedPart_150 rfl ?_
              refine tz_iload (pc := 152) dX2_closedPart_152 rfl ?_
              refine tz_cV (pc := 154) (c_made hl n _ _ _ _ _ (by omega) (by omega) (by omega) (by omega) m_99 (q_99).2.1 (q_99).2.2.1 (by have := (q_99).2.1.ar (t := t) (by omega) (by have := (q_99).1; omega); omega) (ltA_of (by omega) (by omega) (by omega))) vl_X2_52 dX2_closedPart_154 o_6 rfl rfl (Nat.le_of_ble_eq_true rfl) ⟨(show 2 + 1 ≤ 4 + 2 * (r9 + 1) by omega), (show 8 + (11 + 11) + 40 * (2) ≤ 40 * (4 + 2 * (r9 + 1)) by omega)⟩ rfl rfl (Nat.le_of_ble_eq_true rfl) (Nat.le_of_ble_eq_true rfl) (fun r9 J_154 hq9 => ?_)
              obtain ⟨z_154, rfl, hz_154, p_154⟩ := hq9
              obtain ⟨m_154, g_154, h_154⟩ := GR.made p_154 (by omega)
              have q_154 : GX [142] J_154 J m m_154 := GX.tr q_99 (GR.x g_154)
              have o_154 := (o_99).gx (GR.x (X := []) g_154) rfl
              exact tz_iret (pc := 157) (z := z_154) dX2_closedPart_157 rfl (Nat.le_of_ble_eq_true rfl) (Nat.le_of_ble_eq_true rfl) ⟨Nat.le_refl _, Nat.le_add_right _ _⟩ ⟨_, rfl, (by omega), ⟨m_154, q_154, o_154, h_154⟩⟩
          · refine tz_iconst (pc := 79) dX2_closedPart_79 ?_
            refine tz_goto (pc := 80) (tgt := 102) dX2_closedPart_80 (by decide) ?_
            refine tz_istore (pc := 102) (L2 := [_, _, _, _, _, _, _, _, _]) dX2_closedPart_102 (by decide) rfl ?_
            refine tz_iload (pc := 104) dX2_closedPart_104 rfl ?_
            refine tz_iconst (pc := 106) dX2_closedPart_106 ?_
            refine tz_icmp_ge (pc := 107) (tgt := 114) dX2_closedPart_107 (by decide) (by omega) (by decide) (fun h_107 => ?_) (fun h_107 => ?_)
            · refine tz_aload_n (pc := 114) dX2_closedPart_114 rfl rfl ?_
              refine tz_aload_n (pc := 115) dX2_closedPart_115 rfl rfl ?_
              refine tz_fR (pc := 116) dX2_closedPart_116 fl_X2_28 r_141_0 ?_
              refine tz_iload_n (pc := 119) dX2_closedPart_119 rfl rfl ?_
              refine tz_iconst (pc := 120) dX2_closedPart_120 ?_
              refine tz_cV (pc := 121) (c_arg hl n _ _ _ (by omega) (by decide) (by omega)) vl_X2_48 dX2_closedPart_121 o_6 rfl rfl (Nat.le_of_ble_eq_true rfl) ⟨(show 0 + 1 ≤ 4 + 2 * (r9 + 1) by omega), (show 8 + (3 + 11) + 40 * (0) ≤ 40 * (4 + 2 * (r9 + 1)) by omega)⟩ rfl rfl (Nat.le_of_ble_eq_true rfl) (Nat.le_of_ble_eq_true rfl) (fun r9 J_121 hq9 => ?_)
              obtain ⟨z_121, rfl, hz_121, rfl, rfl⟩ := hq9
              refine tz_aload_n (pc := 124) dX2_closedPart_124 rfl rfl ?_
              refine tz_iload_n (pc := 125) dX2_closedPart_125 rfl rfl ?_
              refine tz_iload (pc := 126) dX2_closedPart_126 rfl ?_
              refine tz_iconst (pc := 128) dX2_closedPart_128 ?_
              refine tz_iadd (pc := 129) (v := lv + 1) dX2_closedPart_129 rfl ?_
              have b_130 := (GX.arg q_68 C ht (i := 2) (by omega)).1
              have c_130 := (q_68).1
              refine tz_cV (pc := 130) (ih _ _ _ (by omega) (by omega) m_68 (q_68).2.1 (q_68).2.2.1 (by omega) (GX.row q_68 rfl hr) o_68 (by omega)) vl_X2_69 dX2_closedPart_130 o_141 rfl rfl (Nat.le_of_ble_eq_true rfl) ⟨(show (4 + 2 * r9) + 1 ≤ 4 + 2 * (r9 + 1) by omega), (show 8 + (9 + 11) + 40 * ((4 + 2 * r9)) ≤ 40 * (4 + 2 * (r9 + 1)) by omega)⟩ rfl rfl (Nat.le_of_ble_eq_true rfl) (Nat.le_of_ble_eq_true rfl) (fun r9 J_130 hq9 => ?_)
              obtain ⟨z_130, rfl, hz_130, m_130, g_130, o_130, h_130⟩ := hq9
              have q_130 := GX.tr q_68 g_130
              have d_130 := q_130.1
              have e_130 := g_130.1
              refine tz_istore (pc := 133) (L2 := [_, _, _, _, _, _, _, _, _]) dX2_closedPart_133 (by decide) rfl ?_
              refine tz_aload_n (pc := 135) dX2_closedPart_135 rfl rfl ?_
              refine tz_fR (pc := 136) dX2_closedPart_136 fl_X2_28 r_141_0 ?_
              refine tz_aload_n (pc := 139) dX2_closedPart_139 rfl rfl ?_
              refine tz_fR (pc := 140) dX2_closedPart_140 fl_X2_28 r_141_0 ?_
              refine tz_fR (pc := 143) dX2_closedPart_143 fl_X2_42 r_6_1 ?_
              refine tz_iload_n (pc := 146) dX2_closedPart_146 rfl rfl ?_
              refine tz_aL (pc := 147) (z := t) (v := (J_130 7 t)) dX2_closedPart_147 a_7 rfl (by omega) rfl (fun r_147 => ?_)
              refine tz_iload (pc := 148) dX2_closedPart_148 rfl ?_
              refine tz_iload (pc := 150) dX2_closedPart_150 rfl ?_
              refine tz_iload (pc := 152) dX2_closedPart_152 rfl ?_
              refine tz_cV (pc := 154) (c_made hl n _ _ _ _ _ (by omega) (by omega) (by omega) (by omega) m_130 (q_130).2.1 (q_130).2.2.1 (by have := (q_130).2.1.ar (t := t) (by omega) (by have := (q_130).1; omega); omega) (ltA_of (by omega) (by omega) (by omega))) vl_X2_52 dX2_closedPart_154 o_6 rfl rfl (Nat.le_of_ble_eq_true rfl) ⟨(show 2 + 1 ≤ 4 + 2 * (r9 + 1) by omega), (show 8 + (11 + 11) + 40 * (2) ≤ 40 * (4 + 2 * (r9 + 1)) by omega)⟩ rfl rfl (Nat.le_of_ble_eq_true rfl) (Nat.le_of_ble_eq_true rfl) (fun r9 J_154 hq9 => ?_)
              obtain ⟨z_154, rfl, hz_154, p_154⟩ := hq9
              obtain ⟨m_154, g_154, h_154⟩ := GR.made p_154 (by omega)
              have q_154 : GX [142] J_154 J m m_154 := GX.tr q_130 (GR.x g_154)
              have o_154 := (o_130).gx (GR.x (X := []) g_154) rfl
              exact tz_iret (pc := 157) (z := z_154) dX2_closedPart_157 rfl (Nat.le_of_ble_eq_true rfl) (Nat.le_of_ble_eq_true rfl) ⟨Nat.le_refl _, Nat.le_add_right _ _⟩ ⟨_, rfl, (by omega), ⟨m_154, q_154, o_154, h_154⟩⟩
            · refine tz_iconst (pc := 110) dX2_closedPart_110 ?_
              refine tz_goto (pc := 111) (tgt := 133) dX2_closedPart_111 (by decide) ?_
              refine tz_istore (pc := 133) (L2 := [_, _, _, _, _, _, _, _, _]) dX2_closedPart_133 (by decide) rfl ?_
              refine tz_aload_n (pc := 135) dX2_closedPart_135 rfl rfl ?_
              refine tz_fR (pc := 136) dX2_closedPart_136 fl_X2_28 r_141_0 ?_
              refine tz_aload_n (pc := 139) dX2_closedPart_139 rfl rfl ?_
              refine tz_fR (pc := 140) dX2_closedPart_140 fl_X2_28 r_141_0 ?_
              refine tz_fR (pc := 143) dX2_closedPart_143 fl_X2_42 r_6_1 ?_
              refine tz_iload_n (pc := 146) dX2_closedPart_146 rfl rfl ?_
              refine tz_aL (pc := 147) (z := t) (v := (J_68 7 t)) dX2_closedPart_147 a_7 rfl (by omega) rfl (fun r_147 => ?_)
              refine tz_iload (pc := 148) dX2_closedPart_148 rfl ?_
              refine tz_iload (pc := 150) dX2_closedPart_150 rfl ?_
              refine tz_iload (pc := 152) dX2_closedPart_152 rfl ?_
              refine tz_cV (pc := 154) (c_made hl n _ _ _ _ _ (by omega) (by omega) (by omega) (by omega) m_68 (q_68).2.1 (q_68).2.2.1 (by have := (q_68).2.1.ar (t := t) (by omega) (by have := (q_68).1; omega); omega) (ltA_of (by omega) (by omega) (by omega))) vl_X2_52 dX2_closedPart_154 o_6 rfl rfl (Nat.le_of_ble_eq_true rfl) ⟨(show 2 + 1 ≤ 4 + 2 * (r9 + 1) by omega), (show 8 + (11 + 11) + 40 * (2) ≤ 40 * (4 + 2 * (r9 + 1)) by omega)⟩ rfl rfl (Nat.le_of_ble_eq_true rfl) (Nat.le_of_ble_eq_true rfl) (fun r9 J_154 hq9 => ?_)
              obtain ⟨z_154, rfl, hz_154, p_154⟩ := hq9
              obtain ⟨m_154, g_154, h_154⟩ := GR.made p_154 (by omega)
              have q_154 : GX [142] J_154 J m m_154 := GX.tr q_68 (GR.x g_154)
              have o_154 := (o_68).gx (GR.x (X := []) g_154) rfl
              exact tz_iret (pc := 157) (z := z_154) dX2_closedPart_157 rfl (Nat.le_of_ble_eq_true rfl) (Nat.le_of_ble_eq_true rfl) ⟨Nat.le_refl _, Nat.le_add_right _ _⟩ ⟨_, rfl, (by omega), ⟨m_154, q_154, o_154, h_154⟩⟩
        · refine tz_iconst (pc := 48) dX2_closedPart_48 ?_
          refine tz_goto (pc := 49) (tgt := 71) dX2_closedPart_49 (by decide) ?_
          refine tz_istore (pc := 71) (L2 := [_, _, _, _, _, _, _, _, _]) dX2_closedPart_71 (by decide) rfl ?_
          refine tz_iload (pc := 73) dX2_closedPart_73 rfl ?_
          refine tz_iconst (pc := 75) dX2_closedPart_75 ?_
          refine tz_icmp_ge (pc := 76) (tgt := 83) dX2_closedPart_76 (by decide) (by omega) (by decide) (fun h_76 => ?_) (fun h_76 => ?_)
          · refine tz_aload_n (pc := 83) dX2_closedPart_83 rfl rfl ?_
            refine tz_aload_n (pc := 84) dX2_closedPart_84 rfl rfl ?_
            refine tz_fR (pc := 85) dX2_closedPart_85 fl_X2_28 r_141_0 ?_
            refine tz_iload_n (pc := 88) dX2_closedPart_88 rfl rfl ?_
            refine tz_iconst (pc := 89) dX2_closedPart_89 ?_
            refine tz_cV (pc := 90) (c_arg hl n _ _ _ (by omega) (by decide) (by omega)) vl_X2_48 dX2_closedPart_90 o_6 rfl rfl (Nat.le_of_ble_eq_true rfl) ⟨(show 0 + 1 ≤ 4 + 2 * (r9 + 1) by omega), (show 8 + (3 + 11) + 40 * (0) ≤ 40 * (4 + 2 * (r9 + 1)) by omega)⟩ rfl rfl (Nat.le_of_ble_eq_true rfl) (Nat.le_of_ble_eq_true rfl) (fun r9 J_90 hq9 => ?_)
            obtain ⟨z_90, rfl, hz_90, rfl, rfl⟩ := hq9
            refine tz_aload_n (pc := 93) dX2_closedPart_93 rfl rfl ?_
            refine tz_iload_n (pc := 94) dX2_closedPart_94 rfl rfl ?_
            refine tz_iload (pc := 95) dX2_closedPart_95 rfl ?_
            refine tz_iconst (pc := 97) dX2_closedPart_97 ?_
            refine tz_iadd (pc := 98) (v := lv + 1) dX2_closedPart_98 rfl ?_
            have b_99 := (GX.arg g0 C ht (i := 1) (by omega)).1
            have c_99 := (g0).1
            refine tz_cV (pc := 99) (ih _ _ _ (by omega) (by omega) m (g0).2.1 (g0).2.2.1 (by omega) (GX.row g0 rfl hr) hc (by omega)) vl_X2_69 dX2_closedPart_99 o_141 rfl rfl (Nat.le_of_ble_eq_true rfl) ⟨(show (4 + 2 * r9) + 1 ≤ 4 + 2 * (r9 + 1) by omega), (show 8 + (9 + 11) + 40 * ((4 + 2 * r9)) ≤ 40 * (4 + 2 * (r9 + 1)) by omega)⟩ rfl rfl (Nat.le_of_ble_eq_true rfl) (Nat.le_of_ble_eq_true rfl) (fun r9 J_99 hq9 => ?_)
            obtain ⟨z_99, rfl, hz_99, m_99, g_99, o_99, h_99⟩ := hq9
            have q_99 := GX.tr g0 g_99
            have d_99 := q_99.1
            have e_99 := g_99.1
            refine tz_istore (pc := 102) (L2 := [_, _, _, _, _, _, _, _, _]) dX2_closedPart_102 (by decide) rfl ?_
            refine tz_iload (pc := 104) dX2_closedPart_104 rfl ?_
            refine tz_iconst (pc := 106) dX2_closedPart_106 ?_
            refine tz_icmp_ge (pc := 107) (tgt := 114) dX2_closedPart_107 (by decide) (by omega) (by decide) (fun h_107 => ?_) (fun h_107 => ?_)
            · refine tz_aload_n (pc := 114) dX2_closedPart_114 rfl rfl ?_
              refine tz_aload_n (pc := 115) dX2_closedPart_115 rfl rfl ?_
              refine tz_fR (pc := 116) dX2_closedPart_116 fl_X2_28 r_141_0 ?_
              refine tz_iload_n (pc := 119) dX2_closedPart_119 rfl rfl ?_
              refine tz_iconst (pc := 120) dX2_closedPart_120 ?_
              refine tz_cV (pc := 121) (c_arg hl n _ _ _ (by omega) (by decide) (by omega)) vl_X2_48 dX2_closedPart_121 o_6 rfl rfl (Nat.le_of_ble_eq_true rfl) ⟨(show 0 + 1 ≤ 4 + 2 * (r9 + 1) by omega), (show 8 + (3 + 11) + 40 * (0) ≤ 40 * (4 + 2 * (r9 + 1)) by omega)⟩ rfl rfl (Nat.le_of_ble_eq_true rfl) (Nat.le_of_ble_eq_true rfl) (fun r9 J_121 hq9 => ?_)
              obtain ⟨z_121, rfl, hz_121, rfl, rfl⟩ := hq9
              refine tz_aload_n (pc := 124) dX2_closedPart_124 rfl rfl ?_
              refine tz_iload_n (pc := 125) dX2_closedPart_125 rfl rfl ?_
              refine tz_iload (pc := 126) dX2_closedPart_126 rfl ?_
              refine tz_iconst (pc := 128) dX2_closedPart_128 ?_
              refine tz_iadd (pc := 129) (v := lv + 1) dX2_closedPart_129 rfl ?_
              have b_130 := (GX.arg q_99 C ht (i := 2) (by omega)).1
              have c_130 := (q_99).1
              refine tz_cV (pc := 130) (ih _ _ _ (by omega) (by omega) m_99 (q_99).2.1 (q_99).2.2.1 (by omega) (GX.row q_99 rfl hr) o_99 (by omega)) vl_X2_69 dX2_closedPart_130 o_141 rfl rfl (Nat.le_of_ble_eq_true rfl) ⟨(show (4 + 2 * r9) + 1 ≤ 4 + 2 * (r9 + 1) by omega), (show 8 + (9 + 11) + 40 * ((4 + 2 * r9)) ≤ 40 * (4 + 2 * (r9 + 1)) by omega)⟩ rfl rfl (Nat.le_of_ble_eq_true rfl) (Nat.le_of_ble_eq_true rfl) (fun r9 J_130 hq9 => ?_)
              obtain ⟨z_130, rfl, hz_130, m_130, g_130, o_130, h_130⟩ := hq9
              have q_130 := GX.tr q_99 g_130
              have d_130 := q_130.1
              have e_130 := g_130.1
              refine tz_istore (pc := 133) (L2 := [_, _, _, _, _, _, _, _, _]) dX2_closedPart_133 (by decide) rfl ?_
              refine tz_aload_n (pc := 135) dX2_closedPart_135 rfl rfl ?_
              refine tz_fR (pc := 136) dX2_closedPart_136 fl_X2_28 r_141_0 ?_
              refine tz_aload_n (pc := 139) dX2_closedPart_139 rfl rfl ?_
              refine tz_fR (pc := 140) dX2_closedPart_140 fl_X2_28 r_141_0 ?_
              refine tz_fR (pc := 143) dX2_closedPart_143 fl_X2_42 r_6_1 ?_
              refine tz_iload_n (pc := 146) dX2_closedPart_146 rfl rfl ?_
              refine tz_aL (pc := 147) (z := t) (v := (J_130 7 t)) dX2_closedPart_147 a_7 rfl (by omega) rfl (fun r_147 => ?_)
              refine tz_iload (pc := 148) dX2_closedPart_148 rfl ?_
              refine tz_iload (pc := 150) dX2_closedPart_150 rfl ?_
              refine tz_iload (pc := 152) dX2_closedPart_152 rfl ?_
              refine tz_cV (pc := 154) (c_made hl n _ _ _ _ _ (by omega) (by omega) (by omega) (by omega) m_130 (q_130).2.1 (q_130).2.2.1 (by have := (q_130).2.1.ar (t := t) (by omega) (by have := (q_130).1; omega); omega) (ltA_of (by omega) (by omega) (by omega))) vl_X2_52 dX2_closedPart_154 o_6 rfl rfl (Nat.le_of_ble_eq_true rfl) ⟨(show 2 + 1 ≤ 4 + 2 * (r9 + 1) by omega), (show 8 + (11 + 11) + 40 * (2) ≤ 40 * (4 + 2 * (r9 + 1)) by omega)⟩ rfl rfl (Nat.le_of_ble_eq_true rfl) (Nat.le_of_ble_eq_true rfl) (fun r9 J_154 hq9 => ?_)
              obtain ⟨z_154, rfl, hz_154, p_154⟩ := hq9
              obtain ⟨m_154, g_154, h_154⟩ := GR.made p_154 (by omega)
              have q_154 : GX [142] J_154 J m m_154 := GX.tr q_130 (GR.x g_154)
              have o_154 := (o_130).gx (GR.x (X := []) g_154) rfl
              exact tz_iret (pc := 157) (z := z_154) dX2_closedPart_157 rfl (Nat.le_of_ble_eq_true rfl) (Nat.le_of_ble_eq_true rfl) ⟨Nat.le_refl _, Nat.le_add_right _ _⟩ ⟨_, rfl, (by omega), ⟨m_154, q_154, o_154, h_154⟩⟩
            · refine tz_iconst (pc := 110) dX2_closedPart_110 ?_
              refine tz_goto (pc := 111) (tgt := 133) dX2_closedPart_111 (by decide) ?_
              refine tz_istore (pc := 133) (L2 := [_, _, _, _, _, _, _, _, _]) dX2_closedPart_133 (by decide) rfl ?_
              refine tz_aload_n (pc := 135) dX2_closedPart_135 rfl rfl ?_
              refine tz_fR (pc := 136) dX2_closedPart_136 fl_X2_28 r_141_0 ?_
              refine tz_aload_n (pc := 139) dX2_closedPart_139 rfl rfl ?_
              refine tz_fR (pc := 140) dX2_closedPart_140 fl_X2_28 r_141_0 ?_
              refine tz_fR (pc := 143) dX2_closedPart_143 fl_X2_42 r_6_1 ?_
              refine tz_iload_n (pc := 146) dX2_closedPart_146 rfl rfl ?_
              refine tz_aL (pc := 147) (z := t) (v := (J_99 7 t)) dX2_closedPart_147 a_7 rfl (by omega) rfl (fun r_147 => ?_)
              refine tz_iload (pc := 148) dX2_closedPart_148 rfl ?_
              refine tz_iload (pc := 150) dX2_closedPart_150 rfl ?_
              refine tz_iload (pc := 152) dX2_closedPart_152 rfl ?_
              refine tz_cV (pc := 154) (c_made hl n _ _ _ _ _ (by omega) (by omega) (by omega) (by omega) m_99 (q_99).2.1 (q_99).2.2.1 (by have := (q_99).2.1.ar (t := t) (by omega) (by have := (q_99).1; omega); omega) (ltA_of (by omega) (by omega) (by omega))) vl_X2_52 dX2_closedPart_154 o_6 rfl rfl (Nat.le_of_ble_eq_true rfl) ⟨(show 2 + 1 ≤ 4 + 2 * (r9 + 1) by omega), (show 8 + (11 + 11) + 40 * (2) ≤ 40 * (4 + 2 * (r9 + 1)) by omega)⟩ rfl rfl (Nat.le_of_ble_eq_true rfl) (Nat.le_of_ble_eq_true rfl) (fun r9 J_154 hq9 => ?_)
              obtain ⟨z_154, rfl, hz_154, p_154⟩ := hq9
              obtain ⟨m_154, g_154, h_154⟩ := GR.made p_154 (by omega)
              have q_154 : GX [142] J_154 J m m_154 := GX.tr q_99 (GR.x g_154)
              have o_154 := (o_99).gx (GR.x (X := []) g_154) rfl
              exact tz_iret (pc := 157) (z := z_154) dX2_closedPart_157 rfl (Nat.le_of_ble_eq_true rfl) (Nat.le_of_ble_eq_true rfl) ⟨Nat.le_refl _, Nat.le_add_right _ _⟩ ⟨_, rfl, (by omega), ⟨m_154, q_154, o_154, h_154⟩⟩
          · refine tz_iconst (pc := 79) dX2_closedPart_79 ?_
            refine tz_goto (pc := 80) (tgt := 102) dX2_closedPart_80 (by decide) ?_
            refine tz_istore (pc := 102) (L2 := [_, _, _, _, _, _, _, _, _]) dX2_closedPart_102 (by decide) rfl ?_
            refine tz_iload (pc := 104) dX2_closedPart_104 rfl ?_
            refine tz_iconst (pc := 106) dX2_closedPart_106 ?_
            refine tz_icmp_ge (pc := 107) (tgt := 114) dX2_closedPart_107 (by decide) (by omega) (by decide) (fun h_107 => ?_) (fun h_107 => ?_)
            · refine tz_aload_n (pc := 114) dX2_closedPart_114 rfl rfl ?_
              refine tz_aload_n (pc := 115) dX2_closedPart_115 rfl rfl ?_
              refine tz_fR (pc := 116) dX2_closedPart_116 fl_X2_28 r_141_0 ?_
              refine tz_iload_n (pc := 119) dX2_closedPart_119 rfl rfl ?_
              refine tz_iconst (pc := 120) dX2_closedPart_120 ?_
              refine tz_cV (pc := 121) (c_arg hl n _ _ _ (by omega) (by decide) (by omega)) vl_X2_48 dX2_closedPart_121 o_6 rfl rfl (Nat.le_of_ble_eq_true rfl) ⟨(show 0 + 1 ≤ 4 + 2 * (r9 + 1) by omega), (show 8 + (3 + 11) + 40 * (0) ≤ 40 * (4 + 2 * (r9 + 1)) by omega)⟩ rfl rfl (Nat.le_of_ble_eq_true rfl) (Nat.le_of_ble_eq_true rfl) (fun r9 J_121 hq9 => ?_)
              obtain ⟨z_121, rfl, hz_121, rfl, rfl⟩ := hq9
              refine tz_aload_n (pc := 124) dX2_closedPart_124 rfl rfl ?_
              refine tz_iload_n (pc := 125) dX2_closedPart_125 rfl rfl ?_
              refine tz_iload (pc := 126) dX2_closedPart_126 rfl ?_
              refine tz_iconst (pc := 128) dX2_closedPart_128 ?_
              refine tz_iadd (pc := 129) (v := lv + 1) dX2_closedPart_129 rfl ?_
              have b_130 := (GX.arg g0 C ht (i := 2) (by omega)).1
              have c_130 := (g0).1
              refine tz_cV (pc := 130) (ih _ _ _ (by omega) (by omega) m (g0).2.1 (g0).2.2.1 (by omega) (GX.row g0 rfl hr) hc (by omega)) vl_X2_69 dX2_closedPart_130 o_141 rfl rfl (Nat.le_of_ble_eq_true rfl) ⟨(show (4 + 2 * r9) + 1 ≤ 4 + 2 * (r9 + 1) by omega), (show 8 + (9 + 11) + 40 * ((4 + 2 * r9)) ≤ 40 * (4 + 2 * (r9 + 1)) by omega)⟩ rfl rfl (Nat.le_of_ble_eq_true rfl) (Nat.le_of_ble_eq_true rfl) (fun r9 J_130 hq9 => ?_)
              obtain ⟨z_130, rfl, hz_130, m_130, g_130, o_130, h_130⟩ := hq9
              have q_130 := GX.tr g0 g_130
              have d_130 := q_130.1
              have e_130 := g_130.1
              refine tz_istore (pc := 133) (L2 := [_, _, _, _, _, _, _, _, _]) dX2_closedPart_133 (by decide) rfl ?_
              refine tz_aload_n (pc := 135) dX2_closedPart_135 rfl rfl ?_
              refine tz_fR (pc := 136) dX2_closedPart_136 fl_X2_28 r_141_0 ?_
              refine tz_aload_n (pc := 139) dX2_closedPart_139 rfl rfl ?_
              refine tz_fR (pc := 140) dX2_closedPart_140 fl_X2_28 r_141_0 ?_
              refine tz_fR (pc := 143) dX2_closedPart_143 fl_X2_42 r_6_1 ?_
              refine tz_iload_n (pc := 146) dX2_closedPart_146 rfl rfl ?_
              refine tz_aL (pc := 147) (z := t) (v := (J_130 7 t)) dX2_closedPart_147 a_7 rfl (by omega) rfl (fun r_147 => ?_)
              refine tz_iload (pc := 148) dX2_closedPart_148 rfl ?_
              refine tz_iload (pc := 150) dX2_closedPart_150 rfl ?_
              refine tz_iload (pc := 152) dX2_closedPart_152 rfl ?_
              refine tz_cV (pc := 154) (c_made hl n _ _ _ _ _ (by omega) (by omega) (by omega) (by omega) m_130 (q_130).2.1 (q_130).2.2.1 (by have := (q_130).2.1.ar (t := t) (by omega) (by have := (q_130).1; omega); omega) (ltA_of (by omega) (by omega) (by omega))) vl_X2_52 dX2_closedPart_154 o_6 rfl rfl (Nat.le_of_ble_eq_true rfl) ⟨(show 2 + 1 ≤ 4 + 2 * (r9 + 1) by omega), (show 8 + (11 + 11) + 40 * (2) ≤ 40 * (4 + 2 * (r9 + 1)) by omega)⟩ rfl rfl (Nat.le_of_ble_eq_true rfl) (Nat.le_of_ble_eq_true rfl) (fun r9 J_154 hq9 => ?_)
              obtain ⟨z_154, rfl, hz_154, p_154⟩ := hq9
              obtain ⟨m_154, g_154, h_154⟩ := GR.made p_154 (by omega)
              have q_154 : GX [142] J_154 J m m_154 := GX.tr q_130 (GR.x g_154)
              have o_154 := (o_130).gx (GR.x (X := []) g_154) rfl
              exact tz_iret (pc := 157) (z := z_154) dX2_closedPart_157 rfl (Nat.le_of_ble_eq_true rfl) (Nat.le_of_ble_eq_true rfl) ⟨Nat.le_refl _, Nat.le_add_right _ _⟩ ⟨_, rfl, (by omega), ⟨m_154, q_154, o_154, h_154⟩⟩
            · refine tz_iconst (pc := 110) dX2_closedPart_110 ?_
              refine tz_goto (pc := 111) (tgt := 133) dX2_closedPart_111 (by decide) ?_
              refine tz_istore (pc := 133) (L2 := [_, _, _, _, _, _, _, _, _]) dX2_closedPart_133 (by decide) rfl ?_
              refine tz_aload_n (pc := 135) dX2_closedPart_135 rfl rfl ?_
              refine tz_fR (pc := 136) dX2_closedPart_136 fl_X2_28 r_141_0 ?_
              refine tz_aload_n (pc := 139) dX2_closedPart_139 rfl rfl ?_
              refine tz_fR (pc := 140) dX2_closedPart_140 fl_X2_28 r_141_0 ?_
              refine tz_fR (pc := 143) dX2_closedPart_143 fl_X2_42 r_6_1 ?_
              refine tz_iload_n (pc := 146) dX2_closedPart_146 rfl rfl ?_
              refine tz_aL (pc := 147) (z := t) (v := (J 7 t)) dX2_closedPart_147 a_7 rfl (by omega) rfl (fun r_147 => ?_)
              refine tz_iload (pc := 148) dX2_closedPart_148 rfl ?_
              refine tz_iload (pc := 150) dX2_closedPart_150 rfl ?_
              refine tz_iload (pc := 152) dX2_closedPart_152 rfl ?_
              refine tz_cV (pc := 154) (c_made hl n _ _ _ _ _ (by omega) (by omega) (by omega) (by omega) m (g0).2.1 (g0).2.2.1 (by have := (g0).2.1.ar (t := t) (by omega) (by have := (g0).1; omega); omega) (ltA_of (by omega) (by omega) (by omega))) vl_X2_52 dX2_closedPart_154 o_6 rfl rfl (Nat.le_of_ble_eq_true rfl) ⟨(show 2 + 1 ≤ 4 + 2 * (r9 + 1) by omega), (show 8 + (11 + 11) + 40 * (2) ≤ 40 * (4 + 2 * (r9 + 1)) by omega)⟩ rfl rfl (Nat.le_of_ble_eq_true rfl) (Nat.le_of_ble_eq_true rfl) (fun r9 J_154 hq9 => ?_)
              obtain ⟨z_154, rfl, hz_154, p_154⟩ := hq9
              obtain ⟨m_154, g_154, h_154⟩ := GR.made p_154 (by omega)
              have q_154 : GX [142] J_154 J m m_154 := GX.tr g0 (GR.x g_154)
              have o_154 := (hc).gx (GR.x (X := []) g_154) rfl
              exact tz_iret (pc := 157) (z := z_154) dX2_closedPart_157 rfl (Nat.le_of_ble_eq_true rfl) (Nat.le_of_ble_eq_true rfl) ⟨Nat.le_refl _, Nat.le_add_right _ _⟩ ⟨_, rfl, (by omega), ⟨m_154, q_154, o_154, h_154⟩⟩
    · refine tz_bipush (pc := 7) dX2_closedPart_7 (by decide) ?_
      exact tz_iret (pc := 9) (z := (-3)) dX2_closedPart_9 rfl (Nat.le_of_ble_eq_true rfl) (Nat.le_of_ble_eq_true rfl) ⟨Nat.le_refl _, Nat.le_add_right _ _⟩ ⟨_, rfl, (by decide), ⟨m, GX.rf C hm, hc, Or.inl rfl⟩⟩

set_option maxHeartbeats 4000000 in
set_option maxRecDepth 100000 in
theorem c_closed {l : Launch} {G : tb_G} (hl : l.stackTraces = false) (n : Nat) (J : zJ) (t : Int) (hr_t : -2147483648 ≤ t ∧ t < 2147483648) (m : Int) (C : CT J m) (hm : J 6 12 = m) (ht : 0 ≤ t ∧ t < m) (hr : rOK J 19 7 m) : tz_Ok l G M_X2_closed 35 0 0 [.ref 141, zi t, .ref 19, zi 7] n J (zqi (fun z J' => ∃ m', GX [142] J' J m m' ∧ (z = -3 ∨ (0 ≤ z ∧ z < m')))) zN := by
  refine tz_Ok.of hl (by decide +kernel) rfl (tb_c1 rfl) (Nat.le_of_ble_eq_true rfl) ?_
  show tz_At l G M_X2_closed (tb_rm 35 0 0) none (tb_ZM G 0 0 (zQ n 0 (zqi (fun z J' => ∃ m', GX [142] J' J m m' ∧ (z = -3 ∨ (0 ≤ z ∧ z < m'))))) (zX n 0 zN)) 0 0 n J 0 [some (.ref 141), some (zi t), some (.ref 19), some (zi 7)] []
  refine tz_aload_n (pc := 0) dX2_closed_0 rfl rfl ?_
  refine tz_fR (pc := 1) dX2_closed_1 fl_X2_9 r_141_1 ?_
  refine tz_iconst (pc := 4) dX2_closed_4 ?_
  refine tz_cS (pc := 5) (zJ_fill hl n _ 142 _ 8 (-1) (by decide) a_142 rfl) sl_X2_63 dX2_closed_5 rfl rfl (Nat.le_of_ble_eq_true rfl) ⟨(Nat.le_of_ble_eq_true rfl), (Nat.le_of_ble_eq_true rfl)⟩ rfl rfl (Nat.le_of_ble_eq_true rfl) (Nat.le_of_ble_eq_true rfl) (fun r9 J_5 hq9 => ?_)
  obtain ⟨rfl, rfl⟩ := hq9
  refine tz_aload_n (pc := 8) dX2_closed_8 rfl rfl ?_
  refine tz_iload_n (pc := 9) dX2_closed_9 rfl rfl ?_
  refine tz_aload_n (pc := 10) dX2_closed_10 rfl rfl ?_
  refine tz_iload_n (pc := 11) dX2_closed_11 rfl rfl ?_
  refine tz_iconst (pc := 12) dX2_closed_12 ?_
  refine tz_cV (pc := 13) (c_closedP hl n 15 _ _ _ (by omega) (by omega) m (C.of (fun c hc => zfl_nc (by omega))) hm ht hr (fun v a b => Or.inl (zfl_in b)) (by decide)) vl_X2_69 dX2_closed_13 o_141 rfl rfl (Nat.le_of_ble_eq_true rfl) ⟨(Nat.le_of_ble_eq_true rfl), (Nat.le_of_ble_eq_true rfl)⟩ rfl rfl (Nat.le_of_ble_eq_true rfl) (Nat.le_of_ble_eq_true rfl) (fun r9 J_13 hq9 => ?_)
  obtain ⟨z_13, rfl, hz_13, m1, g1, -, h1⟩ := hq9
  exact tz_iret (pc := 16) (z := z_13) dX2_closed_16 rfl (Nat.le_of_ble_eq_true rfl) (Nat.le_of_ble_eq_true rfl) ⟨Nat.le_refl _, Nat.le_add_right _ _⟩ ⟨_, rfl, (by omega), ⟨m1, ((GX.rf C hm).off rfl (zOf.fl rfl zOf.rf)).tr g1, h1⟩⟩

