set_option maxHeartbeats 4000000 in
set_option maxRecDepth 100000 in
theorem m_isFound {l : Launch} {G : tb_G} (hl : l.stackTraces = false) (n : Nat) (J : zJ) (u : Int) (t : Int) (w : Int) (hr_u : -2147483648 ≤ u ∧ u < 2147483648) (hr_t : -2147483648 ≤ t ∧ t < 2147483648) (hr_w : -2147483648 ≤ w ∧ w < 2147483648) (s m : Int) (hM : MS J 0 0 0 s m) (hu : 0 ≤ u ∧ u < m) (ht : 0 ≤ t ∧ t < m) : tz_Ok l G M_X12_isFound 809 0 0 [.ref 164, zi u, zi t, zi w] n J (zqi (fun z J' => (z = 0 ∨ z = 1) ∧ MZ J' J)) zN := by
  refine tz_Ok.of hl (by decide +kernel) rfl (tb_c1 rfl) (Nat.le_of_ble_eq_true rfl) ?_
  show tz_At l G M_X12_isFound (tb_rm 809 0 0) none (tb_ZM G 0 0 (zQ n 0 (zqi (fun z J' => (z = 0 ∨ z = 1) ∧ MZ J' J))) (zX n 0 zN)) 0 0 n J 0 [some (.ref 164), some (zi u), some (zi t), some (zi w)] []
  refine tz_iload_n (pc := 0) dX12_isFound_0 rfl rfl ?_
  refine tz_if_ne (pc := 1) (tgt := 11) dX12_isFound_1 (by decide) (by omega) (fun h_1 => ?_) (fun h_1 => ?_)
  · refine tz_iload_n (pc := 11) dX12_isFound_11 rfl rfl ?_
    refine tz_iconst (pc := 12) dX12_isFound_12 ?_
    refine tz_icmp_ne (pc := 13) (tgt := 23) dX12_isFound_13 (by decide) (by omega) (by decide) (fun h_13 => ?_) (fun h_13 => ?_)
    · refine tz_iload_n (pc := 23) dX12_isFound_23 rfl rfl ?_
      refine tz_iconst (pc := 24) dX12_isFound_24 ?_
      refine tz_icmp_ne (pc := 25) (tgt := 37) dX12_isFound_25 (by decide) (by omega) (by decide) (fun h_25 => ?_) (fun h_25 => ?_)
      · refine tz_aload_n (pc := 37) dX12_isFound_37 rfl rfl ?_
        refine tz_iload_n (pc := 38) dX12_isFound_38 rfl rfl ?_
        refine tz_iload_n (pc := 39) dX12_isFound_39 rfl rfl ?_
        refine tz_cV (pc := 40) (m_shape hl n _ _ _ (by omega) (by omega) 0 0 0 s m (hM.z MZ.rf) (by omega) (by omega) ) vl_X12_136 dX12_isFound_40 o_164 rfl rfl (Nat.le_of_ble_eq_true rfl) ⟨(Nat.le_of_ble_eq_true rfl), (Nat.le_of_ble_eq_true rfl)⟩ rfl rfl (Nat.le_of_ble_eq_true rfl) (Nat.le_of_ble_eq_true rfl) (fun r9 J_40 hq9 => ?_)
        obtain ⟨z_40, rfl, hz_40, rfl, hh_40⟩ := hq9
        exact tz_zret (pc := 43) (z := z_40) dX12_isFound_43 rfl (by omega) (Nat.le_of_ble_eq_true rfl) (Nat.le_of_ble_eq_true rfl) ⟨Nat.le_refl _, Nat.le_add_right _ _⟩ ⟨_, rfl, (by omega), ⟨by omega, MZ.rf⟩⟩
      · refine tz_aload_n (pc := 28) dX12_isFound_28 rfl rfl ?_
        refine tz_iload_n (pc := 29) dX12_isFound_29 rfl rfl ?_
        refine tz_iload_n (pc := 30) dX12_isFound_30 rfl rfl ?_
        refine tz_cV (pc := 31) (m_canBe hl n _ _ _ (by omega) (by omega) 0 0 0 s m (hM.z MZ.rf) (by omega) (by omega)) vl_X12_359 dX12_isFound_31 o_164 rfl rfl (Nat.le_of_ble_eq_true rfl) ⟨(Nat.le_of_ble_eq_true rfl), (Nat.le_of_ble_eq_true rfl)⟩ rfl rfl (Nat.le_of_ble_eq_true rfl) (Nat.le_of_ble_eq_true rfl) (fun r9 J_31 hq9 => ?_)
        obtain ⟨z_31, rfl, hz_31, b_31, f_31⟩ := hq9
        have x_31 : MZ J_31 J := MZ.f f_31 (by decide) (by decide)
        have y_31 := MZ.tr MZ.rf x_31
        refine tz_goto (pc := 34) (tgt := 43) dX12_isFound_34 (by decide) ?_
        exact tz_zret (pc := 43) (z := z_31) dX12_isFound_43 rfl (by omega) (Nat.le_of_ble_eq_true rfl) (Nat.le_of_ble_eq_true rfl) ⟨Nat.le_refl _, Nat.le_add_right _ _⟩ ⟨_, rfl, (by omega), ⟨by omega, y_31⟩⟩
    · refine tz_aload_n (pc := 16) dX12_isFound_16 rfl rfl ?_
      refine tz_iload_n (pc := 17) dX12_isFound_17 rfl rfl ?_
      refine tz_iload_n (pc := 18) dX12_isFound_18 rfl rfl ?_
      refine tz_cV (pc := 19) (m_doesMatch hl n _ _ _ (by omega) (by omega) 0 0 0 s m (hM.z MZ.rf) (by omega) (by omega)) vl_X12_227 dX12_isFound_19 o_164 rfl rfl (Nat.le_of_ble_eq_true rfl) ⟨(Nat.le_of_ble_eq_true rfl), (Nat.le_of_ble_eq_true rfl)⟩ rfl rfl (Nat.le_of_ble_eq_true rfl) (Nat.le_of_ble_eq_true rfl) (fun r9 J_19 hq9 => ?_)
      obtain ⟨z_19, rfl, hz_19, b_19, f_19, g_19⟩ := hq9
      have x_19 : MZ J_19 J := MZ.c f_19 (by decide)
      have y_19 := MZ.tr MZ.rf x_19
      exact tz_zret (pc := 22) (z := z_19) dX12_isFound_22 rfl (by omega) (Nat.le_of_ble_eq_true rfl) (Nat.le_of_ble_eq_true rfl) ⟨Nat.le_refl _, Nat.le_add_right _ _⟩ ⟨_, rfl, (by omega), ⟨by omega, y_19⟩⟩
  · refine tz_aload_n (pc := 4) dX12_isFound_4 rfl rfl ?_
    refine tz_iload_n (pc := 5) dX12_isFound_5 rfl rfl ?_
    refine tz_iload_n (pc := 6) dX12_isFound_6 rfl rfl ?_
    refine tz_cV (pc := 7) (m_doesMatch hl n _ _ _ (by omega) (by omega) 0 0 0 s m (hM.z MZ.rf) (by omega) (by omega)) vl_X12_227 dX12_isFound_7 o_164 rfl rfl (Nat.le_of_ble_eq_true rfl) ⟨(Nat.le_of_ble_eq_true rfl), (Nat.le_of_ble_eq_true rfl)⟩ rfl rfl (Nat.le_of_ble_eq_true rfl) (Nat.le_of_ble_eq_true rfl) (fun r9 J_7 hq9 => ?_)
    obtain ⟨z_7, rfl, hz_7, b_7, f_7, g_7⟩ := hq9
    have x_7 : MZ J_7 J := MZ.c f_7 (by decide)
    have y_7 := MZ.tr MZ.rf x_7
    exact tz_zret (pc := 10) (z := z_7) dX12_isFound_10 rfl (by omega) (Nat.le_of_ble_eq_true rfl) (Nat.le_of_ble_eq_true rfl) ⟨Nat.le_refl _, Nat.le_add_right _ _⟩ ⟨_, rfl, (by omega), ⟨by omega, y_7⟩⟩

set_option maxHeartbeats 4000000 in
set_option maxRecDepth 100000 in
theorem q_find {l : Launch} {G : tb_G} (hl : l.stackTraces = false) (n : Nat) (J : zJ) (x : Int) (y : Int) (hr_x : -2147483648 ≤ x ∧ x < 2147483648) (hr_y : -2147483648 ≤ y ∧ y < 2147483648) (m : Int) (hI : MI J m)  : tz_Ok l G M_X12_find 810 0 0 [.ref 164, zi x, zi y] n J (zqi (fun z J' => MQr J' J)) zN := by
  refine tz_Ok.of hl (by decide +kernel) rfl (tb_c1 rfl) (Nat.le_of_ble_eq_true rfl) ?_
  show tz_At l G M_X12_find (tb_rm 810 0 0) none (tb_ZM G 0 0 (zQ n 0 (zqi (fun z J' => MQr J' J))) (zX n 0 zN)) 0 0 n J 0 [some (.ref 164), some (zi x), some (zi y), none, none] []
  have hT := hI.told
  have hW := hI.row
  have hM := hI.1
  have hL := hI.2.1
  refine tz_aload_n (pc := 0) dX12_find_0 rfl rfl ?_
  refine tz_iconst (pc := 1) dX12_find_1 ?_
  refine tz_pI (pc := 2) (kz := 8) dX12_find_2 fl_X12_68 i_164_8 rfl rfl (by decide) ?_
  refine tz_aload_n (pc := 5) dX12_find_5 rfl rfl ?_
  refine tz_iload_n (pc := 6) dX12_find_6 rfl rfl ?_
  refine tz_cV (pc := 7) (m_isTermNow hl n _ _ (by omega) (by rw [(show ((zup J 164 8 0) : zJ) 165 0 = (J 165 0) from rfl)]; omega)) vl_X12_379 dX12_find_7 o_164 rfl rfl (Nat.le_of_ble_eq_true rfl) ⟨(Nat.le_of_ble_eq_true rfl), (Nat.le_of_ble_eq_true rfl)⟩ rfl rfl (Nat.le_of_ble_eq_true rfl) (Nat.le_of_ble_eq_true rfl) (fun r9 J_7 hq9 => ?_)
  obtain ⟨z_7, rfl, hz_7, f_7, b_7, c_7⟩ := hq9
  have x_7 : MZ J_7 (zup J 164 8 0) := MZ.f f_7 (by decide) (by decide)
  have y_7 := MZ.tr (MZ.up (k := 8) MZ.rf (by decide)) x_7
  rw [(show ((zup J 164 8 0) : zJ) 165 0 = (J 165 0) from rfl)] at c_7
  refine tz_if_eq (pc := 10) (tgt := 27) dX12_find_10 (by decide) (by omega) (fun h_10 => ?_) (fun h_10 => ?_)
  · refine tz_iconst (pc := 27) dX12_find_27 ?_
    exact tz_iret (pc := 28) (z := 0) dX12_find_28 rfl (Nat.le_of_ble_eq_true rfl) (Nat.le_of_ble_eq_true rfl) ⟨Nat.le_refl _, Nat.le_add_right _ _⟩ ⟨_, rfl, (by decide), MQr.z hI y_7⟩
  · refine tz_aload_n (pc := 13) dX12_find_13 rfl rfl ?_
    refine tz_iload_n (pc := 14) dX12_find_14 rfl rfl ?_
    refine tz_iconst (pc := 15) dX12_find_15 ?_
    refine tz_iconst (pc := 16) dX12_find_16 ?_
    refine tz_cS (pc := 17) (m_within hl n _ _ _ _ (by omega) (by decide) (by decide)) sl_X12_283 dX12_find_17 rfl rfl (Nat.le_of_ble_eq_true rfl) ⟨(Nat.le_of_ble_eq_true rfl), (Nat.le_of_ble_eq_true rfl)⟩ rfl rfl (Nat.le_of_ble_eq_true rfl) (Nat.le_of_ble_eq_true rfl) (fun r9 J_17 hq9 => ?_)
    obtain ⟨z_17, rfl, hz_17, rfl, hw_17⟩ := hq9
    refine tz_iconst (pc := 20) dX12_find_20 ?_
    refine tz_cV (pc := 21) (m_right hl n _ _ _ (by omega) (by decide) (by decide)) vl_X12_334 dX12_find_21 o_164 rfl rfl (Nat.le_of_ble_eq_true rfl) ⟨(Nat.le_of_ble_eq_true rfl), (Nat.le_of_ble_eq_true rfl)⟩ rfl rfl (Nat.le_of_ble_eq_true rfl) (Nat.le_of_ble_eq_true rfl) (fun r9 J_21 hq9 => ?_)
    obtain ⟨z_21, rfl, hz_21, f_21, b_21, c_21⟩ := hq9
    have x_21 : MZ J_21 J_7 := MZ.f f_21 (by decide) (by decide)
    have y_21 := MZ.tr y_7 x_21
    have e_21 : z_21 = 1 → ¬ z_17 = 0 := fun q9 => (c_21 q9).2.2.resolve_right (by decide)
    refine tz_if_ne (pc := 24) (tgt := 29) dX12_find_24 (by decide) (by omega) (fun h_24 => ?_) (fun h_24 => ?_)
    · refine tz_iconst (pc := 29) dX12_find_29 ?_
      refine tz_istore_n (pc := 30) (L2 := [_, _, _, _, _]) dX12_find_30 rfl (by decide) rfl ?_
      refine tz_iconst (pc := 31) dX12_find_31 ?_
      refine tz_istore (pc := 32) (L2 := [_, _, _, _, _]) dX12_find_32 (by decide) rfl ?_
      have loop34 : ∀ (f9 : Nat) (q : Int) (k : Int) (J1 : zJ), ((12 - k).toNat) < f9 → (-2147483648 ≤ q ∧ q < 2147483648) → (0 ≤ k ∧ k ≤ J 165 26) → (MZ J1 J) → tz_At l G M_X12_find (tb_rm 810 0 0) none (tb_ZM G 0 0 (zQ n 0 (zqi (fun z J' => MQr J' J))) (zX n 0 zN)) 0 0 n J1 34 [some (.ref 164), some (zi x), some (zi y), some (zi q), some (zi k)] [] := by
        intro f9
        induction f9 with
        | zero => intro q k J1 hm9; exact absurd hm9 (Nat.not_lt_zero _)
        | succ f9 ih34 =>
          intro q k J1 hm34 hq hk zf
          refine tz_iload (pc := 34) dX12_find_34 rfl ?_
          refine tz_aload_n (pc := 36) dX12_find_36 rfl rfl ?_
          refine tz_fR (pc := 37) dX12_find_37 fl_X12_9 r_164_0 ?_
          refine tz_bipush (pc := 40) dX12_find_40 (by decide) ?_
          refine tz_aL (pc := 42) (z := 26) (v := (J 165 26)) dX12_find_42 a_165 rfl (by decide) (Eq.trans (congrFun (zf.1 165 rfl) 26) rfl) (fun r_42 => ?_)
          refine tz_icmp_ge (pc := 43) (tgt := 78) dX12_find_43 (by decide) (by omega) (by omega) (fun h_43 => ?_) (fun h_43 => ?_)
          · refine tz_iload_n (pc := 78) dX12_find_78 rfl rfl ?_
            exact tz_iret (pc := 79) (z := q) dX12_find_79 rfl (Nat.le_of_ble_eq_true rfl) (Nat.le_of_ble_eq_true rfl) ⟨Nat.le_refl _, Nat.le_add_right _ _⟩ ⟨_, rfl, (by omega), MQr.z hI zf⟩
          · refine tz_aload_n (pc := 46) dX12_find_46 rfl rfl ?_
            refine tz_aload_n (pc := 47) dX12_find_47 rfl rfl ?_
            refine tz_fR (pc := 48) dX12_find_48 fl_X12_9 r_164_0 ?_
            refine tz_bipush (pc := 51) dX12_find_51 (by decide) ?_
            refine tz_iload (pc := 53) dX12_find_53 rfl ?_
            refine tz_iadd (pc := 55) (v := 27 + k) dX12_find_55 rfl ?_
            refine tz_aL (pc := 56) (z := (27 + k)) (v := (J 165 (27 + k))) dX12_find_56 a_165 rfl (by omega) (Eq.trans (congrFun (zf.1 165 rfl) (27 + k)) rfl) (fun r_56 => ?_)
            refine tz_iload_n (pc := 57) dX12_find_57 rfl rfl ?_
            refine tz_iload_n (pc := 58) dX12_find_58 rfl rfl ?_
            have hE := hL.2.2.1.2 k (by omega) (by omega)
            refine tz_cV (pc := 59) (m_isFound hl n _ _ _ _ (by omega) (by omega) (by omega) (J 164 9) m (hM.z zf) (by omega) (by omega)) vl_X12_388 dX12_find_59 o_164 rfl rfl (Nat.le_of_ble_eq_true rfl) ⟨(Nat.le_of_ble_eq_true rfl), (Nat.le_of_ble_eq_true rfl)⟩ rfl rfl (Nat.le_of_ble_eq_true rfl) (Nat.le_of_ble_eq_true rfl) (fun r9 J_59 hq9 => ?_)
            obtain ⟨z_59, rfl, hz_59, b_59, x_59⟩ := hq9
            have y_59 := MZ.tr zf x_59
            refine tz_if_eq (pc := 62) (tgt := 72) dX12_find_62 (by decide) (by omega) (fun h_62 => ?_) (fun h_62 => ?_)
            · refine tz_iinc (pc := 72) (z := k + 1) (L2 := [_, _, _, _, _]) dX12_find_72 rfl (by omega) rfl ?_
              refine tz_goto (pc := 75) (tgt := 34) dX12_find_75 (by decide) ?_
              exact ih34 _ (k + 1) _ (by omega) (by omega) (by omega) y_59
            · refine tz_iload_n (pc := 65) dX12_find_65 rfl rfl ?_
              refine tz_iconst (pc := 66) dX12_find_66 ?_
              refine tz_iload (pc := 67) dX12_find_67 rfl ?_
              refine tz_ishl (pc := 69) (v := zshl 1 k) dX12_find_69 rfl ?_
              have r_69 := zshl_rg 1 k
              refine tz_ior (pc := 70) (v := zor q (zshl 1 k)) dX12_find_70 rfl ?_
              have r_70 := zor_rg q (zshl 1 k)
              refine tz_istore_n (pc := 71) (L2 := [_, _, _, _, _]) dX12_find_71 rfl (by decide) rfl ?_
              refine tz_iinc (pc := 72) (z := k + 1) (L2 := [_, _, _, _, _]) dX12_find_72 rfl (by omega) rfl ?_
              refine tz_goto (pc := 75) (tgt := 34) dX12_find_75 (by decide) ?_
              exact ih34 _ (k + 1) _ (by omega) (by omega) (by omega) y_59
      exact loop34 _ 0 0 _ (Nat.lt_succ_self _) (by omega) (by omega) y_21
    · refine tz_iconst (pc := 27) dX12_find_27 ?_
      exact tz_iret (pc := 28) (z := 0) dX12_find_28 rfl (Nat.le_of_ble_eq_true rfl) (Nat.le_of_ble_eq_true rfl) ⟨Nat.le_refl _, Nat.le_add_right _ _⟩ ⟨_, rfl, (by decide), MQr.z hI y_21⟩

