set_option maxHeartbeats 4000000 in
set_option maxRecDepth 100000 in
theorem c_compared {l : Launch} {G : tb_G} (hl : l.stackTraces = false) (n : Nat) (J : zJ) (s : Int) (t : Int) (hr_s : -2147483648 ≤ s ∧ s < 2147483648) (hr_t : -2147483648 ≤ t ∧ t < 2147483648) (m : Int) (C : CT J m) (hs : 0 ≤ s ∧ s < m) (ht : 0 ≤ t ∧ t < m) : tz_Ok l G M_X7_compared 9 0 0 [.ref 155, zi s, zi t] n J (zqi (fun z J' => zOf (zbut [156, 157]) J' J ∧ J' 156 3 = J 156 3)) zN := by
  refine tz_Ok.of hl (by decide +kernel) rfl (tb_c1 rfl) (Nat.le_of_ble_eq_true rfl) ?_
  show tz_At l G M_X7_compared (tb_rm 9 0 0) none (tb_ZM G 0 0 (zQ n 0 (zqi (fun z J' => zOf (zbut [156, 157]) J' J ∧ J' 156 3 = J 156 3))) (zX n 0 zN)) 0 0 n J 0 [some (.ref 155), some (zi s), some (zi t)] []
  refine tz_iload_n (pc := 0) dX7_compared_0 rfl rfl ?_
  refine tz_iload_n (pc := 1) dX7_compared_1 rfl rfl ?_
  refine tz_icmp_ne (pc := 2) (tgt := 7) dX7_compared_2 (by decide) (by omega) (by omega) (fun h_2 => ?_) (fun h_2 => ?_)
  · refine tz_aload_n (pc := 7) dX7_compared_7 rfl rfl ?_
    refine tz_fR (pc := 8) dX7_compared_8 fl_X7_30 r_155_4 ?_
    refine tz_iload_n (pc := 11) dX7_compared_11 rfl rfl ?_
    refine tz_iload_n (pc := 12) dX7_compared_12 rfl rfl ?_
    refine tz_cV (pc := 13) (c_greater hl n _ _ _ (by omega) (by omega) m C hs ht) vl_X7_34 dX7_compared_13 o_156 rfl rfl (Nat.le_of_ble_eq_true rfl) ⟨(Nat.le_of_ble_eq_true rfl), (Nat.le_of_ble_eq_true rfl)⟩ rfl rfl (Nat.le_of_ble_eq_true rfl) (Nat.le_of_ble_eq_true rfl) (fun r9 J_13 hq9 => ?_)
    obtain ⟨z_13, rfl, hz_13, h1, f1, k1⟩ := hq9
    refine tz_if_eq (pc := 16) (tgt := 21) dX7_compared_16 (by decide) (by omega) (fun h_16 => ?_) (fun h_16 => ?_)
    · refine tz_aload_n (pc := 21) dX7_compared_21 rfl rfl ?_
      refine tz_fR (pc := 22) dX7_compared_22 fl_X7_30 r_155_4 ?_
      refine tz_iload_n (pc := 25) dX7_compared_25 rfl rfl ?_
      refine tz_iload_n (pc := 26) dX7_compared_26 rfl rfl ?_
      refine tz_cV (pc := 27) (c_greater hl n _ _ _ (by omega) (by omega) m (C.of (fun c hc => f1 c (by simp [zbut]; omega))) ht hs) vl_X7_34 dX7_compared_27 o_156 rfl rfl (Nat.le_of_ble_eq_true rfl) ⟨(Nat.le_of_ble_eq_true rfl), (Nat.le_of_ble_eq_true rfl)⟩ rfl rfl (Nat.le_of_ble_eq_true rfl) (Nat.le_of_ble_eq_true rfl) (fun r9 J_27 hq9 => ?_)
      obtain ⟨z_27, rfl, hz_27, h2, f2, k2⟩ := hq9
      refine tz_if_eq (pc := 30) (tgt := 37) dX7_compared_30 (by decide) (by omega) (fun h_30 => ?_) (fun h_30 => ?_)
      · refine tz_iconst (pc := 37) dX7_compared_37 ?_
        exact tz_iret (pc := 38) (z := 3) dX7_compared_38 rfl (Nat.le_of_ble_eq_true rfl) (Nat.le_of_ble_eq_true rfl) ⟨Nat.le_refl _, Nat.le_add_right _ _⟩ ⟨_, rfl, (by decide), (by first | exact ⟨f2.tr f1, k2.trans k1⟩ | exact ⟨f1, k1⟩ | exact ⟨zOf.rf, rfl⟩)⟩
      · refine tz_iconst (pc := 33) dX7_compared_33 ?_
        refine tz_goto (pc := 34) (tgt := 38) dX7_compared_34 (by decide) ?_
        exact tz_iret (pc := 38) (z := 2) dX7_compared_38 rfl (Nat.le_of_ble_eq_true rfl) (Nat.le_of_ble_eq_true rfl) ⟨Nat.le_refl _, Nat.le_add_right _ _⟩ ⟨_, rfl, (by decide), (by first | exact ⟨f2.tr f1, k2.trans k1⟩ | exact ⟨f1, k1⟩ | exact ⟨zOf.rf, rfl⟩)⟩
    · refine tz_iconst (pc := 19) dX7_compared_19 ?_
      exact tz_iret (pc := 20) (z := 1) dX7_compared_20 rfl (Nat.le_of_ble_eq_true rfl) (Nat.le_of_ble_eq_true rfl) ⟨Nat.le_refl _, Nat.le_add_right _ _⟩ ⟨_, rfl, (by decide), (by first | exact ⟨f2.tr f1, k2.trans k1⟩ | exact ⟨f1, k1⟩ | exact ⟨zOf.rf, rfl⟩)⟩
  · refine tz_iconst (pc := 5) dX7_compared_5 ?_
    exact tz_iret (pc := 6) (z := 0) dX7_compared_6 rfl (Nat.le_of_ble_eq_true rfl) (Nat.le_of_ble_eq_true rfl) ⟨Nat.le_refl _, Nat.le_add_right _ _⟩ ⟨_, rfl, (by decide), (by first | exact ⟨f2.tr f1, k2.trans k1⟩ | exact ⟨f1, k1⟩ | exact ⟨zOf.rf, rfl⟩)⟩

set_option maxHeartbeats 4000000 in
set_option maxRecDepth 100000 in
theorem c_isRule {l : Launch} {G : tb_G} (hl : l.stackTraces = false) (n : Nat) (J : zJ) (x : Int) (y : Int) (hr_x : -2147483648 ≤ x ∧ x < 2147483648) (hr_y : -2147483648 ≤ y ∧ y < 2147483648) (m : Int) (C : CT J m) (hm : J 6 12 = m) : tz_Ok l G M_X7_isRule 9 0 0 [.ref 155, zi x, zi y] n J (zqi (fun z J' => (z = 0 ∨ z = 1) ∧ zOf (zbut [156, 157]) J' J ∧ (z = 1 → (0 ≤ x ∧ x < m) ∧ (0 ≤ y ∧ y < m)) ∧ J' 156 3 = J 156 3)) zN := by
  refine tz_Ok.of hl (by decide +kernel) rfl (tb_c1 rfl) (Nat.le_of_ble_eq_true rfl) ?_
  show tz_At l G M_X7_isRule (tb_rm 9 0 0) none (tb_ZM G 0 0 (zQ n 0 (zqi (fun z J' => (z = 0 ∨ z = 1) ∧ zOf (zbut [156, 157]) J' J ∧ (z = 1 → (0 ≤ x ∧ x < m) ∧ (0 ≤ y ∧ y < m)) ∧ J' 156 3 = J 156 3))) (zX n 0 zN)) 0 0 n J 0 [some (.ref 155), some (zi x), some (zi y)] []
  have hb := C.told
  refine tz_aload_n (pc := 0) dX7_isRule_0 rfl rfl ?_
  refine tz_fR (pc := 1) dX7_isRule_1 fl_X7_21 r_155_1 ?_
  refine tz_iload_n (pc := 4) dX7_isRule_4 rfl rfl ?_
  refine tz_cV (pc := 5) (c_has hl n _ _ (by omega)) vl_X7_40 dX7_isRule_5 o_6 rfl rfl (Nat.le_of_ble_eq_true rfl) ⟨(Nat.le_of_ble_eq_true rfl), (Nat.le_of_ble_eq_true rfl)⟩ rfl rfl (Nat.le_of_ble_eq_true rfl) (Nat.le_of_ble_eq_true rfl) (fun r9 J_5 hq9 => ?_)
  obtain ⟨z_5, rfl, hz_5, rfl, rfl⟩ := hq9
  by_cases hw_8 : 0 ≤ x ∧ x < J 6 12
  · rw [show (if 0 ≤ x ∧ x < J 6 12 then 1 else 0 : Int) = 1 from if_pos hw_8]
    refine tz_if_eqF (pc := 8) (tgt := 77) (by decide) dX7_isRule_8 (by decide) (by decide) ?_
    refine tz_aload_n (pc := 11) dX7_isRule_11 rfl rfl ?_
    refine tz_fR (pc := 12) dX7_isRule_12 fl_X7_21 r_155_1 ?_
    refine tz_iload_n (pc := 15) dX7_isRule_15 rfl rfl ?_
    refine tz_cV (pc := 16) (c_has hl n _ _ (by omega)) vl_X7_40 dX7_isRule_16 o_6 rfl rfl (Nat.le_of_ble_eq_true rfl) ⟨(Nat.le_of_ble_eq_true rfl), (Nat.le_of_ble_eq_true rfl)⟩ rfl rfl (Nat.le_of_ble_eq_true rfl) (Nat.le_of_ble_eq_true rfl) (fun r9 J_16 hq9 => ?_)
    obtain ⟨z_16, rfl, hz_16, rfl, rfl⟩ := hq9
    by_cases hw_19 : 0 ≤ y ∧ y < J 6 12
    · rw [show (if 0 ≤ y ∧ y < J 6 12 then 1 else 0 : Int) = 1 from if_pos hw_19]
      refine tz_if_eqF (pc := 19) (tgt := 77) (by decide) dX7_isRule_19 (by decide) (by decide) ?_
      refine tz_aload_n (pc := 22) dX7_isRule_22 rfl rfl ?_
      refine tz_fR (pc := 23) dX7_isRule_23 fl_X7_21 r_155_1 ?_
      refine tz_iload_n (pc := 26) dX7_isRule_26 rfl rfl ?_
      refine tz_cV (pc := 27) (c_isVar hl n _ _ (by omega) (by omega)) vl_X7_46 dX7_isRule_27 o_6 rfl rfl (Nat.le_of_ble_eq_true rfl) ⟨(Nat.le_of_ble_eq_true rfl), (Nat.le_of_ble_eq_true rfl)⟩ rfl rfl (Nat.le_of_ble_eq_true rfl) (Nat.le_of_ble_eq_true rfl) (fun r9 J_27 hq9 => ?_)
      obtain ⟨z_27, rfl, hz_27, rfl, rfl⟩ := hq9
      by_cases hw_30 : J 7 x < 0
      · rw [show (if J 7 x < 0 then 1 else 0 : Int) = 1 from if_pos hw_30]
        refine tz_if_neT (pc := 30) (tgt := 77) (by decide) dX7_isRule_30 (by decide) (by decide) ?_
        refine tz_iconst (pc := 77) dX7_isRule_77 ?_
        exact tz_zret (pc := 78) (z := 0) dX7_isRule_78 rfl (Or.inl rfl) (Nat.le_of_ble_eq_true rfl) (Nat.le_of_ble_eq_true rfl) ⟨Nat.le_refl _, Nat.le_add_right _ _⟩ ⟨_, rfl, (by decide), (by first | exact ⟨by omega, f1, fun _ => by omega, k1⟩ | exact ⟨Or.inl rfl, zOf.rf, fun e => by omega, rfl⟩)⟩
      · rw [show (if J 7 x < 0 then 1 else 0 : Int) = 0 from if_neg hw_30]
        refine tz_if_neF (pc := 30) (tgt := 77) (by decide) dX7_isRule_30 (by decide) (by decide) ?_
        refine tz_aload_n (pc := 33) dX7_isRule_33 rfl rfl ?_
        refine tz_fR (pc := 34) dX7_isRule_34 fl_X7_21 r_155_1 ?_
        refine tz_fR (pc := 37) dX7_isRule_37 fl_X7_49 r_6_4 ?_
        refine tz_iload_n (pc := 40) dX7_isRule_40 rfl rfl ?_
        refine tz_aL (pc := 41) (z := x) (v := (J 10 x)) dX7_isRule_41 a_10 rfl (by omega) rfl (fun r_41 => ?_)
        refine tz_bipush (pc := 42) dX7_isRule_42 (by decide) ?_
        refine tz_icmp_gt (pc := 44) (tgt := 77) dX7_isRule_44 (by decide) (by omega) (by decide) (fun h_44 => ?_) (fun h_44 => ?_)
        · refine tz_iconst (pc := 77) dX7_isRule_77 ?_
          exact tz_zret (pc := 78) (z := 0) dX7_isRule_78 rfl (Or.inl rfl) (Nat.le_of_ble_eq_true rfl) (Nat.le_of_ble_eq_true rfl) ⟨Nat.le_refl _, Nat.le_add_right _ _⟩ ⟨_, rfl, (by decide), (by first | exact ⟨by omega, f1, fun _ => by omega, k1⟩ | exact ⟨Or.inl rfl, zOf.rf, fun e => by omega, rfl⟩)⟩
        · refine tz_aload_n (pc := 47) dX7_isRule_47 rfl rfl ?_
          refine tz_fR (pc := 48) dX7_isRule_48 fl_X7_21 r_155_1 ?_
          refine tz_fR (pc := 51) dX7_isRule_51 fl_X7_49 r_6_4 ?_
          refine tz_iload_n (pc := 54) dX7_isRule_54 rfl rfl ?_
          refine tz_aL (pc := 55) (z := y) (v := (J 10 y)) dX7_isRule_55 a_10 rfl (by omega) rfl (fun r_55 => ?_)
          refine tz_bipush (pc := 56) dX7_isRule_56 (by decide) ?_
          refine tz_icmp_gt (pc := 58) (tgt := 77) dX7_isRule_58 (by decide) (by omega) (by decide) (fun h_58 => ?_) (fun h_58 => ?_)
          · refine tz_iconst (pc := 77) dX7_isRule_77 ?_
            exact tz_zret (pc := 78) (z := 0) dX7_isRule_78 rfl (Or.inl rfl) (Nat.le_of_ble_eq_true rfl) (Nat.le_of_ble_eq_true rfl) ⟨Nat.le_refl _, Nat.le_add_right _ _⟩ ⟨_, rfl, (by decide), (by first | exact ⟨by omega, f1, fun _ => by omega, k1⟩ | exact ⟨Or.inl rfl, zOf.rf, fun e => by omega, rfl⟩)⟩
          · refine tz_aload_n (pc := 61) dX7_isRule_61 rfl rfl ?_
            refine tz_fR (pc := 62) dX7_isRule_62 fl_X7_30 r_155_4 ?_
            refine tz_iload_n (pc := 65) dX7_isRule_65 rfl rfl ?_
            refine tz_iload_n (pc := 66) dX7_isRule_66 rfl rfl ?_
            refine tz_cV (pc := 67) (c_greater hl n _ _ _ (by omega) (by omega) m C (by omega) (by omega)) vl_X7_34 dX7_isRule_67 o_156 rfl rfl (Nat.le_of_ble_eq_true rfl) ⟨(Nat.le_of_ble_eq_true rfl), (Nat.le_of_ble_eq_true rfl)⟩ rfl rfl (Nat.le_of_ble_eq_true rfl) (Nat.le_of_ble_eq_true rfl) (fun r9 J_67 hq9 => ?_)
            obtain ⟨z_67, rfl, hz_67, h1, f1, k1⟩ := hq9
            refine tz_if_eq (pc := 70) (tgt := 77) dX7_isRule_70 (by decide) (by omega) (fun h_70 => ?_) (fun h_70 => ?_)
            · refine tz_iconst (pc := 77) dX7_isRule_77 ?_
              exact tz_zret (pc := 78) (z := 0) dX7_isRule_78 rfl (Or.inl rfl) (Nat.le_of_ble_eq_true rfl) (Nat.le_of_ble_eq_true rfl) ⟨Nat.le_refl _, Nat.le_add_right _ _⟩ ⟨_, rfl, (by decide), (by first | exact ⟨by omega, f1, fun _ => by omega, k1⟩ | exact ⟨Or.inl rfl, zOf.rf, fun e => by omega, rfl⟩)⟩
            · refine tz_iconst (pc := 73) dX7_isRule_73 ?_
              refine tz_goto (pc := 74) (tgt := 78) dX7_isRule_74 (by decide) ?_
              exact tz_zret (pc := 78) (z := 1) dX7_isRule_78 rfl (Or.inr rfl) (Nat.le_of_ble_eq_true rfl) (Nat.le_of_ble_eq_true rfl) ⟨Nat.le_refl _, Nat.le_add_right _ _⟩ ⟨_, rfl, (by decide), (by first | exact ⟨by omega, f1, fun _ => by omega, k1⟩ | exact ⟨Or.inl rfl, zOf.rf, fun e => by omega, rfl⟩)⟩
    · rw [show (if 0 ≤ y ∧ y < J 6 12 then 1 else 0 : Int) = 0 from if_neg hw_19]
      refine tz_if_eqT (pc := 19) (tgt := 77) (by decide) dX7_isRule_19 (by decide) (by decide) ?_
      refine tz_iconst (pc := 77) dX7_isRule_77 ?_
      exact tz_zret (pc := 78) (z := 0) dX7_isRule_78 rfl (Or.inl rfl) (Nat.le_of_ble_eq_true rfl) (Nat.le_of_ble_eq_true rfl) ⟨Nat.le_refl _, Nat.le_add_right _ _⟩ ⟨_, rfl, (by decide), (by first | exact ⟨by omega, f1, fun _ => by omega, k1⟩ | exact ⟨Or.inl rfl, zOf.rf, fun e => by omega, rfl⟩)⟩
  · rw [show (if 0 ≤ x ∧ x < J 6 12 then 1 else 0 : Int) = 0 from if_neg hw_8]
    refine tz_if_eqT (pc := 8) (tgt := 77) (by decide) dX7_isRule_8 (by decide) (by decide) ?_
    refine tz_iconst (pc := 77) dX7_isRule_77 ?_
    exact tz_zret (pc := 78) (z := 0) dX7_isRule_78 rfl (Or.inl rfl) (Nat.le_of_ble_eq_true rfl) (Nat.le_of_ble_eq_true rfl) ⟨Nat.le_refl _, Nat.le_add_right _ _⟩ ⟨_, rfl, (by decide), (by first | exact ⟨by omega, f1, fun _ => by omega, k1⟩ | exact ⟨Or.inl rfl, zOf.rf, fun e => by omega, rfl⟩)⟩

set_option maxHeartbeats 4000000 in
set_option maxRecDepth 100000 in
theorem c_fitsBy {l : Launch} {G : tb_G} (hl : l.stackTraces = false) (n : Nat) (J : zJ) (s : Int) (u : Int) (hr_s : -2147483648 ≤ s ∧ s < 2147483648) (hr_u : -2147483648 ≤ u ∧ u < 2147483648) (m : Int) (C : CT J m) (hm : J 6 12 = m) (hL : LI (J 19) m) : tz_Ok l G M_X7_fitsBy 10 0 0 [.ref 155, zi s, zi u] n J (zqi (fun z J' => (z = 0 ∨ z = 1) ∧ zOf (zbut [156, 157]) J' J ∧ J' 156 3 = -1)) zN := by
  refine tz_Ok.of hl (by decide +kernel) rfl (tb_c1 rfl) (Nat.le_of_ble_eq_true rfl) ?_
  show tz_At l G M_X7_fitsBy (tb_rm 10 0 0) none (tb_ZM G 0 0 (zQ n 0 (zqi (fun z J' => (z = 0 ∨ z = 1) ∧ zOf (zbut [156, 157]) J' J ∧ J' 156 3 = -1))) (zX n 0 zN)) 0 0 n J 0 [some (.ref 155), some (zi s), some (zi u), none, none, none] []
  have hb := C.told
  have h4 := hL.1.2.1
  refine tz_aload_n (pc := 0) dX7_fitsBy_0 rfl rfl ?_
  refine tz_fR (pc := 1) dX7_fitsBy_1 fl_X7_9 r_155_0 ?_
  refine tz_fR (pc := 4) dX7_fitsBy_4 fl_X7_56 r_5_1 ?_
  refine tz_fR (pc := 7) dX7_fitsBy_7 fl_X7_60 r_18_0 ?_
  refine tz_astore_n (pc := 10) (L2 := [_, _, _, _, _, _]) dX7_fitsBy_10 rfl (by decide) rfl ?_
  refine tz_iconst (pc := 11) dX7_fitsBy_11 ?_
  refine tz_istore (pc := 12) (L2 := [_, _, _, _, _, _]) dX7_fitsBy_12 (by decide) rfl ?_
  refine tz_aload_n (pc := 14) dX7_fitsBy_14 rfl rfl ?_
  refine tz_fR (pc := 15) dX7_fitsBy_15 fl_X7_30 r_155_4 ?_
  refine tz_iload_n (pc := 18) dX7_fitsBy_18 rfl rfl ?_
  refine tz_iload_n (pc := 19) dX7_fitsBy_19 rfl rfl ?_
  refine tz_cV (pc := 20) (c_tryW hl n _ _ _ (by omega) (by omega)) vl_X7_65 dX7_fitsBy_20 o_156 rfl rfl (Nat.le_of_ble_eq_true rfl) ⟨(Nat.le_of_ble_eq_true rfl), (Nat.le_of_ble_eq_true rfl)⟩ rfl rfl (Nat.le_of_ble_eq_true rfl) (Nat.le_of_ble_eq_true rfl) (fun r9 J_20 hq9 => ?_)
  obtain ⟨rfl, rfl⟩ := hq9
  refine tz_iconst (pc := 23) dX7_fitsBy_23 ?_
  refine tz_istore (pc := 24) (L2 := [_, _, _, _, _, _]) dX7_fitsBy_24 (by decide) rfl ?_
  have loop26 : ∀ (f9 : Nat) (q : Int) (i : Int) (J1 : zJ), ((8 - i).toNat) < f9 → (q = 0 ∨ q = 1) → (0 ≤ i ∧ i ≤ J 19 4) → (zOf (zbut [156, 157]) J1 J) → tz_At l G M_X7_fitsBy (tb_rm 10 0 0) none (tb_ZM G 0 0 (zQ n 0 (zqi (fun z J' => (z = 0 ∨ z = 1) ∧ zOf (zbut [156, 157]) J' J ∧ J' 156 3 = -1))) (zX n 0 zN)) 0 0 n J1 26 [some (.ref 155), some (zi s), some (zi u), some (.ref 19), some (zi q), some (zi i)] [] := by
    intro f9
    induction f9 with
    | zero => intro q i J1 hm9; exact absurd hm9 (Nat.not_lt_zero _)
    | succ f9 ih26 =>
      intro q i J1 hm26 hq hi f1
      have e9 := hL.2.2.1 i
      refine tz_iload (pc := 26) dX7_fitsBy_26 rfl ?_
      refine tz_aload_n (pc := 28) dX7_fitsBy_28 rfl rfl ?_
      refine tz_iconst (pc := 29) dX7_fitsBy_29 ?_
      refine tz_aL (pc := 30) (z := 4) (v := (J 19 4)) dX7_fitsBy_30 a_19 rfl (by decide) (Eq.trans (congrFun (f1 19 rfl) 4) rfl) (fun r_30 => ?_)
      refine tz_icmp_ge (pc := 31) (tgt := 65) dX7_fitsBy_31 (by decide) (by omega) (by omega) (fun h_31 => ?_) (fun h_31 => ?_)
      · refine tz_aload_n (pc := 65) dX7_fitsBy_65 rfl rfl ?_
        refine tz_fR (pc := 66) dX7_fitsBy_66 fl_X7_30 r_155_4 ?_
        refine tz_cV (pc := 69) (c_tryN hl n _) vl_X7_72 dX7_fitsBy_69 o_156 rfl rfl (Nat.le_of_ble_eq_true rfl) ⟨(Nat.le_of_ble_eq_true rfl), (Nat.le_of_ble_eq_true rfl)⟩ rfl rfl (Nat.le_of_ble_eq_true rfl) (Nat.le_of_ble_eq_true rfl) (fun r9 J_69 hq9 => ?_)
        obtain ⟨rfl, rfl⟩ := hq9
        refine tz_iload (pc := 72) dX7_fitsBy_72 rfl ?_
        exact tz_zret (pc := 74) (z := q) dX7_fitsBy_74 rfl (by omega) (Nat.le_of_ble_eq_true rfl) (Nat.le_of_ble_eq_true rfl) ⟨Nat.le_refl _, Nat.le_add_right _ _⟩ ⟨_, rfl, (by omega), ⟨hq, zOf.up rfl f1, zup_at⟩⟩
      · refine tz_iload (pc := 34) dX7_fitsBy_34 rfl ?_
        refine tz_if_eq (pc := 36) (tgt := 65) dX7_fitsBy_36 (by decide) (by omega) (fun h_36 => ?_) (fun h_36 => ?_)
        · refine tz_aload_n (pc := 65) dX7_fitsBy_65 rfl rfl ?_
          refine tz_fR (pc := 66) dX7_fitsBy_66 fl_X7_30 r_155_4 ?_
          refine tz_cV (pc := 69) (c_tryN hl n _) vl_X7_72 dX7_fitsBy_69 o_156 rfl rfl (Nat.le_of_ble_eq_true rfl) ⟨(Nat.le_of_ble_eq_true rfl), (Nat.le_of_ble_eq_true rfl)⟩ rfl rfl (Nat.le_of_ble_eq_true rfl) (Nat.le_of_ble_eq_true rfl) (fun r9 J_69 hq9 => ?_)
          obtain ⟨rfl, rfl⟩ := hq9
          refine tz_iload (pc := 72) dX7_fitsBy_72 rfl ?_
          exact tz_zret (pc := 74) (z := q) dX7_fitsBy_74 rfl (by omega) (Nat.le_of_ble_eq_true rfl) (Nat.le_of_ble_eq_true rfl) ⟨Nat.le_refl _, Nat.le_add_right _ _⟩ ⟨_, rfl, (by omega), ⟨hq, zOf.up rfl f1, zup_at⟩⟩
        · refine tz_aload_n (pc := 39) dX7_fitsBy_39 rfl rfl ?_
          refine tz_aload_n (pc := 40) dX7_fitsBy_40 rfl rfl ?_
          refine tz_bipush (pc := 41) dX7_fitsBy_41 (by decide) ?_
          refine tz_iload (pc := 43) dX7_fitsBy_43 rfl ?_
          refine tz_iadd (pc := 45) (v := 15 + i) dX7_fitsBy_45 rfl ?_
          refine tz_aL (pc := 46) (z := (15 + i)) (v := (J 19 (15 + i))) dX7_fitsBy_46 a_19 rfl (by omega) (Eq.trans (congrFun (f1 19 rfl) (15 + i)) rfl) (fun r_46 => ?_)
          refine tz_aload_n (pc := 47) dX7_fitsBy_47 rfl rfl ?_
          refine tz_bipush (pc := 48) dX7_fitsBy_48 (by decide) ?_
          refine tz_iload (pc := 50) dX7_fitsBy_50 rfl ?_
          refine tz_iadd (pc := 52) (v := 23 + i) dX7_fitsBy_52 rfl ?_
          refine tz_aL (pc := 53) (z := (23 + i)) (v := (J 19 (23 + i))) dX7_fitsBy_53 a_19 rfl (by omega) (Eq.trans (congrFun (f1 19 rfl) (23 + i)) rfl) (fun r_53 => ?_)
          refine tz_cV (pc := 54) (c_isRule hl n _ _ _ (by omega) (by omega) m (C.of (fun c hc => f1 c (by simp [zbut]; omega))) (by rw [f1 6 rfl]; exact hm)) vl_X7_69 dX7_fitsBy_54 o_155 rfl rfl (Nat.le_of_ble_eq_true rfl) ⟨(Nat.le_of_ble_eq_true rfl), (Nat.le_of_ble_eq_true rfl)⟩ rfl rfl (Nat.le_of_ble_eq_true rfl) (Nat.le_of_ble_eq_true rfl) (fun r9 J_54 hq9 => ?_)
          obtain ⟨z_54, rfl, hz_54, i1, i2, -⟩ := hq9
          refine tz_istore (pc := 57) (L2 := [_, _, _, _, _, _]) dX7_fitsBy_57 (by decide) rfl ?_
          refine tz_iinc (pc := 59) (z := i + 1) (L2 := [_, _, _, _, _, _]) dX7_fitsBy_59 rfl (by omega) rfl ?_
          refine tz_goto (pc := 62) (tgt := 26) dX7_fitsBy_62 (by decide) ?_
          exact ih26 _ (i + 1) _ (by omega) i1 (by omega) (i2.tr f1)
  exact loop26 _ 1 0 _ (Nat.lt_succ_self _) (Or.inr rfl) (by omega) (zOf.up rfl (zOf.up rfl zOf.rf))

set_option maxHeartbeats 4000000 in
set_option maxRecDepth 100000 in
theorem c_fits {l : Launch} {G : tb_G} (hl : l.stackTraces = false) (n : Nat) (J : zJ) (s : Int) (hr_s : -2147483648 ≤ s ∧ s < 2147483648) (m : Int) (C : CT J m) (hm : J 6 12 = m) (hL : LI (J 19) m) : tz_Ok l G M_X7_fits 11 0 0 [.ref 155, zi s] n J (zqi (fun z J' => zOf (zbut [156, 157]) J' J ∧ (J 156 3 = -1 → J' 156 3 = -1))) zN := by
  refine tz_Ok.of hl (by decide +kernel) rfl (tb_c1 rfl) (Nat.le_of_ble_eq_true rfl) ?_
  show tz_At l G M_X7_fits (tb_rm 11 0 0) none (tb_ZM G 0 0 (zQ n 0 (zqi (fun z J' => zOf (zbut [156, 157]) J' J ∧ (J 156 3 = -1 → J' 156 3 = -1)))) (zX n 0 zN)) 0 0 n J 0 [some (.ref 155), some (zi s), none, none] []
  refine tz_iconst (pc := 0) dX7_fits_0 ?_
  refine tz_istore_n (pc := 1) (L2 := [_, _, _, _]) dX7_fits_1 rfl (by decide) rfl ?_
  refine tz_iconst (pc := 2) dX7_fits_2 ?_
  refine tz_istore_n (pc := 3) (L2 := [_, _, _, _]) dX7_fits_3 rfl (by decide) rfl ?_
  have loop4 : ∀ (f9 : Nat) (q : Int) (u : Int) (J1 : zJ), ((10 - u).toNat) < f9 → ((1 ≤ u ∧ u ≤ 10) ∧ 0 ≤ q ∧ q < u) → (zOf (zbut [156, 157]) J1 J) → (J 156 3 = -1 → J1 156 3 = -1) → tz_At l G M_X7_fits (tb_rm 11 0 0) none (tb_ZM G 0 0 (zQ n 0 (zqi (fun z J' => zOf (zbut [156, 157]) J' J ∧ (J 156 3 = -1 → J' 156 3 = -1)))) (zX n 0 zN)) 0 0 n J1 4 [some (.ref 155), some (zi s), some (zi q), some (zi u)] [] := by
    intro f9
    induction f9 with
    | zero => intro q u J1 hm9; exact absurd hm9 (Nat.not_lt_zero _)
    | succ f9 ih4 =>
      intro q u J1 hm4 hu f1 k1
      refine tz_iload_n (pc := 4) dX7_fits_4 rfl rfl ?_
      refine tz_bipush (pc := 5) dX7_fits_5 (by decide) ?_
      refine tz_icmp_gt (pc := 7) (tgt := 33) dX7_fits_7 (by decide) (by omega) (by decide) (fun h_7 => ?_) (fun h_7 => ?_)
      · refine tz_iload_n (pc := 33) dX7_fits_33 rfl rfl ?_
        exact tz_iret (pc := 34) (z := q) dX7_fits_34 rfl (Nat.le_of_ble_eq_true rfl) (Nat.le_of_ble_eq_true rfl) ⟨Nat.le_refl _, Nat.le_add_right _ _⟩ ⟨_, rfl, (by omega), ⟨f1, k1⟩⟩
      · refine tz_iload_n (pc := 10) dX7_fits_10 rfl rfl ?_
        refine tz_aload_n (pc := 11) dX7_fits_11 rfl rfl ?_
        refine tz_iload_n (pc := 12) dX7_fits_12 rfl rfl ?_
        refine tz_iload_n (pc := 13) dX7_fits_13 rfl rfl ?_
        refine tz_cV (pc := 14) (c_fitsBy hl n _ _ _ (by omega) (by omega) m (C.of (fun c hc => f1 c (by simp [zbut]; omega))) (by rw [f1 6 rfl]; exact hm) (by rw [f1 19 rfl]; exact hL)) vl_X7_53 dX7_fits_14 o_155 rfl rfl (Nat.le_of_ble_eq_true rfl) ⟨(Nat.le_of_ble_eq_true rfl), (Nat.le_of_ble_eq_true rfl)⟩ rfl rfl (Nat.le_of_ble_eq_true rfl) (Nat.le_of_ble_eq_true rfl) (fun r9 J_14 hq9 => ?_)
        obtain ⟨z_14, rfl, hz_14, i1, i2, i3⟩ := hq9
        refine tz_if_eq (pc := 17) (tgt := 24) dX7_fits_17 (by decide) (by omega) (fun h_17 => ?_) (fun h_17 => ?_)
        · refine tz_iconst (pc := 24) dX7_fits_24 ?_
          refine tz_iadd (pc := 25) (v := q + 0) dX7_fits_25 rfl ?_
          refine tz_istore_n (pc := 26) (L2 := [_, _, _, _]) dX7_fits_26 rfl (by decide) rfl ?_
          refine tz_iinc (pc := 27) (z := u + 1) (L2 := [_, _, _, _]) dX7_fits_27 rfl (by omega) rfl ?_
          refine tz_goto (pc := 30) (tgt := 4) dX7_fits_30 (by decide) ?_
          exact ih4 _ (u + 1) _ (by omega) (by omega) (i2.tr f1) (fun _ => i3)
        · refine tz_iconst (pc := 20) dX7_fits_20 ?_
          refine tz_goto (pc := 21) (tgt := 25) dX7_fits_21 (by decide) ?_
          refine tz_iadd (pc := 25) (v := q + 1) dX7_fits_25 rfl ?_
          refine tz_istore_n (pc := 26) (L2 := [_, _, _, _]) dX7_fits_26 rfl (by decide) rfl ?_
          refine tz_iinc (pc := 27) (z := u + 1) (L2 := [_, _, _, _]) dX7_fits_27 rfl (by omega) rfl ?_
          refine tz_goto (pc := 30) (tgt := 4) dX7_fits_30 (by decide) ?_
          exact ih4 _ (u + 1) _ (by omega) (by omega) (i2.tr f1) (fun _ => i3)
  exact loop4 _ 0 1 _ (Nat.lt_succ_self _) (by omega) zOf.rf id

set_option maxHeartbeats 4000000 in
set_option maxRecDepth 100000 in
theorem c_leastFit {l : Launch} {G : tb_G} (hl : l.stackTraces = false) (n : Nat) (J : zJ) (s : Int) (hr_s : -2147483648 ≤ s ∧ s < 2147483648) (m : Int) (C : CT J m) (hm : J 6 12 = m) (hL : LI (J 19) m) : tz_Ok l G M_X7_leastFit 11 0 0 [.ref 155, zi s] n J (zqi (fun z J' => zOf (zbut [156, 157]) J' J ∧ (J 156 3 = -1 → J' 156 3 = -1))) zN := by
  refine tz_Ok.of hl (by decide +kernel) rfl (tb_c1 rfl) (Nat.le_of_ble_eq_true rfl) ?_
  show tz_At l G M_X7_leastFit (tb_rm 11 0 0) none (tb_ZM G 0 0 (zQ n 0 (zqi (fun z J' => zOf (zbut [156, 157]) J' J ∧ (J 156 3 = -1 → J' 156 3 = -1)))) (zX n 0 zN)) 0 0 n J 0 [some (.ref 155), some (zi s), none] []
  refine tz_iconst (pc := 0) dX7_leastFit_0 ?_
  refine tz_istore_n (pc := 1) (L2 := [_, _, _]) dX7_leastFit_1 rfl (by decide) rfl ?_
  have loop2 : ∀ (f9 : Nat) (u : Int) (J1 : zJ), ((10 - u).toNat) < f9 → (1 ≤ u ∧ u ≤ 10) → (zOf (zbut [156, 157]) J1 J) → (J 156 3 = -1 → J1 156 3 = -1) → tz_At l G M_X7_leastFit (tb_rm 11 0 0) none (tb_ZM G 0 0 (zQ n 0 (zqi (fun z J' => zOf (zbut [156, 157]) J' J ∧ (J 156 3 = -1 → J' 156 3 = -1)))) (zX n 0 zN)) 0 0 n J1 2 [some (.ref 155), some (zi s), some (zi u)] [] := by
    intro f9
    induction f9 with
    | zero => intro u J1 hm9; exact absurd hm9 (Nat.not_lt_zero _)
    | succ f9 ih2 =>
      intro u J1 hm2 hu f1 k1
      refine tz_iload_n (pc := 2) dX7_leastFit_2 rfl rfl ?_
      refine tz_bipush (pc := 3) dX7_leastFit_3 (by decide) ?_
      refine tz_icmp_gt (pc := 5) (tgt := 25) dX7_leastFit_5 (by decide) (by omega) (by decide) (fun h_5 => ?_) (fun h_5 => ?_)
      · refine tz_iconst (pc := 25) dX7_leastFit_25 ?_
        exact tz_iret (pc := 26) (z := (-1)) dX7_leastFit_26 rfl (Nat.le_of_ble_eq_true rfl) (Nat.le_of_ble_eq_true rfl) ⟨Nat.le_refl _, Nat.le_add_right _ _⟩ ⟨_, rfl, (by decide), (by first | exact ⟨i2.tr f1, fun _ => i3⟩ | exact ⟨f1, k1⟩)⟩
      · refine tz_aload_n (pc := 8) dX7_leastFit_8 rfl rfl ?_
        refine tz_iload_n (pc := 9) dX7_leastFit_9 rfl rfl ?_
        refine tz_iload_n (pc := 10) dX7_leastFit_10 rfl rfl ?_
        refine tz_cV (pc := 11) (c_fitsBy hl n _ _ _ (by omega) (by omega) m (C.of (fun c hc => f1 c (by simp [zbut]; omega))) (by rw [f1 6 rfl]; exact hm) (by rw [f1 19 rfl]; exact hL)) vl_X7_53 dX7_leastFit_11 o_155 rfl rfl (Nat.le_of_ble_eq_true rfl) ⟨(Nat.le_of_ble_eq_true rfl), (Nat.le_of_ble_eq_true rfl)⟩ rfl rfl (Nat.le_of_ble_eq_true rfl) (Nat.le_of_ble_eq_true rfl) (fun r9 J_11 hq9 => ?_)
        obtain ⟨z_11, rfl, hz_11, i1, i2, i3⟩ := hq9
        refine tz_if_eq (pc := 14) (tgt := 19) dX7_leastFit_14 (by decide) (by omega) (fun h_14 => ?_) (fun h_14 => ?_)
        · refine tz_iinc (pc := 19) (z := u + 1) (L2 := [_, _, _]) dX7_leastFit_19 rfl (by omega) rfl ?_
          refine tz_goto (pc := 22) (tgt := 2) dX7_leastFit_22 (by decide) ?_
          exact ih2 (u + 1) _ (by omega) (by omega) (i2.tr f1) (fun _ => i3)
        · refine tz_iload_n (pc := 17) dX7_leastFit_17 rfl rfl ?_
          exact tz_iret (pc := 18) (z := u) dX7_leastFit_18 rfl (Nat.le_of_ble_eq_true rfl) (Nat.le_of_ble_eq_true rfl) ⟨Nat.le_refl _, Nat.le_add_right _ _⟩ ⟨_, rfl, (by omega), (by first | exact ⟨i2.tr f1, fun _ => i3⟩ | exact ⟨f1, k1⟩)⟩
  exact loop2 _ 1 _ (Nat.lt_succ_self _) (by omega) zOf.rf id

set_option maxHeartbeats 4000000 in
set_option maxRecDepth 100000 in
theorem c_leftOf {l : Launch} {G : tb_G} (hl : l.stackTraces = false) (n : Nat) (J : zJ) (i : Int) (hr_i : -2147483648 ≤ i ∧ i < 2147483648)  (hi : 0 ≤ i ∧ i < 8) : tz_Ok l G M_X7_leftOf 0 0 0 [.ref 155, zi i] n J (zqi (fun z J' => J = J' ∧ J 19 (15 + i) = z)) zN := by
  refine tz_Ok.of hl (by decide +kernel) rfl (tb_c1 rfl) (Nat.le_of_ble_eq_true rfl) ?_
  show tz_At l G M_X7_leftOf (tb_rm 0 0 0) none (tb_ZM G 0 0 (zQ n 0 (zqi (fun z J' => J = J' ∧ J 19 (15 + i) = z))) (zX n 0 zN)) 0 0 n J 0 [some (.ref 155), some (zi i)] []
  refine tz_aload_n (pc := 0) dX7_leftOf_0 rfl rfl ?_
  refine tz_fR (pc := 1) dX7_leftOf_1 fl_X7_9 r_155_0 ?_
  refine tz_fR (pc := 4) dX7_leftOf_4 fl_X7_56 r_5_1 ?_
  refine tz_fR (pc := 7) dX7_leftOf_7 fl_X7_60 r_18_0 ?_
  refine tz_bipush (pc := 10) dX7_leftOf_10 (by decide) ?_
  refine tz_iload_n (pc := 12) dX7_leftOf_12 rfl rfl ?_
  refine tz_iadd (pc := 13) (v := 15 + i) dX7_leftOf_13 rfl ?_
  refine tz_aL (pc := 14) (z := (15 + i)) (v := (J 19 (15 + i))) dX7_leftOf_14 a_19 rfl (by omega) rfl (fun r_14 => ?_)
  exact tz_iret (pc := 15) (z := (J 19 (15 + i))) dX7_leftOf_15 rfl (Nat.le_of_ble_eq_true rfl) (Nat.le_of_ble_eq_true rfl) ⟨Nat.le_refl _, Nat.le_add_right _ _⟩ ⟨_, rfl, (by omega), ⟨rfl, rfl⟩⟩

set_option maxHeartbeats 4000000 in
set_option maxRecDepth 100000 in
theorem c_meet {l : Launch} {G : tb_G} (hl : l.stackTraces = false) (n : Nat) (J : zJ) (i : Int) (p : Int) (j : Int) (hr_i : -2147483648 ≤ i ∧ i < 2147483648) (hr_p : -2147483648 ≤ p ∧ p < 2147483648) (hr_j : -2147483648 ≤ j ∧ j < 2147483648) (m : Int) (C : CT J m) (hL : LI (J 19) m) (hi : 0 ≤ i ∧ i < J 19 4) (hj : 0 ≤ j ∧ j < J 19 4) (hp : 0 ≤ p ∧ p < J 10 (J 19 (15 + i))) (hR : RU J) (h9 : J 145 10 < 2000000000) : tz_Ok l G M_X7_meet 5 0 0 [.ref 155, zi i, zi p, zi j] n J (zqi (fun z J' => (z = 0 ∨ z = 1) ∧ RU J' ∧ (J 145 10 ≤ J' 145 10 ∧ J' 145 10 ≤ J 145 10 + 1) ∧  zOf (zbut [145, 146, 147, 148, 149, 150, 151, 152, 153, 154]) J' J)) zN := by
  refine tz_Ok.of hl (by decide +kernel) rfl (tb_c1 rfl) (Nat.le_of_ble_eq_true rfl) ?_
  show tz_At l G M_X7_meet (tb_rm 5 0 0) none (tb_ZM G 0 0 (zQ n 0 (zqi (fun z J' => (z = 0 ∨ z = 1) ∧ RU J' ∧ (J 145 10 ≤ J' 145 10 ∧ J' 145 10 ≤ J 145 10 + 1) ∧  zOf (zbut [145, 146, 147, 148, 149, 150, 151, 152, 153, 154]) J' J))) (zX n 0 zN)) 0 0 n J 0 [some (.ref 155), some (zi i), some (zi p), some (zi j), none] []
  have hb := C.told
  have h4 := hL.1.2.1
  have hli := (hL.2.2.1 i hi.1 hi.2).1
  have hlj := (hL.2.2.1 j hj.1 hj.2).1
  refine tz_iload_n (pc := 0) dX7_meet_0 rfl rfl ?_
  refine tz_iload_n (pc := 1) dX7_meet_1 rfl rfl ?_
  refine tz_icmp_ne (pc := 2) (tgt := 11) dX7_meet_2 (by decide) (by omega) (by omega) (fun h_2 => ?_) (fun h_2 => ?_)
  · refine tz_aload_n (pc := 11) dX7_meet_11 rfl rfl ?_
    refine tz_fR (pc := 12) dX7_meet_12 fl_X7_21 r_155_1 ?_
    refine tz_aload_n (pc := 15) dX7_meet_15 rfl rfl ?_
    refine tz_iload_n (pc := 16) dX7_meet_16 rfl rfl ?_
    refine tz_cV (pc := 17) (c_leftOf hl n _ _ (by omega) (by omega)) vl_X7_75 dX7_meet_17 o_155 rfl rfl (Nat.le_of_ble_eq_true rfl) ⟨(Nat.le_of_ble_eq_true rfl), (Nat.le_of_ble_eq_true rfl)⟩ rfl rfl (Nat.le_of_ble_eq_true rfl) (Nat.le_of_ble_eq_true rfl) (fun r9 J_17 hq9 => ?_)
    obtain ⟨z_17, rfl, hz_17, rfl, rfl⟩ := hq9
    refine tz_iload_n (pc := 20) dX7_meet_20 rfl rfl ?_
    refine tz_cV (pc := 21) (c_inPlace hl n _ _ _ (by omega) (by omega) m C (by omega) (by omega)) vl_X7_83 dX7_meet_21 o_6 rfl rfl (Nat.le_of_ble_eq_true rfl) ⟨(Nat.le_of_ble_eq_true rfl), (Nat.le_of_ble_eq_true rfl)⟩ rfl rfl (Nat.le_of_ble_eq_true rfl) (Nat.le_of_ble_eq_true rfl) (fun r9 J_21 hq9 => ?_)
    obtain ⟨z_21, rfl, hz_21, rfl, hz1⟩ := hq9
    refine tz_istore (pc := 24) (L2 := [_, _, _, _, _]) dX7_meet_24 (by decide) rfl ?_
    refine tz_aload_n (pc := 26) dX7_meet_26 rfl rfl ?_
    refine tz_fR (pc := 27) dX7_meet_27 fl_X7_21 r_155_1 ?_
    refine tz_iload (pc := 30) dX7_meet_30 rfl ?_
    refine tz_cV (pc := 32) (c_isVar hl n _ _ (by omega) (by omega)) vl_X7_46 dX7_meet_32 o_6 rfl rfl (Nat.le_of_ble_eq_true rfl) ⟨(Nat.le_of_ble_eq_true rfl), (Nat.le_of_ble_eq_true rfl)⟩ rfl rfl (Nat.le_of_ble_eq_true rfl) (Nat.le_of_ble_eq_true rfl) (fun r9 J_32 hq9 => ?_)
    obtain ⟨z_32, rfl, hz_32, rfl, rfl⟩ := hq9
    by_cases hw_35 : J 7 z_21 < 0
    · rw [show (if J 7 z_21 < 0 then 1 else 0 : Int) = 1 from if_pos hw_35]
      refine tz_if_neT (pc := 35) (tgt := 63) (by decide) dX7_meet_35 (by decide) (by decide) ?_
      refine tz_iconst (pc := 63) dX7_meet_63 ?_
      exact tz_zret (pc := 64) (z := 0) dX7_meet_64 rfl (Or.inl rfl) (Nat.le_of_ble_eq_true rfl) (Nat.le_of_ble_eq_true rfl) ⟨Nat.le_refl _, Nat.le_add_right _ _⟩ ⟨_, rfl, (by decide), (by first | exact ⟨Or.inl rfl, hR, by omega, zOf.rf⟩ | exact ⟨by omega, w2.rest (by have := hR.1; omega), by omega, w4⟩)⟩
    · rw [show (if J 7 z_21 < 0 then 1 else 0 : Int) = 0 from if_neg hw_35]
      refine tz_if_neF (pc := 35) (tgt := 63) (by decide) dX7_meet_35 (by decide) (by decide) ?_
      refine tz_aload_n (pc := 38) dX7_meet_38 rfl rfl ?_
      refine tz_fR (pc := 39) dX7_meet_39 fl_X7_26 r_155_3 ?_
      refine tz_iload (pc := 42) dX7_meet_42 rfl ?_
      refine tz_aload_n (pc := 44) dX7_meet_44 rfl rfl ?_
      refine tz_iload_n (pc := 45) dX7_meet_45 rfl rfl ?_
      refine tz_cV (pc := 46) (c_leftOf hl n _ _ (by omega) (by omega)) vl_X7_75 dX7_meet_46 o_155 rfl rfl (Nat.le_of_ble_eq_true rfl) ⟨(Nat.le_of_ble_eq_true rfl), (Nat.le_of_ble_eq_true rfl)⟩ rfl rfl (Nat.le_of_ble_eq_true rfl) (Nat.le_of_ble_eq_true rfl) (fun r9 J_46 hq9 => ?_)
      obtain ⟨z_46, rfl, hz_46, rfl, rfl⟩ := hq9
      refine tz_sipush (pc := 49) dX7_meet_49 (by decide) ?_
      refine tz_cV (pc := 52) (c_wayOf hl n _ _ _ _ (by omega) (by omega) (by omega) m C (by omega) (by omega) (Or.inr rfl) hR h9) vl_X7_89 dX7_meet_52 o_145 rfl rfl (Nat.le_of_ble_eq_true rfl) ⟨(Nat.le_of_ble_eq_true rfl), (Nat.le_of_ble_eq_true rfl)⟩ rfl rfl (Nat.le_of_ble_eq_true rfl) (Nat.le_of_ble_eq_true rfl) (fun r9 J_52 hq9 => ?_)
      obtain ⟨z_52, rfl, hz_52, w1, w2, w3, w4⟩ := hq9
      refine tz_iconst (pc := 55) dX7_meet_55 ?_
      refine tz_icmp_ne (pc := 56) (tgt := 63) dX7_meet_56 (by decide) (by omega) (by decide) (fun h_56 => ?_) (fun h_56 => ?_)
      · refine tz_iconst (pc := 63) dX7_meet_63 ?_
        exact tz_zret (pc := 64) (z := 0) dX7_meet_64 rfl (Or.inl rfl) (Nat.le_of_ble_eq_true rfl) (Nat.le_of_ble_eq_true rfl) ⟨Nat.le_refl _, Nat.le_add_right _ _⟩ ⟨_, rfl, (by decide), (by first | exact ⟨Or.inl rfl, hR, by omega, zOf.rf⟩ | exact ⟨by omega, w2.rest (by have := hR.1; omega), by omega, w4⟩)⟩
      · refine tz_iconst (pc := 59) dX7_meet_59 ?_
        refine tz_goto (pc := 60) (tgt := 64) dX7_meet_60 (by decide) ?_
        exact tz_zret (pc := 64) (z := 1) dX7_meet_64 rfl (Or.inr rfl) (Nat.le_of_ble_eq_true rfl) (Nat.le_of_ble_eq_true rfl) ⟨Nat.le_refl _, Nat.le_add_right _ _⟩ ⟨_, rfl, (by decide), (by first | exact ⟨Or.inl rfl, hR, by omega, zOf.rf⟩ | exact ⟨by omega, w2.rest (by have := hR.1; omega), by omega, w4⟩)⟩
  · refine tz_iload_n (pc := 5) dX7_meet_5 rfl rfl ?_
    refine tz_if_ne (pc := 6) (tgt := 11) dX7_meet_6 (by decide) (by omega) (fun h_6 => ?_) (fun h_6 => ?_)
    · refine tz_aload_n (pc := 11) dX7_meet_11 rfl rfl ?_
      refine tz_fR (pc := 12) dX7_meet_12 fl_X7_21 r_155_1 ?_
      refine tz_aload_n (pc := 15) dX7_meet_15 rfl rfl ?_
      refine tz_iload_n (pc := 16) dX7_meet_16 rfl rfl ?_
      refine tz_cV (pc := 17) (c_leftOf hl n _ _ (by omega) (by omega)) vl_X7_75 dX7_meet_17 o_155 rfl rfl (Nat.le_of_ble_eq_true rfl) ⟨(Nat.le_of_ble_eq_true rfl), (Nat.le_of_ble_eq_true rfl)⟩ rfl rfl (Nat.le_of_ble_eq_true rfl) (Nat.le_of_ble_eq_true rfl) (fun r9 J_17 hq9 => ?_)
      obtain ⟨z_17, rfl, hz_17, rfl, rfl⟩ := hq9
      refine tz_iload_n (pc := 20) dX7_meet_20 rfl rfl ?_
      refine tz_cV (pc := 21) (c_inPlace hl n _ _ _ (by omega) (by omega) m C (by omega) (by omega)) vl_X7_83 dX7_meet_21 o_6 rfl rfl (Nat.le_of_ble_eq_true rfl) ⟨(Nat.le_of_ble_eq_true rfl), (Nat.le_of_ble_eq_true rfl)⟩ rfl rfl (Nat.le_of_ble_eq_true rfl) (Nat.le_of_ble_eq_true rfl) (fun r9 J_21 hq9 => ?_)
      obtain ⟨z_21, rfl, hz_21, rfl, hz1⟩ := hq9
      refine tz_istore (pc := 24) (L2 := [_, _, _, _, _]) dX7_meet_24 (by decide) rfl ?_
      refine tz_aload_n (pc := 26) dX7_meet_26 rfl rfl ?_
      refine tz_fR (pc := 27) dX7_meet_27 fl_X7_21 r_155_1 ?_
      refine tz_iload (pc := 30) dX7_meet_30 rfl ?_
      refine tz_cV (pc := 32) (c_isVar hl n _ _ (by omega) (by omega)) vl_X7_46 dX7_meet_32 o_6 rfl rfl (Nat.le_of_ble_eq_true rfl) ⟨(Nat.le_of_ble_eq_true rfl), (Nat.le_of_ble_eq_true rfl)⟩ rfl rfl (Nat.le_of_ble_eq_true rfl) (Nat.le_of_ble_eq_true rfl) (fun r9 J_32 hq9 => ?_)
      obtain ⟨z_32, rfl, hz_32, rfl, rfl⟩ := hq9
      by_cases hw_35 : J 7 z_21 < 0
      · rw [show (if J 7 z_21 < 0 then 1 else 0 : Int) = 1 from if_pos hw_35]
        refine tz_if_neT (pc := 35) (tgt := 63) (by decide) dX7_meet_35 (by decide) (by decide) ?_
        refine tz_iconst (pc := 63) dX7_meet_63 ?_
        exact tz_zret (pc := 64) (z := 0) dX7_meet_64 rfl (Or.inl rfl) (Nat.le_of_ble_eq_true rfl) (Nat.le_of_ble_eq_true rfl) ⟨Nat.le_refl _, Nat.le_add_right _ _⟩ ⟨_, rfl, (by decide), (by first | exact ⟨Or.inl rfl, hR, by omega, zOf.rf⟩ | exact ⟨by omega, w2.rest (by have := hR.1; omega), by omega, w4⟩)⟩
      · rw [show (if J 7 z_21 < 0 then 1 else 0 : Int) = 0 from if_neg hw_35]
        refine tz_if_neF (pc := 35) (tgt := 63) (by decide) dX7_meet_35 (by decide) (by decide) ?_
        refine tz_aload_n (pc := 38) dX7_meet_38 rfl rfl ?_
        refine tz_fR (pc := 39) dX7_meet_39 fl_X7_26 r_155_3 ?_
        refine tz_iload (pc := 42) dX7_meet_42 rfl ?_
        refine tz_aload_n (pc := 44) dX7_meet_44 rfl rfl ?_
        refine tz_iload_n (pc := 45) dX7_meet_45 rfl rfl ?_
        refine tz_cV (pc := 46) (c_leftOf hl n _ _ (by omega) (by omega)) vl_X7_75 dX7_meet_46 o_155 rfl rfl (Nat.le_of_ble_eq_true rfl) ⟨(Nat.le_of_ble_eq_true rfl), (Nat.le_of_ble_eq_true rfl)⟩ rfl rfl (Nat.le_of_ble_eq_true rfl) (Nat.le_of_ble_eq_true rfl) (fun r9 J_46 hq9 => ?_)
        obtain ⟨z_46, rfl, hz_46, rfl, rfl⟩ := hq9
        refine tz_sipush (pc := 49) dX7_meet_49 (by decide) ?_
        refine tz_cV (pc := 52) (c_wayOf hl n _ _ _ _ (by omega) (by omega) (by omega) m C (by omega) (by omega) (Or.inr rfl) hR h9) vl_X7_89 dX7_meet_52 o_145 rfl rfl (Nat.le_of_ble_eq_true rfl) ⟨(Nat.le_of_ble_eq_true rfl), (Nat.le_of_ble_eq_true rfl)⟩ rfl rfl (Nat.le_of_ble_eq_true rfl) (Nat.le_of_ble_eq_true rfl) (fun r9 J_52 hq9 => ?_)
        obtain ⟨z_52, rfl, hz_52, w1, w2, w3, w4⟩ := hq9
        refine tz_iconst (pc := 55) dX7_meet_55 ?_
        refine tz_icmp_ne (pc := 56) (tgt := 63) dX7_meet_56 (by decide) (by omega) (by decide) (fun h_56 => ?_) (fun h_56 => ?_)
        · refine tz_iconst (pc := 63) dX7_meet_63 ?_
          exact tz_zret (pc := 64) (z := 0) dX7_meet_64 rfl (Or.inl rfl) (Nat.le_of_ble_eq_true rfl) (Nat.le_of_ble_eq_true rfl) ⟨Nat.le_refl _, Nat.le_add_right _ _⟩ ⟨_, rfl, (by decide), (by first | exact ⟨Or.inl rfl, hR, by omega, zOf.rf⟩ | exact ⟨by omega, w2.rest (by have := hR.1; omega), by omega, w4⟩)⟩
        · refine tz_iconst (pc := 59) dX7_meet_59 ?_
          refine tz_goto (pc := 60) (tgt := 64) dX7_meet_60 (by decide) ?_
          exact tz_zret (pc := 64) (z := 1) dX7_meet_64 rfl (Or.inr rfl) (Nat.le_of_ble_eq_true rfl) (Nat.le_of_ble_eq_true rfl) ⟨Nat.le_refl _, Nat.le_add_right _ _⟩ ⟨_, rfl, (by decide), (by first | exact ⟨Or.inl rfl, hR, by omega, zOf.rf⟩ | exact ⟨by omega, w2.rest (by have := hR.1; omega), by omega, w4⟩)⟩
    · refine tz_iconst (pc := 9) dX7_meet_9 ?_
      exact tz_zret (pc := 10) (z := 0) dX7_meet_10 rfl (Or.inl rfl) (Nat.le_of_ble_eq_true rfl) (Nat.le_of_ble_eq_true rfl) ⟨Nat.le_refl _, Nat.le_add_right _ _⟩ ⟨_, rfl, (by decide), (by first | exact ⟨Or.inl rfl, hR, by omega, zOf.rf⟩ | exact ⟨by omega, w2.rest (by have := hR.1; omega), by omega, w4⟩)⟩

set_option maxHeartbeats 4000000 in
set_option maxRecDepth 100000 in
theorem c_meetings {l : Launch} {G : tb_G} (hl : l.stackTraces = false) (n : Nat) (J : zJ)   (m : Int) (C : CT J m) (hL : LI (J 19) m) (hR : RU J) (h9 : J 145 10 < 1000000000) : tz_Ok l G M_X7_meetings 6 0 0 [.ref 155] n J (zqi (fun z J' => RU J' ∧ (J 145 10 ≤ J' 145 10 ∧ J' 145 10 ≤ J 145 10 + 24000) ∧  zOf (zbut [145, 146, 147, 148, 149, 150, 151, 152, 153, 154]) J' J)) zN := by
  refine tz_Ok.of hl (by decide +kernel) rfl (tb_c1 rfl) (Nat.le_of_ble_eq_true rfl) ?_
  show tz_At l G M_X7_meetings (tb_rm 6 0 0) none (tb_ZM G 0 0 (zQ n 0 (zqi (fun z J' => RU J' ∧ (J 145 10 ≤ J' 145 10 ∧ J' 145 10 ≤ J 145 10 + 24000) ∧  zOf (zbut [145, 146, 147, 148, 149, 150, 151, 152, 153, 154]) J' J))) (zX n 0 zN)) 0 0 n J 0 [some (.ref 155), none, none, none, none, none] []
  have hb := C.told
  have h4 := hL.1.2.1
  refine tz_iconst (pc := 0) dX7_meetings_0 ?_
  refine tz_istore_n (pc := 1) (L2 := [_, _, _, _, _, _]) dX7_meetings_1 rfl (by decide) rfl ?_
  refine tz_iconst (pc := 2) dX7_meetings_2 ?_
  refine tz_istore_n (pc := 3) (L2 := [_, _, _, _, _, _]) dX7_meetings_3 rfl (by decide) rfl ?_
  have loop4 : ∀ (f9 : Nat) (q1 : Int) (i : Int) (d3 : Option Value) (d4 : Option Value) (d5 : Option Value) (J1 : zJ), ((8 - i).toNat) < f9 → ((0 ≤ i ∧ i ≤ J 19 4) ∧ (0 ≤ q1 ∧ q1 ≤ i * 2912)) → (RU J1 ∧ (J 145 10 ≤ J1 145 10 ∧ J1 145 10 ≤ J 145 10 + i * 2912)) → (zOf (zbut [145, 146, 147, 148, 149, 150, 151, 152, 153, 154]) J1 J) → tz_At l G M_X7_meetings (tb_rm 6 0 0) none (tb_ZM G 0 0 (zQ n 0 (zqi (fun z J' => RU J' ∧ (J 145 10 ≤ J' 145 10 ∧ J' 145 10 ≤ J 145 10 + 24000) ∧  zOf (zbut [145, 146, 147, 148, 149, 150, 151, 152, 153, 154]) J' J))) (zX n 0 zN)) 0 0 n J1 4 [some (.ref 155), some (zi q1), some (zi i), d3, d4, d5] [] := by
    intro f9
    induction f9 with
    | zero => intro q1 i d3 d4 d5 J1 hm9; exact absurd hm9 (Nat.not_lt_zero _)
    | succ f9 ih4 =>
      intro q1 i d3 d4 d5 J1 hm4 hi u1 f1
      have e9 := hL.2.2.1 i
      have e19 := f1 19 rfl
      refine tz_iload_n (pc := 4) dX7_meetings_4 rfl rfl ?_
      refine tz_aload_n (pc := 5) dX7_meetings_5 rfl rfl ?_
      refine tz_fR (pc := 6) dX7_meetings_6 fl_X7_9 r_155_0 ?_
      refine tz_fR (pc := 9) dX7_meetings_9 fl_X7_56 r_5_1 ?_
      refine tz_fR (pc := 12) dX7_meetings_12 fl_X7_60 r_18_0 ?_
      refine tz_iconst (pc := 15) dX7_meetings_15 ?_
      refine tz_aL (pc := 16) (z := 4) (v := (J 19 4)) dX7_meetings_16 a_19 rfl (by decide) (Eq.trans (congrFun (f1 19 rfl) 4) rfl) (fun r_16 => ?_)
      refine tz_icmp_ge (pc := 17) (tgt := 101) dX7_meetings_17 (by decide) (by omega) (by omega) (fun h_17 => ?_) (fun h_17 => ?_)
      · refine tz_iload_n (pc := 101) dX7_meetings_101 rfl rfl ?_
        exact tz_iret (pc := 102) (z := q1) dX7_meetings_102 rfl (Nat.le_of_ble_eq_true rfl) (Nat.le_of_ble_eq_true rfl) ⟨Nat.le_refl _, Nat.le_add_right _ _⟩ ⟨_, rfl, (by omega), ⟨u1.1, by omega, f1⟩⟩
      · refine tz_aload_n (pc := 20) dX7_meetings_20 rfl rfl ?_
        refine tz_fR (pc := 21) dX7_meetings_21 fl_X7_21 r_155_1 ?_
        refine tz_fR (pc := 24) dX7_meetings_24 fl_X7_49 r_6_4 ?_
        refine tz_aload_n (pc := 27) dX7_meetings_27 rfl rfl ?_
        refine tz_iload_n (pc := 28) dX7_meetings_28 rfl rfl ?_
        refine tz_cV (pc := 29) (c_leftOf hl n _ _ (by omega) (by omega)) vl_X7_75 dX7_meetings_29 o_155 rfl rfl (Nat.le_of_ble_eq_true rfl) ⟨(Nat.le_of_ble_eq_true rfl), (Nat.le_of_ble_eq_true rfl)⟩ rfl rfl (Nat.le_of_ble_eq_true rfl) (Nat.le_of_ble_eq_true rfl) (fun r9 J_29 hq9 => ?_)
        obtain ⟨zl, rfl, hz_29, rfl, hl7⟩ := hq9
        rw [e19] at hl7
        obtain rfl : J 19 (15 + i) = zl := hl7
        have nz := C.nums (e9 (by omega) (by omega)).1.1 (e9 (by omega) (by omega)).1.2
        have e10 := congrFun (f1 10 rfl) (J 19 (15 + i))
        refine tz_aL (pc := 32) (z := (J 19 (15 + i))) (v := (J 10 (J 19 (15 + i)))) dX7_meetings_32 a_10 rfl (by omega) (Eq.trans (congrFun (f1 10 rfl) (J 19 (15 + i))) rfl) (fun r_32 => ?_)
        refine tz_istore_n (pc := 33) (L2 := [_, _, _, _, _, _]) dX7_meetings_33 rfl (by decide) rfl ?_
        refine tz_iconst (pc := 34) dX7_meetings_34 ?_
        refine tz_istore (pc := 35) (L2 := [_, _, _, _, _, _]) dX7_meetings_35 (by decide) rfl ?_
        have loop37 : ∀ (f9 : Nat) (q2 : Int) (p : Int) (e5 : Option Value) (J2 : zJ), ((364 - p).toNat) < f9 → ((0 ≤ p ∧ p ≤ J 10 (J 19 (15 + i))) ∧ (0 ≤ q2 ∧ q2 ≤ i * 2912 + p * 8)) → (RU J2 ∧ (J 145 10 ≤ J2 145 10 ∧ J2 145 10 ≤ J 145 10 + i * 2912 + p * 8)) → (zOf (zbut [145, 146, 147, 148, 149, 150, 151, 152, 153, 154]) J2 J) → tz_At l G M_X7_meetings (tb_rm 6 0 0) none (tb_ZM G 0 0 (zQ n 0 (zqi (fun z J' => RU J' ∧ (J 145 10 ≤ J' 145 10 ∧ J' 145 10 ≤ J 145 10 + 24000) ∧  zOf (zbut [145, 146, 147, 148, 149, 150, 151, 152, 153, 154]) J' J))) (zX n 0 zN)) 0 0 n J2 37 [some (.ref 155), some (zi q2), some (zi i), some (zi (J 10 (J 19 (15 + i)))), some (zi p), e5] [] := by
          intro f9
          induction f9 with
          | zero => intro q2 p e5 J2 hm9; exact absurd hm9 (Nat.not_lt_zero _)
          | succ f9 ih37 =>
            intro q2 p e5 J2 hm37 hp u2 f2
            refine tz_iload (pc := 37) dX7_meetings_37 rfl ?_
            refine tz_iload_n (pc := 39) dX7_meetings_39 rfl rfl ?_
            refine tz_icmp_ge (pc := 40) (tgt := 95) dX7_meetings_40 (by decide) (by omega) (by omega) (fun h_40 => ?_) (fun h_40 => ?_)
            · refine tz_iinc (pc := 95) (z := i + 1) (L2 := [_, _, _, _, _, _]) dX7_meetings_95 rfl (by omega) rfl ?_
              refine tz_goto (pc := 98) (tgt := 4) dX7_meetings_98 (by decide) ?_
              exact ih4 _ (i + 1) _ _ _ _ (by omega) (by omega) ⟨u2.1, by omega⟩ f2
            · refine tz_iconst (pc := 43) dX7_meetings_43 ?_
              refine tz_istore (pc := 44) (L2 := [_, _, _, _, _, _]) dX7_meetings_44 (by decide) rfl ?_
              have loop46 : ∀ (f9 : Nat) (q3 : Int) (j : Int) (J3 : zJ), ((8 - j).toNat) < f9 → ((0 ≤ j ∧ j ≤ J 19 4) ∧ (0 ≤ q3 ∧ q3 ≤ i * 2912 + p * 8 + j)) → (RU J3 ∧ (J 145 10 ≤ J3 145 10 ∧ J3 145 10 ≤ J 145 10 + i * 2912 + p * 8 + j)) → (zOf (zbut [145, 146, 147, 148, 149, 150, 151, 152, 153, 154]) J3 J) → tz_At l G M_X7_meetings (tb_rm 6 0 0) none (tb_ZM G 0 0 (zQ n 0 (zqi (fun z J' => RU J' ∧ (J 145 10 ≤ J' 145 10 ∧ J' 145 10 ≤ J 145 10 + 24000) ∧  zOf (zbut [145, 146, 147, 148, 149, 150, 151, 152, 153, 154]) J' J))) (zX n 0 zN)) 0 0 n J3 46 [some (.ref 155), some (zi q3), some (zi i), some (zi (J 10 (J 19 (15 + i)))), some (zi p), some (zi j)] [] := by
                intro f9
                induction f9 with
                | zero => intro q3 j J3 hm9; exact absurd hm9 (Nat.not_lt_zero _)
                | succ f9 ih46 =>
                  intro q3 j J3 hm46 hj u3 f3
                  refine tz_iload (pc := 46) dX7_meetings_46 rfl ?_
                  refine tz_aload_n (pc := 48) dX7_meetings_48 rfl rfl ?_
                  refine tz_fR (pc := 49) dX7_meetings_49 fl_X7_9 r_155_0 ?_
                  refine tz_fR (pc := 52) dX7_meetings_52 fl_X7_56 r_5_1 ?_
                  refine tz_fR (pc := 55) dX7_meetings_55 fl_X7_60 r_18_0 ?_
                  refine tz_iconst (pc := 58) dX7_meetings_58 ?_
                  refine tz_aL (pc := 59) (z := 4) (v := (J 19 4)) dX7_meetings_59 a_19 rfl (by decide) (Eq.trans (congrFun (f3 19 rfl) 4) rfl) (fun r_59 => ?_)
                  refine tz_icmp_ge (pc := 60) (tgt := 89) dX7_meetings_60 (by decide) (by omega) (by omega) (fun h_60 => ?_) (fun h_60 => ?_)
                  · refine tz_iinc (pc := 89) (z := p + 1) (L2 := [_, _, _, _, _, _]) dX7_meetings_89 rfl (by omega) rfl ?_
                    refine tz_goto (pc := 92) (tgt := 37) dX7_meetings_92 (by decide) ?_
                    exact ih37 _ (p + 1) _ _ (by omega) (by omega) ⟨u3.1, by omega⟩ f3
                  · refine tz_iload_n (pc := 63) dX7_meetings_63 rfl rfl ?_
                    refine tz_aload_n (pc := 64) dX7_meetings_64 rfl rfl ?_
                    refine tz_iload_n (pc := 65) dX7_meetings_65 rfl rfl ?_
                    refine tz_iload (pc := 66) dX7_meetings_66 rfl ?_
                    refine tz_iload (pc := 68) dX7_meetings_68 rfl ?_
                    refine tz_cV (pc := 70) (c_meet hl n _ _ _ _ (by omega) (by omega) (by omega) m (C.of (fun c hc => f3 c (by simp [zbut]; omega))) (by rw [f3 19 rfl]; exact hL) (by rw [f3 19 rfl]; omega) (by rw [f3 19 rfl]; omega) (by rw [f3 19 rfl, f3 10 rfl]; omega) u3.1 (by omega)) vl_X7_79 dX7_meetings_70 o_155 rfl rfl (Nat.le_of_ble_eq_true rfl) ⟨(Nat.le_of_ble_eq_true rfl), (Nat.le_of_ble_eq_true rfl)⟩ rfl rfl (Nat.le_of_ble_eq_true rfl) (Nat.le_of_ble_eq_true rfl) (fun r9 J_70 hq9 => ?_)
                    obtain ⟨z_70, rfl, hz_70, i1, i2, i3, i4⟩ := hq9
                    refine tz_if_eq (pc := 73) (tgt := 80) dX7_meetings_73 (by decide) (by omega) (fun h_73 => ?_) (fun h_73 => ?_)
                    · refine tz_iconst (pc := 80) dX7_meetings_80 ?_
                      refine tz_iadd (pc := 81) (v := q3 + 0) dX7_meetings_81 rfl ?_
                      refine tz_istore_n (pc := 82) (L2 := [_, _, _, _, _, _]) dX7_meetings_82 rfl (by decide) rfl ?_
                      refine tz_iinc (pc := 83) (z := j + 1) (L2 := [_, _, _, _, _, _]) dX7_meetings_83 rfl (by omega) rfl ?_
                      refine tz_goto (pc := 86) (tgt := 46) dX7_meetings_86 (by decide) ?_
                      exact ih46 _ (j + 1) _ (by omega) (by omega) ⟨i2, by omega⟩ (i4.tr f3)
                    · refine tz_iconst (pc := 76) dX7_meetings_76 ?_
                      refine tz_goto (pc := 77) (tgt := 81) dX7_meetings_77 (by decide) ?_
                      refine tz_iadd (pc := 81) (v := q3 + 1) dX7_meetings_81 rfl ?_
                      refine tz_istore_n (pc := 82) (L2 := [_, _, _, _, _, _]) dX7_meetings_82 rfl (by decide) rfl ?_
                      refine tz_iinc (pc := 83) (z := j + 1) (L2 := [_, _, _, _, _, _]) dX7_meetings_83 rfl (by omega) rfl ?_
                      refine tz_goto (pc := 86) (tgt := 46) dX7_meetings_86 (by decide) ?_
                      exact ih46 _ (j + 1) _ (by omega) (by omega) ⟨i2, by omega⟩ (i4.tr f3)
              exact loop46 _ _ 0 _ (Nat.lt_succ_self _) (by omega) ⟨u2.1, by omega⟩ f2
        exact loop37 _ _ 0 _ _ (Nat.lt_succ_self _) (by omega) ⟨u1.1, by omega⟩ f1
  exact loop4 _ 0 0 none none none _ (Nat.lt_succ_self _) (by omega) ⟨hR, by omega⟩ zOf.rf

set_option maxHeartbeats 4000000 in
set_option maxRecDepth 100000 in
theorem c_firstMeet {l : Launch} {G : tb_G} (hl : l.stackTraces = false) (n : Nat) (J : zJ)   (m : Int) (C : CT J m) (hL : LI (J 19) m) (hR : RU J) (h9 : J 145 10 < 1000000000) : tz_Ok l G M_X7_firstMeeting 6 0 0 [.ref 155] n J (zqi (fun z J' => RU J' ∧ (J 145 10 ≤ J' 145 10 ∧ J' 145 10 ≤ J 145 10 + 24000) ∧  zOf (zbut [145, 146, 147, 148, 149, 150, 151, 152, 153, 154]) J' J)) zN := by
  refine tz_Ok.of hl (by decide +kernel) rfl (tb_c1 rfl) (Nat.le_of_ble_eq_true rfl) ?_
  show tz_At l G M_X7_firstMeeting (tb_rm 6 0 0) none (tb_ZM G 0 0 (zQ n 0 (zqi (fun z J' => RU J' ∧ (J 145 10 ≤ J' 145 10 ∧ J' 145 10 ≤ J 145 10 + 24000) ∧  zOf (zbut [145, 146, 147, 148, 149, 150, 151, 152, 153, 154]) J' J))) (zX n 0 zN)) 0 0 n J 0 [some (.ref 155), none, none, none, none] []
  have hb := C.told
  have h4 := hL.1.2.1
  refine tz_iconst (pc := 0) dX7_firstMeeting_0 ?_
  refine tz_istore_n (pc := 1) (L2 := [_, _, _, _, _]) dX7_firstMeeting_1 rfl (by decide) rfl ?_
  have loop2 : ∀ (f9 : Nat) (i : Int) (d3 : Option Value) (d4 : Option Value) (d5 : Option Value) (J1 : zJ), ((8 - i).toNat) < f9 → ((0 ≤ i ∧ i ≤ J 19 4)) → (RU J1 ∧ (J 145 10 ≤ J1 145 10 ∧ J1 145 10 ≤ J 145 10 + i * 2912)) → (zOf (zbut [145, 146, 147, 148, 149, 150, 151, 152, 153, 154]) J1 J) → tz_At l G M_X7_firstMeeting (tb_rm 6 0 0) none (tb_ZM G 0 0 (zQ n 0 (zqi (fun z J' => RU J' ∧ (J 145 10 ≤ J' 145 10 ∧ J' 145 10 ≤ J 145 10 + 24000) ∧  zOf (zbut [145, 146, 147, 148, 149, 150, 151, 152, 153, 154]) J' J))) (zX n 0 zN)) 0 0 n J1 2 [some (.ref 155), some (zi i), d3, d4, d5] [] := by
    intro f9
    induction f9 with
    | zero => intro i d3 d4 d5 J1 hm9; exact absurd hm9 (Nat.not_lt_zero _)
    | succ f9 ih2 =>
      intro i d3 d4 d5 J1 hm2 hi u1 f1
      have e9 := hL.2.2.1 i
      have e19 := f1 19 rfl
      refine tz_iload_n (pc := 2) dX7_firstMeeting_2 rfl rfl ?_
      refine tz_aload_n (pc := 3) dX7_firstMeeting_3 rfl rfl ?_
      refine tz_fR (pc := 4) dX7_firstMeeting_4 fl_X7_9 r_155_0 ?_
      refine tz_fR (pc := 7) dX7_firstMeeting_7 fl_X7_56 r_5_1 ?_
      refine tz_fR (pc := 10) dX7_firstMeeting_10 fl_X7_60 r_18_0 ?_
      refine tz_iconst (pc := 13) dX7_firstMeeting_13 ?_
      refine tz_aL (pc := 14) (z := 4) (v := (J 19 4)) dX7_firstMeeting_14 a_19 rfl (by decide) (Eq.trans (congrFun (f1 19 rfl) 4) rfl) (fun r_14 => ?_)
      refine tz_icmp_ge (pc := 15) (tgt := 102) dX7_firstMeeting_15 (by decide) (by omega) (by omega) (fun h_15 => ?_) (fun h_15 => ?_)
      · refine tz_iconst (pc := 102) dX7_firstMeeting_102 ?_
        exact tz_iret (pc := 103) (z := (-1)) dX7_firstMeeting_103 rfl (Nat.le_of_ble_eq_true rfl) (Nat.le_of_ble_eq_true rfl) ⟨Nat.le_refl _, Nat.le_add_right _ _⟩ ⟨_, rfl, (by decide), (by first | exact ⟨i2, by omega, i4.tr f3⟩ | exact ⟨u1.1, by omega, f1⟩)⟩
      · refine tz_aload_n (pc := 18) dX7_firstMeeting_18 rfl rfl ?_
        refine tz_fR (pc := 19) dX7_firstMeeting_19 fl_X7_21 r_155_1 ?_
        refine tz_fR (pc := 22) dX7_firstMeeting_22 fl_X7_49 r_6_4 ?_
        refine tz_aload_n (pc := 25) dX7_firstMeeting_25 rfl rfl ?_
        refine tz_iload_n (pc := 26) dX7_firstMeeting_26 rfl rfl ?_
        refine tz_cV (pc := 27) (c_leftOf hl n _ _ (by omega) (by omega)) vl_X7_75 dX7_firstMeeting_27 o_155 rfl rfl (Nat.le_of_ble_eq_true rfl) ⟨(Nat.le_of_ble_eq_true rfl), (Nat.le_of_ble_eq_true rfl)⟩ rfl rfl (Nat.le_of_ble_eq_true rfl) (Nat.le_of_ble_eq_true rfl) (fun r9 J_27 hq9 => ?_)
        obtain ⟨zl, rfl, hz_27, rfl, hl7⟩ := hq9
        rw [e19] at hl7
        obtain rfl : J 19 (15 + i) = zl := hl7
        have nz := C.nums (e9 (by omega) (by omega)).1.1 (e9 (by omega) (by omega)).1.2
        have e10 := congrFun (f1 10 rfl) (J 19 (15 + i))
        refine tz_aL (pc := 30) (z := (J 19 (15 + i))) (v := (J 10 (J 19 (15 + i)))) dX7_firstMeeting_30 a_10 rfl (by omega) (Eq.trans (congrFun (f1 10 rfl) (J 19 (15 + i))) rfl) (fun r_30 => ?_)
        refine tz_istore_n (pc := 31) (L2 := [_, _, _, _, _]) dX7_firstMeeting_31 rfl (by decide) rfl ?_
        refine tz_iconst (pc := 32) dX7_firstMeeting_32 ?_
        refine tz_istore_n (pc := 33) (L2 := [_, _, _, _, _]) dX7_firstMeeting_33 rfl (by decide) rfl ?_
        have loop34 : ∀ (f9 : Nat) (p : Int) (e5 : Option Value) (J2 : zJ), ((364 - p).toNat) < f9 → ((0 ≤ p ∧ p ≤ J 10 (J 19 (15 + i)))) → (RU J2 ∧ (J 145 10 ≤ J2 145 10 ∧ J2 145 10 ≤ J 145 10 + i * 2912 + p * 8)) → (zOf (zbut [145, 146, 147, 148, 149, 150, 151, 152, 153, 154]) J2 J) → tz_At l G M_X7_firstMeeting (tb_rm 6 0 0) none (tb_ZM G 0 0 (zQ n 0 (zqi (fun z J' => RU J' ∧ (J 145 10 ≤ J' 145 10 ∧ J' 145 10 ≤ J 145 10 + 24000) ∧  zOf (zbut [145, 146, 147, 148, 149, 150, 151, 152, 153, 154]) J' J))) (zX n 0 zN)) 0 0 n J2 34 [some (.ref 155), some (zi i), some (zi (J 10 (J 19 (15 + i)))), some (zi p), e5] [] := by
          intro f9
          induction f9 with
          | zero => intro p e5 J2 hm9; exact absurd hm9 (Nat.not_lt_zero _)
          | succ f9 ih34 =>
            intro p e5 J2 hm34 hp u2 f2
            refine tz_iload_n (pc := 34) dX7_firstMeeting_34 rfl rfl ?_
            refine tz_iload_n (pc := 35) dX7_firstMeeting_35 rfl rfl ?_
            refine tz_icmp_ge (pc := 36) (tgt := 96) dX7_firstMeeting_36 (by decide) (by omega) (by omega) (fun h_36 => ?_) (fun h_36 => ?_)
            · refine tz_iinc (pc := 96) (z := i + 1) (L2 := [_, _, _, _, _]) dX7_firstMeeting_96 rfl (by omega) rfl ?_
              refine tz_goto (pc := 99) (tgt := 2) dX7_firstMeeting_99 (by decide) ?_
              exact ih2 (i + 1) _ _ _ _ (by omega) (by omega) ⟨u2.1, by omega⟩ f2
            · refine tz_iconst (pc := 39) dX7_firstMeeting_39 ?_
              refine tz_istore (pc := 40) (L2 := [_, _, _, _, _]) dX7_firstMeeting_40 (by decide) rfl ?_
              have loop42 : ∀ (f9 : Nat) (j : Int) (J3 : zJ), ((8 - j).toNat) < f9 → ((0 ≤ j ∧ j ≤ J 19 4)) → (RU J3 ∧ (J 145 10 ≤ J3 145 10 ∧ J3 145 10 ≤ J 145 10 + i * 2912 + p * 8 + j)) → (zOf (zbut [145, 146, 147, 148, 149, 150, 151, 152, 153, 154]) J3 J) → tz_At l G M_X7_firstMeeting (tb_rm 6 0 0) none (tb_ZM G 0 0 (zQ n 0 (zqi (fun z J' => RU J' ∧ (J 145 10 ≤ J' 145 10 ∧ J' 145 10 ≤ J 145 10 + 24000) ∧  zOf (zbut [145, 146, 147, 148, 149, 150, 151, 152, 153, 154]) J' J))) (zX n 0 zN)) 0 0 n J3 42 [some (.ref 155), some (zi i), some (zi (J 10 (J 19 (15 + i)))), some (zi p), some (zi j)] [] := by
                intro f9
                induction f9 with
                | zero => intro j J3 hm9; exact absurd hm9 (Nat.not_lt_zero _)
                | succ f9 ih42 =>
                  intro j J3 hm42 hj u3 f3
                  refine tz_iload (pc := 42) dX7_firstMeeting_42 rfl ?_
                  refine tz_aload_n (pc := 44) dX7_firstMeeting_44 rfl rfl ?_
                  refine tz_fR (pc := 45) dX7_firstMeeting_45 fl_X7_9 r_155_0 ?_
                  refine tz_fR (pc := 48) dX7_firstMeeting_48 fl_X7_56 r_5_1 ?_
                  refine tz_fR (pc := 51) dX7_firstMeeting_51 fl_X7_60 r_18_0 ?_
                  refine tz_iconst (pc := 54) dX7_firstMeeting_54 ?_
                  refine tz_aL (pc := 55) (z := 4) (v := (J 19 4)) dX7_firstMeeting_55 a_19 rfl (by decide) (Eq.trans (congrFun (f3 19 rfl) 4) rfl) (fun r_55 => ?_)
                  refine tz_icmp_ge (pc := 56) (tgt := 90) dX7_firstMeeting_56 (by decide) (by omega) (by omega) (fun h_56 => ?_) (fun h_56 => ?_)
                  · refine tz_iinc (pc := 90) (z := p + 1) (L2 := [_, _, _, _, _]) dX7_firstMeeting_90 rfl (by omega) rfl ?_
                    refine tz_goto (pc := 93) (tgt := 34) dX7_firstMeeting_93 (by decide) ?_
                    exact ih34 (p + 1) _ _ (by omega) (by omega) ⟨u3.1, by omega⟩ f3
                  · refine tz_aload_n (pc := 59) dX7_firstMeeting_59 rfl rfl ?_
                    refine tz_iload_n (pc := 60) dX7_firstMeeting_60 rfl rfl ?_
                    refine tz_iload_n (pc := 61) dX7_firstMeeting_61 rfl rfl ?_
                    refine tz_iload (pc := 62) dX7_firstMeeting_62 rfl ?_
                    refine tz_cV (pc := 64) (c_meet hl n _ _ _ _ (by omega) (by omega) (by omega) m (C.of (fun c hc => f3 c (by simp [zbut]; omega))) (by rw [f3 19 rfl]; exact hL) (by rw [f3 19 rfl]; omega) (by rw [f3 19 rfl]; omega) (by rw [f3 19 rfl, f3 10 rfl]; omega) u3.1 (by omega)) vl_X7_79 dX7_firstMeeting_64 o_155 rfl rfl (Nat.le_of_ble_eq_true rfl) ⟨(Nat.le_of_ble_eq_true rfl), (Nat.le_of_ble_eq_true rfl)⟩ rfl rfl (Nat.le_of_ble_eq_true rfl) (Nat.le_of_ble_eq_true rfl) (fun r9 J_64 hq9 => ?_)
                    obtain ⟨z_64, rfl, hz_64, i1, i2, i3, i4⟩ := hq9
                    refine tz_if_eq (pc := 67) (tgt := 84) dX7_firstMeeting_67 (by decide) (by omega) (fun h_67 => ?_) (fun h_67 => ?_)
                    · refine tz_iinc (pc := 84) (z := j + 1) (L2 := [_, _, _, _, _]) dX7_firstMeeting_84 rfl (by omega) rfl ?_
                      refine tz_goto (pc := 87) (tgt := 42) dX7_firstMeeting_87 (by decide) ?_
                      exact ih42 (j + 1) _ (by omega) (by omega) ⟨i2, by omega⟩ (i4.tr f3)
                    · refine tz_sipush (pc := 70) dX7_firstMeeting_70 (by decide) ?_
                      refine tz_iload_n (pc := 73) dX7_firstMeeting_73 rfl rfl ?_
                      refine tz_imul (pc := 74) (v := 1000 * i) dX7_firstMeeting_74 rfl ?_
                      refine tz_bipush (pc := 75) dX7_firstMeeting_75 (by decide) ?_
                      refine tz_iload_n (pc := 77) dX7_firstMeeting_77 rfl rfl ?_
                      refine tz_imul (pc := 78) (v := 10 * p) dX7_firstMeeting_78 rfl ?_
                      refine tz_iadd (pc := 79) (v := (1000 * i) + (10 * p)) dX7_firstMeeting_79 rfl ?_
                      refine tz_iload (pc := 80) dX7_firstMeeting_80 rfl ?_
                      refine tz_iadd (pc := 82) (v := ((1000 * i) + (10 * p)) + j) dX7_firstMeeting_82 rfl ?_
                      exact tz_iret (pc := 83) (z := (((1000 * i) + (10 * p)) + j)) dX7_firstMeeting_83 rfl (Nat.le_of_ble_eq_true rfl) (Nat.le_of_ble_eq_true rfl) ⟨Nat.le_refl _, Nat.le_add_right _ _⟩ ⟨_, rfl, (by omega), (by first | exact ⟨i2, by omega, i4.tr f3⟩ | exact ⟨u1.1, by omega, f1⟩)⟩
              exact loop42 _ 0 _ (Nat.lt_succ_self _) (by omega) ⟨u2.1, by omega⟩ f2
        exact loop34 _ 0 _ _ (Nat.lt_succ_self _) (by omega) ⟨u1.1, by omega⟩ f1
  exact loop2 _ 0 none none none _ (Nat.lt_succ_self _) (by omega) ⟨hR, by omega⟩ zOf.rf

set_option maxHeartbeats 4000000 in
set_option maxRecDepth 100000 in
theorem c_isFound {l : Launch} {G : tb_G} (hl : l.stackTraces = false) (n : Nat) (J : zJ) (x : Int) (t : Int) (u : Int) (hr_x : -2147483648 ≤ x ∧ x < 2147483648) (hr_t : -2147483648 ≤ t ∧ t < 2147483648) (hr_u : -2147483648 ≤ u ∧ u < 2147483648) (m : Int) (C : CT J m) (hx : 0 ≤ x ∧ x < m) (ht : 0 ≤ t ∧ t < m) (hR : RU J) (h9 : J 145 10 < 2000000000) : tz_Ok l G M_X7_isFound 8 0 0 [.ref 155, zi x, zi t, zi u] n J (zqi (fun z J' => (z = 0 ∨ z = 1) ∧ RU J' ∧ (J 145 10 ≤ J' 145 10 ∧ J' 145 10 ≤ J 145 10 + 1) ∧  zOf (zbut [140, 145, 146, 147, 148, 149, 150, 151, 152, 153, 154]) J' J)) zN := by
  refine tz_Ok.of hl (by decide +kernel) rfl (tb_c1 rfl) (Nat.le_of_ble_eq_true rfl) ?_
  show tz_At l G M_X7_isFound (tb_rm 8 0 0) none (tb_ZM G 0 0 (zQ n 0 (zqi (fun z J' => (z = 0 ∨ z = 1) ∧ RU J' ∧ (J 145 10 ≤ J' 145 10 ∧ J' 145 10 ≤ J 145 10 + 1) ∧  zOf (zbut [140, 145, 146, 147, 148, 149, 150, 151, 152, 153, 154]) J' J))) (zX n 0 zN)) 0 0 n J 0 [some (.ref 155), some (zi x), some (zi t), some (zi u)] []
  have hb := C.told
  refine tz_iload_n (pc := 0) dX7_isFound_0 rfl rfl ?_
  by_cases hs_1 : u < 0 ∨ 2 < u
  · refine tz_tabOut (pc := 1) (tgt := 70) dX7_isFound_1 (by omega) hs_1 (by decide) ?_
    refine tz_aload_n (pc := 70) dX7_isFound_70 rfl rfl ?_
    refine tz_fR (pc := 71) dX7_isFound_71 fl_X7_21 r_155_1 ?_
    refine tz_fR (pc := 74) dX7_isFound_74 fl_X7_101 r_6_8 ?_
    refine tz_iload_n (pc := 77) dX7_isFound_77 rfl rfl ?_
    refine tz_aL (pc := 78) (z := x) (v := (J 14 x)) dX7_isFound_78 a_14 rfl (by omega) rfl (fun r_78 => ?_)
    refine tz_aload_n (pc := 79) dX7_isFound_79 rfl rfl ?_
    refine tz_fR (pc := 80) dX7_isFound_80 fl_X7_21 r_155_1 ?_
    refine tz_fR (pc := 83) dX7_isFound_83 fl_X7_101 r_6_8 ?_
    refine tz_iload_n (pc := 86) dX7_isFound_86 rfl rfl ?_
    refine tz_aL (pc := 87) (z := t) (v := (J 14 t)) dX7_isFound_87 a_14 rfl (by omega) rfl (fun r_87 => ?_)
    refine tz_icmp_ne (pc := 88) (tgt := 95) dX7_isFound_88 (by decide) (by omega) (by omega) (fun h_88 => ?_) (fun h_88 => ?_)
    · refine tz_iconst (pc := 95) dX7_isFound_95 ?_
      exact tz_zret (pc := 96) (z := 0) dX7_isFound_96 rfl (Or.inl rfl) (Nat.le_of_ble_eq_true rfl) (Nat.le_of_ble_eq_true rfl) ⟨Nat.le_refl _, Nat.le_add_right _ _⟩ ⟨_, rfl, (by decide), (by first | exact ⟨a1, hR.of (a2 145 rfl) (a2 146 rfl), by rw [a2 145 rfl]; omega, a2.mono (fun c hc => by simp [zbut] at hc ⊢; omega)⟩ | exact ⟨by omega, w2.rest (by have := hR.1; omega), by omega, w4.mono (fun c hc => by simp [zbut] at hc ⊢; omega)⟩ | exact ⟨by omega, hR, by omega, zOf.rf⟩)⟩
    · refine tz_iconst (pc := 91) dX7_isFound_91 ?_
      refine tz_goto (pc := 92) (tgt := 96) dX7_isFound_92 (by decide) ?_
      exact tz_zret (pc := 96) (z := 1) dX7_isFound_96 rfl (Or.inr rfl) (Nat.le_of_ble_eq_true rfl) (Nat.le_of_ble_eq_true rfl) ⟨Nat.le_refl _, Nat.le_add_right _ _⟩ ⟨_, rfl, (by decide), (by first | exact ⟨a1, hR.of (a2 145 rfl) (a2 146 rfl), by rw [a2 145 rfl]; omega, a2.mono (fun c hc => by simp [zbut] at hc ⊢; omega)⟩ | exact ⟨by omega, w2.rest (by have := hR.1; omega), by omega, w4.mono (fun c hc => by simp [zbut] at hc ⊢; omega)⟩ | exact ⟨by omega, hR, by omega, zOf.rf⟩)⟩
  · have hs9 : u = 0 ∨ u = 1 ∨ u = 2 := by omega
    rcases hs9 with hc_1 | hc_1 | hc_1
    · refine tz_tabIn (pc := 1) (tgt := 28) 0 dX7_isFound_1 hc_1 (by decide) rfl (by decide) ?_
      refine tz_aload_n (pc := 28) dX7_isFound_28 rfl rfl ?_
      refine tz_fR (pc := 29) dX7_isFound_29 fl_X7_22 r_155_2 ?_
      refine tz_iload_n (pc := 32) dX7_isFound_32 rfl rfl ?_
      refine tz_iload_n (pc := 33) dX7_isFound_33 rfl rfl ?_
      refine tz_cV (pc := 34) (c_matches hl n _ _ _ (by omega) (by omega) m C hx ht) vl_X7_96 dX7_isFound_34 o_139 rfl rfl (Nat.le_of_ble_eq_true rfl) ⟨(Nat.le_of_ble_eq_true rfl), (Nat.le_of_ble_eq_true rfl)⟩ rfl rfl (Nat.le_of_ble_eq_true rfl) (Nat.le_of_ble_eq_true rfl) (fun r9 J_34 hq9 => ?_)
      obtain ⟨z_34, rfl, hz_34, a1, a2, -⟩ := hq9
      exact tz_zret (pc := 37) (z := z_34) dX7_isFound_37 rfl (by omega) (Nat.le_of_ble_eq_true rfl) (Nat.le_of_ble_eq_true rfl) ⟨Nat.le_refl _, Nat.le_add_right _ _⟩ ⟨_, rfl, (by omega), (by first | exact ⟨a1, hR.of (a2 145 rfl) (a2 146 rfl), by rw [a2 145 rfl]; omega, a2.mono (fun c hc => by simp [zbut] at hc ⊢; omega)⟩ | exact ⟨by omega, w2.rest (by have := hR.1; omega), by omega, w4.mono (fun c hc => by simp [zbut] at hc ⊢; omega)⟩ | exact ⟨by omega, hR, by omega, zOf.rf⟩)⟩
    · refine tz_tabIn (pc := 1) (tgt := 38) 1 dX7_isFound_1 hc_1 (by decide) rfl (by decide) ?_
      refine tz_aload_n (pc := 38) dX7_isFound_38 rfl rfl ?_
      refine tz_fR (pc := 39) dX7_isFound_39 fl_X7_22 r_155_2 ?_
      refine tz_iload_n (pc := 42) dX7_isFound_42 rfl rfl ?_
      refine tz_iload_n (pc := 43) dX7_isFound_43 rfl rfl ?_
      refine tz_cV (pc := 44) (c_matches hl n _ _ _ (by omega) (by omega) m C ht hx) vl_X7_96 dX7_isFound_44 o_139 rfl rfl (Nat.le_of_ble_eq_true rfl) ⟨(Nat.le_of_ble_eq_true rfl), (Nat.le_of_ble_eq_true rfl)⟩ rfl rfl (Nat.le_of_ble_eq_true rfl) (Nat.le_of_ble_eq_true rfl) (fun r9 J_44 hq9 => ?_)
      obtain ⟨z_44, rfl, hz_44, a1, a2, -⟩ := hq9
      exact tz_zret (pc := 47) (z := z_44) dX7_isFound_47 rfl (by omega) (Nat.le_of_ble_eq_true rfl) (Nat.le_of_ble_eq_true rfl) ⟨Nat.le_refl _, Nat.le_add_right _ _⟩ ⟨_, rfl, (by omega), (by first | exact ⟨a1, hR.of (a2 145 rfl) (a2 146 rfl), by rw [a2 145 rfl]; omega, a2.mono (fun c hc => by simp [zbut] at hc ⊢; omega)⟩ | exact ⟨by omega, w2.rest (by have := hR.1; omega), by omega, w4.mono (fun c hc => by simp [zbut] at hc ⊢; omega)⟩ | exact ⟨by omega, hR, by omega, zOf.rf⟩)⟩
    · refine tz_tabIn (pc := 1) (tgt := 48) 2 dX7_isFound_1 hc_1 (by decide) rfl (by decide) ?_
      refine tz_aload_n (pc := 48) dX7_isFound_48 rfl rfl ?_
      refine tz_fR (pc := 49) dX7_isFound_49 fl_X7_26 r_155_3 ?_
      refine tz_iload_n (pc := 52) dX7_isFound_52 rfl rfl ?_
      refine tz_iload_n (pc := 53) dX7_isFound_53 rfl rfl ?_
      refine tz_sipush (pc := 54) dX7_isFound_54 (by decide) ?_
      refine tz_cV (pc := 57) (c_wayOf hl n _ _ _ _ (by omega) (by omega) (by omega) m C hx ht (Or.inr rfl) hR h9) vl_X7_89 dX7_isFound_57 o_145 rfl rfl (Nat.le_of_ble_eq_true rfl) ⟨(Nat.le_of_ble_eq_true rfl), (Nat.le_of_ble_eq_true rfl)⟩ rfl rfl (Nat.le_of_ble_eq_true rfl) (Nat.le_of_ble_eq_true rfl) (fun r9 J_57 hq9 => ?_)
      obtain ⟨z_57, rfl, hz_57, w1, w2, w3, w4⟩ := hq9
      refine tz_iconst (pc := 60) dX7_isFound_60 ?_
      refine tz_icmp_ne (pc := 61) (tgt := 68) dX7_isFound_61 (by decide) (by omega) (by decide) (fun h_61 => ?_) (fun h_61 => ?_)
      · refine tz_iconst (pc := 68) dX7_isFound_68 ?_
        exact tz_zret (pc := 69) (z := 0) dX7_isFound_69 rfl (Or.inl rfl) (Nat.le_of_ble_eq_true rfl) (Nat.le_of_ble_eq_true rfl) ⟨Nat.le_refl _, Nat.le_add_right _ _⟩ ⟨_, rfl, (by decide), (by first | exact ⟨a1, hR.of (a2 145 rfl) (a2 146 rfl), by rw [a2 145 rfl]; omega, a2.mono (fun c hc => by simp [zbut] at hc ⊢; omega)⟩ | exact ⟨by omega, w2.rest (by have := hR.1; omega), by omega, w4.mono (fun c hc => by simp [zbut] at hc ⊢; omega)⟩ | exact ⟨by omega, hR, by omega, zOf.rf⟩)⟩
      · refine tz_iconst (pc := 64) dX7_isFound_64 ?_
        refine tz_goto (pc := 65) (tgt := 69) dX7_isFound_65 (by decide) ?_
        exact tz_zret (pc := 69) (z := 1) dX7_isFound_69 rfl (Or.inr rfl) (Nat.le_of_ble_eq_true rfl) (Nat.le_of_ble_eq_true rfl) ⟨Nat.le_refl _, Nat.le_add_right _ _⟩ ⟨_, rfl, (by decide), (by first | exact ⟨a1, hR.of (a2 145 rfl) (a2 146 rfl), by rw [a2 145 rfl]; omega, a2.mono (fun c hc => by simp [zbut] at hc ⊢; omega)⟩ | exact ⟨by omega, w2.rest (by have := hR.1; omega), by omega, w4.mono (fun c hc => by simp [zbut] at hc ⊢; omega)⟩ | exact ⟨by omega, hR, by omega, zOf.rf⟩)⟩

set_option maxHeartbeats 4000000 in
set_option maxRecDepth 100000 in
theorem c_found {l : Launch} {G : tb_G} (hl : l.stackTraces = false) (n : Nat) (J : zJ) (t : Int) (u : Int) (hr_t : -2147483648 ≤ t ∧ t < 2147483648) (hr_u : -2147483648 ≤ u ∧ u < 2147483648) (m : Int) (C : CT J m) (hL : LI (J 19) m) (ht : 0 ≤ t ∧ t < m) (hR : RU J) (h9 : J 145 10 < 1000000000) : tz_Ok l G M_X7_found 9 0 0 [.ref 155, zi t, zi u] n J (zqi (fun z J' => RU J' ∧ (J 145 10 ≤ J' 145 10 ∧ J' 145 10 ≤ J 145 10 + 12) ∧  zOf (zbut [140, 145, 146, 147, 148, 149, 150, 151, 152, 153, 154]) J' J)) zN := by
  refine tz_Ok.of hl (by decide +kernel) rfl (tb_c1 rfl) (Nat.le_of_ble_eq_true rfl) ?_
  show tz_At l G M_X7_found (tb_rm 9 0 0) none (tb_ZM G 0 0 (zQ n 0 (zqi (fun z J' => RU J' ∧ (J 145 10 ≤ J' 145 10 ∧ J' 145 10 ≤ J 145 10 + 12) ∧  zOf (zbut [140, 145, 146, 147, 148, 149, 150, 151, 152, 153, 154]) J' J))) (zX n 0 zN)) 0 0 n J 0 [some (.ref 155), some (zi t), some (zi u), none, none, none] []
  have hb := C.told
  have h5 := hL.1.2.2.1
  refine tz_aload_n (pc := 0) dX7_found_0 rfl rfl ?_
  refine tz_fR (pc := 1) dX7_found_1 fl_X7_9 r_155_0 ?_
  refine tz_fR (pc := 4) dX7_found_4 fl_X7_56 r_5_1 ?_
  refine tz_fR (pc := 7) dX7_found_7 fl_X7_60 r_18_0 ?_
  refine tz_astore_n (pc := 10) (L2 := [_, _, _, _, _, _]) dX7_found_10 rfl (by decide) rfl ?_
  refine tz_iconst (pc := 11) dX7_found_11 ?_
  refine tz_istore (pc := 12) (L2 := [_, _, _, _, _, _]) dX7_found_12 (by decide) rfl ?_
  refine tz_iconst (pc := 14) dX7_found_14 ?_
  refine tz_istore (pc := 15) (L2 := [_, _, _, _, _, _]) dX7_found_15 (by decide) rfl ?_
  have loop17 : ∀ (f9 : Nat) (q : Int) (i : Int) (J1 : zJ), ((12 - i).toNat) < f9 → ((0 ≤ i ∧ i ≤ J 19 5) ∧ (-2147483648 ≤ q ∧ q < 2147483648)) → (RU J1 ∧ (J 145 10 ≤ J1 145 10 ∧ J1 145 10 ≤ J 145 10 + i)) → (zOf (zbut [140, 145, 146, 147, 148, 149, 150, 151, 152, 153, 154]) J1 J) → tz_At l G M_X7_found (tb_rm 9 0 0) none (tb_ZM G 0 0 (zQ n 0 (zqi (fun z J' => RU J' ∧ (J 145 10 ≤ J' 145 10 ∧ J' 145 10 ≤ J 145 10 + 12) ∧  zOf (zbut [140, 145, 146, 147, 148, 149, 150, 151, 152, 153, 154]) J' J))) (zX n 0 zN)) 0 0 n J1 17 [some (.ref 155), some (zi t), some (zi u), some (.ref 19), some (zi q), some (zi i)] [] := by
    intro f9
    induction f9 with
    | zero => intro q i J1 hm9; exact absurd hm9 (Nat.not_lt_zero _)
    | succ f9 ih17 =>
      intro q i J1 hm17 hi u1 f1
      have e9 := hL.2.2.2.1 i
      refine tz_iload (pc := 17) dX7_found_17 rfl ?_
      refine tz_aload_n (pc := 19) dX7_found_19 rfl rfl ?_
      refine tz_iconst (pc := 20) dX7_found_20 ?_
      refine tz_aL (pc := 21) (z := 5) (v := (J 19 5)) dX7_found_21 a_19 rfl (by decide) (Eq.trans (congrFun (f1 19 rfl) 5) rfl) (fun r_21 => ?_)
      refine tz_icmp_ge (pc := 22) (tgt := 56) dX7_found_22 (by decide) (by omega) (by omega) (fun h_22 => ?_) (fun h_22 => ?_)
      · refine tz_iload (pc := 56) dX7_found_56 rfl ?_
        exact tz_iret (pc := 58) (z := q) dX7_found_58 rfl (Nat.le_of_ble_eq_true rfl) (Nat.le_of_ble_eq_true rfl) ⟨Nat.le_refl _, Nat.le_add_right _ _⟩ ⟨_, rfl, (by omega), ⟨u1.1, by omega, f1⟩⟩
      · refine tz_aload_n (pc := 25) dX7_found_25 rfl rfl ?_
        refine tz_aload_n (pc := 26) dX7_found_26 rfl rfl ?_
        refine tz_bipush (pc := 27) dX7_found_27 (by decide) ?_
        refine tz_iload (pc := 29) dX7_found_29 rfl ?_
        refine tz_iadd (pc := 31) (v := 31 + i) dX7_found_31 rfl ?_
        refine tz_aL (pc := 32) (z := (31 + i)) (v := (J 19 (31 + i))) dX7_found_32 a_19 rfl (by omega) (Eq.trans (congrFun (f1 19 rfl) (31 + i)) rfl) (fun r_32 => ?_)
        refine tz_iload_n (pc := 33) dX7_found_33 rfl rfl ?_
        refine tz_iload_n (pc := 34) dX7_found_34 rfl rfl ?_
        refine tz_cV (pc := 35) (c_isFound hl n _ _ _ _ (by omega) (by omega) (by omega) m (C.of (fun c hc => f1 c (by simp [zbut]; omega))) (by omega) ht u1.1 (by omega)) vl_X7_93 dX7_found_35 o_155 rfl rfl (Nat.le_of_ble_eq_true rfl) ⟨(Nat.le_of_ble_eq_true rfl), (Nat.le_of_ble_eq_true rfl)⟩ rfl rfl (Nat.le_of_ble_eq_true rfl) (Nat.le_of_ble_eq_true rfl) (fun r9 J_35 hq9 => ?_)
        obtain ⟨z_35, rfl, hz_35, i1, i2, i3, i4⟩ := hq9
        refine tz_if_eq (pc := 38) (tgt := 50) dX7_found_38 (by decide) (by omega) (fun h_38 => ?_) (fun h_38 => ?_)
        · refine tz_iinc (pc := 50) (z := i + 1) (L2 := [_, _, _, _, _, _]) dX7_found_50 rfl (by omega) rfl ?_
          refine tz_goto (pc := 53) (tgt := 17) dX7_found_53 (by decide) ?_
          exact ih17 _ (i + 1) _ (by omega) (by omega) ⟨i2, by omega⟩ (i4.tr f1)
        · refine tz_iload (pc := 41) dX7_found_41 rfl ?_
          refine tz_iconst (pc := 43) dX7_found_43 ?_
          refine tz_iload (pc := 44) dX7_found_44 rfl ?_
          refine tz_ishl (pc := 46) (v := zshl 1 i) dX7_found_46 rfl ?_
          refine tz_ior (pc := 47) (v := zor q (zshl 1 i)) dX7_found_47 rfl ?_
          have r_47 := zor_rg q (zshl 1 i)
          refine tz_istore (pc := 48) (L2 := [_, _, _, _, _, _]) dX7_found_48 (by decide) rfl ?_
          refine tz_iinc (pc := 50) (z := i + 1) (L2 := [_, _, _, _, _, _]) dX7_found_50 rfl (by omega) rfl ?_
          refine tz_goto (pc := 53) (tgt := 17) dX7_found_53 (by decide) ?_
          exact ih17 _ (i + 1) _ (by omega) (by omega) ⟨i2, by omega⟩ (i4.tr f1)
  exact loop17 _ 0 0 _ (Nat.lt_succ_self _) (by omega) ⟨hR, by omega⟩ zOf.rf

set_option maxHeartbeats 4000000 in
set_option maxRecDepth 100000 in
theorem c_firstRule {l : Launch} {G : tb_G} (hl : l.stackTraces = false) (n : Nat) (J : zJ) (t : Int) (hr_t : -2147483648 ≤ t ∧ t < 2147483648) (m : Int) (C : CT J m) (hL : LI (J 19) m) (ht : 0 ≤ t ∧ t < m) : tz_Ok l G M_X7_firstRule 8 0 0 [.ref 18, .ref 139, zi t] n J (zqi (fun z J' => zOf (zbut [140]) J' J ∧ (z = -1 ∨ ((0 ≤ z ∧ z < J 19 4) ∧ gOK (J' 140) m)))) zN := by
  refine tz_Ok.of hl (by decide +kernel) rfl (tb_c1 rfl) (Nat.le_of_ble_eq_true rfl) ?_
  show tz_At l G M_X7_firstRule (tb_rm 8 0 0) none (tb_ZM G 0 0 (zQ n 0 (zqi (fun z J' => zOf (zbut [140]) J' J ∧ (z = -1 ∨ ((0 ≤ z ∧ z < J 19 4) ∧ gOK (J' 140) m))))) (zX n 0 zN)) 0 0 n J 0 [some (.ref 18), some (.ref 139), some (zi t), none] []
  have hb := C.told
  have h4 := hL.1.2.1
  refine tz_iconst (pc := 0) dX7_firstRule_0 ?_
  refine tz_istore_n (pc := 1) (L2 := [_, _, _, _]) dX7_firstRule_1 rfl (by decide) rfl ?_
  have loop2 : ∀ (f9 : Nat) (i : Int) (J1 : zJ), ((8 - i).toNat) < f9 → (0 ≤ i ∧ i ≤ J 19 4) → (zOf (zbut [140]) J1 J) → tz_At l G M_X7_firstRule (tb_rm 8 0 0) none (tb_ZM G 0 0 (zQ n 0 (zqi (fun z J' => zOf (zbut [140]) J' J ∧ (z = -1 ∨ ((0 ≤ z ∧ z < J 19 4) ∧ gOK (J' 140) m))))) (zX n 0 zN)) 0 0 n J1 2 [some (.ref 18), some (.ref 139), some (zi t), some (zi i)] [] := by
    intro f9
    induction f9 with
    | zero => intro i J1 hm9; exact absurd hm9 (Nat.not_lt_zero _)
    | succ f9 ih2 =>
      intro i J1 hm2 hi f1
      have e9 := hL.2.2.1 i
      refine tz_iload_n (pc := 2) dX7_firstRule_2 rfl rfl ?_
      refine tz_aload_n (pc := 3) dX7_firstRule_3 rfl rfl ?_
      refine tz_fR (pc := 4) dX7_firstRule_4 fl_X7_60 r_18_0 ?_
      refine tz_iconst (pc := 7) dX7_firstRule_7 ?_
      refine tz_aL (pc := 8) (z := 4) (v := (J 19 4)) dX7_firstRule_8 a_19 rfl (by decide) (Eq.trans (congrFun (f1 19 rfl) 4) rfl) (fun r_8 => ?_)
      refine tz_icmp_ge (pc := 9) (tgt := 37) dX7_firstRule_9 (by decide) (by omega) (by omega) (fun h_9 => ?_) (fun h_9 => ?_)
      · refine tz_iconst (pc := 37) dX7_firstRule_37 ?_
        exact tz_iret (pc := 38) (z := (-1)) dX7_firstRule_38 rfl (Nat.le_of_ble_eq_true rfl) (Nat.le_of_ble_eq_true rfl) ⟨Nat.le_refl _, Nat.le_add_right _ _⟩ ⟨_, rfl, (by decide), (by first | exact ⟨a2.tr f1, Or.inr ⟨by omega, a3⟩⟩ | exact ⟨f1, Or.inl rfl⟩)⟩
      · refine tz_aload_n (pc := 12) dX7_firstRule_12 rfl rfl ?_
        refine tz_aload_n (pc := 13) dX7_firstRule_13 rfl rfl ?_
        refine tz_fR (pc := 14) dX7_firstRule_14 fl_X7_60 r_18_0 ?_
        refine tz_bipush (pc := 17) dX7_firstRule_17 (by decide) ?_
        refine tz_iload_n (pc := 19) dX7_firstRule_19 rfl rfl ?_
        refine tz_iadd (pc := 20) (v := 15 + i) dX7_firstRule_20 rfl ?_
        refine tz_aL (pc := 21) (z := (15 + i)) (v := (J 19 (15 + i))) dX7_firstRule_21 a_19 rfl (by omega) (Eq.trans (congrFun (f1 19 rfl) (15 + i)) rfl) (fun r_21 => ?_)
        refine tz_iload_n (pc := 22) dX7_firstRule_22 rfl rfl ?_
        refine tz_cV (pc := 23) (c_matches hl n _ _ _ (by omega) (by omega) m (C.of (fun c hc => f1 c (by simp [zbut]; omega))) (by omega) ht) vl_X7_96 dX7_firstRule_23 o_139 rfl rfl (Nat.le_of_ble_eq_true rfl) ⟨(Nat.le_of_ble_eq_true rfl), (Nat.le_of_ble_eq_true rfl)⟩ rfl rfl (Nat.le_of_ble_eq_true rfl) (Nat.le_of_ble_eq_true rfl) (fun r9 J_23 hq9 => ?_)
        obtain ⟨z_23, rfl, hz_23, a1, a2, a3⟩ := hq9
        refine tz_if_eq (pc := 26) (tgt := 31) dX7_firstRule_26 (by decide) (by omega) (fun h_26 => ?_) (fun h_26 => ?_)
        · refine tz_iinc (pc := 31) (z := i + 1) (L2 := [_, _, _, _]) dX7_firstRule_31 rfl (by omega) rfl ?_
          refine tz_goto (pc := 34) (tgt := 2) dX7_firstRule_34 (by decide) ?_
          exact ih2 (i + 1) _ (by omega) (by omega) (a2.tr f1)
        · refine tz_iload_n (pc := 29) dX7_firstRule_29 rfl rfl ?_
          exact tz_iret (pc := 30) (z := i) dX7_firstRule_30 rfl (Nat.le_of_ble_eq_true rfl) (Nat.le_of_ble_eq_true rfl) ⟨Nat.le_refl _, Nat.le_add_right _ _⟩ ⟨_, rfl, (by omega), (by first | exact ⟨a2.tr f1, Or.inr ⟨by omega, a3⟩⟩ | exact ⟨f1, Or.inl rfl⟩)⟩
  exact loop2 _ 0 _ (Nat.lt_succ_self _) (by omega) zOf.rf

set_option maxHeartbeats 4000000 in
set_option maxRecDepth 100000 in
theorem c_isReduced {l : Launch} {G : tb_G} (hl : l.stackTraces = false) (n : Nat) (J : zJ) (t : Int) (hr_t : -2147483648 ≤ t ∧ t < 2147483648) (m : Int) (C : CT J m) (hL : LI (J 19) m) (ht : 0 ≤ t ∧ t < m) : tz_Ok l G M_X7_isReduced 9 0 0 [.ref 155, zi t] n J (zqi (fun z J' => (z = 0 ∨ z = 1) ∧ zOf (zbut [17, 140]) J' J)) zN := by
  refine tz_Ok.of hl (by decide +kernel) rfl (tb_c1 rfl) (Nat.le_of_ble_eq_true rfl) ?_
  show tz_At l G M_X7_isReduced (tb_rm 9 0 0) none (tb_ZM G 0 0 (zQ n 0 (zqi (fun z J' => (z = 0 ∨ z = 1) ∧ zOf (zbut [17, 140]) J' J))) (zX n 0 zN)) 0 0 n J 0 [some (.ref 155), some (zi t), none] []
  have hb := C.told
  refine tz_aload_n (pc := 0) dX7_isReduced_0 rfl rfl ?_
  refine tz_fR (pc := 1) dX7_isReduced_1 fl_X7_21 r_155_1 ?_
  refine tz_iload_n (pc := 4) dX7_isReduced_4 rfl rfl ?_
  refine tz_cV (pc := 5) (c_mark hl n _ _ (by omega) m C ht) vl_X7_104 dX7_isReduced_5 o_6 rfl rfl (Nat.le_of_ble_eq_true rfl) ⟨(Nat.le_of_ble_eq_true rfl), (Nat.le_of_ble_eq_true rfl)⟩ rfl rfl (Nat.le_of_ble_eq_true rfl) (Nat.le_of_ble_eq_true rfl) (fun r9 J_5 hq9 => ?_)
  obtain ⟨rfl, k1, -⟩ := hq9
  refine tz_iconst (pc := 8) dX7_isReduced_8 ?_
  refine tz_istore_n (pc := 9) (L2 := [_, _, _]) dX7_isReduced_9 rfl (by decide) rfl ?_
  have loop10 : ∀ (f9 : Nat) (i : Int) (J1 : zJ), ((401 - i).toNat) < f9 → (0 ≤ i ∧ i ≤ t + 1) → (zOf (zbut [17, 140]) J1 J) → tz_At l G M_X7_isReduced (tb_rm 9 0 0) none (tb_ZM G 0 0 (zQ n 0 (zqi (fun z J' => (z = 0 ∨ z = 1) ∧ zOf (zbut [17, 140]) J' J))) (zX n 0 zN)) 0 0 n J1 10 [some (.ref 155), some (zi t), some (zi i)] [] := by
    intro f9
    induction f9 with
    | zero => intro i J1 hm9; exact absurd hm9 (Nat.not_lt_zero _)
    | succ f9 ih10 =>
      intro i J1 hm10 hi f1
      refine tz_iload_n (pc := 10) dX7_isReduced_10 rfl rfl ?_
      refine tz_iload_n (pc := 11) dX7_isReduced_11 rfl rfl ?_
      refine tz_icmp_gt (pc := 12) (tgt := 55) dX7_isReduced_12 (by decide) (by omega) (by omega) (fun h_12 => ?_) (fun h_12 => ?_)
      · refine tz_iconst (pc := 55) dX7_isReduced_55 ?_
        exact tz_zret (pc := 56) (z := 1) dX7_isReduced_56 rfl (Or.inr rfl) (Nat.le_of_ble_eq_true rfl) (Nat.le_of_ble_eq_true rfl) ⟨Nat.le_refl _, Nat.le_add_right _ _⟩ ⟨_, rfl, (by decide), (by first | exact ⟨Or.inl rfl, (a1.mono (fun c hc => by simp [zbut] at hc ⊢; omega)).tr f1⟩ | exact ⟨Or.inr rfl, f1⟩)⟩
      · refine tz_aload_n (pc := 15) dX7_isReduced_15 rfl rfl ?_
        refine tz_fR (pc := 16) dX7_isReduced_16 fl_X7_21 r_155_1 ?_
        refine tz_fR (pc := 19) dX7_isReduced_19 fl_X7_108 r_6_11 ?_
        refine tz_iload_n (pc := 22) dX7_isReduced_22 rfl rfl ?_
        refine tz_aL (pc := 23) (z := i) (v := (J1 17 i)) dX7_isReduced_23 a_17 rfl (by omega) rfl (fun r_23 => ?_)
        refine tz_iconst (pc := 24) dX7_isReduced_24 ?_
        refine tz_icmp_ne (pc := 25) (tgt := 49) dX7_isReduced_25 (by decide) (by omega) (by decide) (fun h_25 => ?_) (fun h_25 => ?_)
        · refine tz_iinc (pc := 49) (z := i + 1) (L2 := [_, _, _]) dX7_isReduced_49 rfl (by omega) rfl ?_
          refine tz_goto (pc := 52) (tgt := 10) dX7_isReduced_52 (by decide) ?_
          exact ih10 (i + 1) _ (by omega) (by omega) (by first | exact ((a1.mono (fun c hc => by simp [zbut] at hc ⊢; omega)).tr f1) | exact f1)
        · refine tz_aload_n (pc := 28) dX7_isReduced_28 rfl rfl ?_
          refine tz_fR (pc := 29) dX7_isReduced_29 fl_X7_9 r_155_0 ?_
          refine tz_fR (pc := 32) dX7_isReduced_32 fl_X7_56 r_5_1 ?_
          refine tz_aload_n (pc := 35) dX7_isReduced_35 rfl rfl ?_
          refine tz_fR (pc := 36) dX7_isReduced_36 fl_X7_22 r_155_2 ?_
          refine tz_iload_n (pc := 39) dX7_isReduced_39 rfl rfl ?_
          refine tz_cS (pc := 40) (c_firstRule hl n _ _ (by omega) m (C.of (fun c hc => f1 c (by simp [zbut]; omega))) (by rw [f1 19 rfl]; exact hL) (by omega)) sl_X7_111 dX7_isReduced_40 rfl rfl (Nat.le_of_ble_eq_true rfl) ⟨(Nat.le_of_ble_eq_true rfl), (Nat.le_of_ble_eq_true rfl)⟩ rfl rfl (Nat.le_of_ble_eq_true rfl) (Nat.le_of_ble_eq_true rfl) (fun r9 J_40 hq9 => ?_)
          obtain ⟨z_40, rfl, hz_40, a1, -⟩ := hq9
          refine tz_iconst (pc := 43) dX7_isReduced_43 ?_
          refine tz_icmp_eq (pc := 44) (tgt := 49) dX7_isReduced_44 (by decide) (by omega) (by decide) (fun h_44 => ?_) (fun h_44 => ?_)
          · refine tz_iinc (pc := 49) (z := i + 1) (L2 := [_, _, _]) dX7_isReduced_49 rfl (by omega) rfl ?_
            refine tz_goto (pc := 52) (tgt := 10) dX7_isReduced_52 (by decide) ?_
            exact ih10 (i + 1) _ (by omega) (by omega) (by first | exact ((a1.mono (fun c hc => by simp [zbut] at hc ⊢; omega)).tr f1) | exact f1)
          · refine tz_iconst (pc := 47) dX7_isReduced_47 ?_
            exact tz_zret (pc := 48) (z := 0) dX7_isReduced_48 rfl (Or.inl rfl) (Nat.le_of_ble_eq_true rfl) (Nat.le_of_ble_eq_true rfl) ⟨Nat.le_refl _, Nat.le_add_right _ _⟩ ⟨_, rfl, (by decide), (by first | exact ⟨Or.inl rfl, (a1.mono (fun c hc => by simp [zbut] at hc ⊢; omega)).tr f1⟩ | exact ⟨Or.inr rfl, f1⟩)⟩
  exact loop10 _ 0 _ (Nat.lt_succ_self _) (by omega) (k1.mono (fun c hc => by simp [zbut] at hc ⊢; omega))

