theorem AM.matchs {J2 J1 J : zJ} {m0 m : Int} (h : AM J1 J m0 m) (f : zOf (zbut [165]) J2 J1) (e : ∀ k, (k < 1 ∨ 8 < k) → J2 165 k = J1 165 k) (hb : ∀ v, 0 ≤ v → v < 8 → 0 ≤ J2 165 (1 + v) ∧ J2 165 (1 + v) ≤ m) : AM J2 J m0 m := h.r5 f (e 0 (by decide)) (fun k x => e k (by omega)) (fun _ q => ⟨q.1.of (fun k x y => e k (by omega)), q.2.1.of (fun k x y => e k (by omega)), q.2.2.1.of (fun k x y => e k (by omega)), fun v x y => by
  have := hb (v - 1) (by omega) (by omega)
  rw [show 1 + (v - 1) = v by omega] at this
  exact this⟩)
theorem AM.leaves {J2 J1 J : zJ} {m0 m : Int} (h : AM J1 J m0 m) (f : zOf (zbut [165]) J2 J1) (e : ∀ k, (k < 26 ∨ 38 < k) → J2 165 k = J1 165 k) (h0 : 0 ≤ J2 165 26 ∧ J2 165 26 ≤ 12) (hb : ∀ v, 0 ≤ v → v < J2 165 26 → 0 ≤ J2 165 (27 + v) ∧ J2 165 (27 + v) < m) : AM J2 J m0 m := h.r5 f (e 0 (by decide)) (fun k x => e k (by omega)) (fun _ q => ⟨q.1.of (fun k x y => e k (by omega)), q.2.1.of (fun k x y => e k (by omega)), ⟨h0, hb⟩, q.2.2.2.of (fun k x y => e k (by omega))⟩)
set_option maxHeartbeats 4000000 in
set_option maxRecDepth 100000 in
theorem q_match {l : Launch} {G : tb_G} (hl : l.stackTraces = false) (n : Nat) (J : zJ) (x : Int) (y : Int) (hr_x : -2147483648 ≤ x ∧ x < 2147483648) (hr_y : -2147483648 ≤ y ∧ y < 2147483648) (m : Int) (hI : MI J m)  : tz_Ok l G M_X12_match 12 0 0 [.ref 164, zi x, zi y] n J (zqi (fun z J' => MQr J' J)) zN := by
  refine tz_Ok.of hl (by decide +kernel) rfl (tb_c1 rfl) (Nat.le_of_ble_eq_true rfl) ?_
  show tz_At l G M_X12_match (tb_rm 12 0 0) none (tb_ZM G 0 0 (zQ n 0 (zqi (fun z J' => MQr J' J))) (zX n 0 zN)) 0 0 n J 0 [some (.ref 164), some (zi x), some (zi y), none] []
  have hT := hI.told
  have hW := hI.row
  have hM := hI.1
  have hL := hI.2.1
  refine tz_aload_n (pc := 0) dX12_match_0 rfl rfl ?_
  refine tz_iconst (pc := 1) dX12_match_1 ?_
  refine tz_pI (pc := 2) (kz := 8) dX12_match_2 fl_X12_68 i_164_8 rfl rfl (by decide) ?_
  refine tz_aload_n (pc := 5) dX12_match_5 rfl rfl ?_
  refine tz_iload_n (pc := 6) dX12_match_6 rfl rfl ?_
  refine tz_cV (pc := 7) (m_isTerm hl n _ _ (by omega) (by rw [(show ((zup J 164 8 0) : zJ) 165 0 = (J 165 0) from rfl)]; omega)) vl_X12_376 dX12_match_7 o_164 rfl rfl (Nat.le_of_ble_eq_true rfl) ⟨(Nat.le_of_ble_eq_true rfl), (Nat.le_of_ble_eq_true rfl)⟩ rfl rfl (Nat.le_of_ble_eq_true rfl) (Nat.le_of_ble_eq_true rfl) (fun r9 J_7 hq9 => ?_)
  obtain ⟨z_7, rfl, hz_7, rfl, ht_7⟩ := hq9
  rw [(show ((zup J 164 8 0) : zJ) 165 0 = (J 165 0) from rfl)] at ht_7
  refine tz_if_eq (pc := 10) (tgt := 21) dX12_match_10 (by decide) (by omega) (fun h_10 => ?_) (fun h_10 => ?_)
  · refine tz_aload_n (pc := 21) dX12_match_21 rfl rfl ?_
    refine tz_iconst (pc := 22) dX12_match_22 ?_
    refine tz_iconst (pc := 23) dX12_match_23 ?_
    refine tz_cV (pc := 24) (m_refuses hl n _ _ _ (by decide) (by decide) (by decide)) vl_X12_391 dX12_match_24 o_164 rfl rfl (Nat.le_of_ble_eq_true rfl) ⟨(Nat.le_of_ble_eq_true rfl), (Nat.le_of_ble_eq_true rfl)⟩ rfl rfl (Nat.le_of_ble_eq_true rfl) (Nat.le_of_ble_eq_true rfl) (fun r9 J_24 hq9 => ?_)
    obtain ⟨z_24, rfl, hz_24, e_24, f_24⟩ := hq9
    have y_24 : MZ J_24 J := MZ.tr (MZ.up (k := 8) MZ.rf (by decide)) (MZ.c f_24 (by decide))
    exact tz_iret (pc := 27) (z := z_24) dX12_match_27 rfl (Nat.le_of_ble_eq_true rfl) (Nat.le_of_ble_eq_true rfl) ⟨Nat.le_refl _, Nat.le_add_right _ _⟩ ⟨_, rfl, (by omega), MQr.z hI y_24⟩
  · refine tz_aload_n (pc := 13) dX12_match_13 rfl rfl ?_
    refine tz_iload_n (pc := 14) dX12_match_14 rfl rfl ?_
    refine tz_cV (pc := 15) (m_isTerm hl n _ _ (by omega) (by rw [(show ((zup J 164 8 0) : zJ) 165 0 = (J 165 0) from rfl)]; omega)) vl_X12_376 dX12_match_15 o_164 rfl rfl (Nat.le_of_ble_eq_true rfl) ⟨(Nat.le_of_ble_eq_true rfl), (Nat.le_of_ble_eq_true rfl)⟩ rfl rfl (Nat.le_of_ble_eq_true rfl) (Nat.le_of_ble_eq_true rfl) (fun r9 J_15 hq9 => ?_)
    obtain ⟨z_15, rfl, hz_15, rfl, ht_15⟩ := hq9
    rw [(show ((zup J 164 8 0) : zJ) 165 0 = (J 165 0) from rfl)] at ht_15
    refine tz_if_ne (pc := 18) (tgt := 28) dX12_match_18 (by decide) (by omega) (fun h_18 => ?_) (fun h_18 => ?_)
    · refine tz_aload_n (pc := 28) dX12_match_28 rfl rfl ?_
      refine tz_iload_n (pc := 29) dX12_match_29 rfl rfl ?_
      refine tz_iload_n (pc := 30) dX12_match_30 rfl rfl ?_
      refine tz_cV (pc := 31) (m_doesMatch hl n _ _ _ (by omega) (by omega) 0 0 0 (J 164 9) m (hM.z (MZ.up (k := 8) MZ.rf (by decide))) (by omega) (by omega)) vl_X12_227 dX12_match_31 o_164 rfl rfl (Nat.le_of_ble_eq_true rfl) ⟨(Nat.le_of_ble_eq_true rfl), (Nat.le_of_ble_eq_true rfl)⟩ rfl rfl (Nat.le_of_ble_eq_true rfl) (Nat.le_of_ble_eq_true rfl) (fun r9 J_31 hq9 => ?_)
      obtain ⟨z_31, rfl, hz_31, b_31, f_31, g_31⟩ := hq9
      have x_31 : MZ J_31 (zup J 164 8 0) := MZ.c f_31 (by decide)
      have y_31 := MZ.tr (MZ.up (k := 8) MZ.rf (by decide)) x_31
      refine tz_if_ne (pc := 34) (tgt := 44) dX12_match_34 (by decide) (by omega) (fun h_34 => ?_) (fun h_34 => ?_)
      · refine tz_aload_n (pc := 44) dX12_match_44 rfl rfl ?_
        refine tz_cV (pc := 45) (m_begins hl n _) vl_X12_400 dX12_match_45 o_164 rfl rfl (Nat.le_of_ble_eq_true rfl) ⟨(Nat.le_of_ble_eq_true rfl), (Nat.le_of_ble_eq_true rfl)⟩ rfl rfl (Nat.le_of_ble_eq_true rfl) (Nat.le_of_ble_eq_true rfl) (fun r9 J_45 hq9 => ?_)
        obtain ⟨rfl, hj_45⟩ := hq9
        have a_45 : AM J_45 J m m := by rw [← hj_45]; exact AM.begin (hI.z y_31) ⟨MZ.lo y_31, SC.z y_31⟩
        have br_45 : ∀ k, (k < 63 ∨ 126 ≤ k) → J_45 165 k = (J_31 : zJ) 165 k := fun k hk => by rw [← hj_45]; exact zbg_r hk
        have bl_45 : ∀ k, ¬ k = 34 → ¬ k = 33 → ¬ k = 21 → J_45 164 k = (J_31 : zJ) 164 k := fun k u v w => by rw [← hj_45]; exact zbg_f u v w
        have bo_45 : zOf (zbut [164, 165]) J_45 J_31 := by rw [← hj_45]; exact zbg_of
        have b3_45 : J_45 164 21 = 0 ∧ J_45 164 33 = 0 ∧ J_45 164 34 = 0 := by rw [← hj_45]; exact ⟨rfl, rfl, rfl⟩
        have s9_45 : J_45 164 9 = J 164 9 := (bl_45 9 (by decide) (by decide) (by decide)).trans (y_31.2 9 (by decide) (by decide))
        refine tz_iconst (pc := 48) dX12_match_48 ?_
        refine tz_istore_n (pc := 49) (L2 := [_, _, _, _]) dX12_match_49 rfl (by decide) rfl ?_
        have loop50 : ∀ (f9 : Nat) (k : Int) (J1 : zJ), ((8 - k).toNat) < f9 → (0 ≤ k ∧ k ≤ 8) → (zOf (zbut [165]) J1 J_45) → (∀ q, (q < 1 ∨ 8 < q) → J1 165 q = J_45 165 q) → (∀ v, 0 ≤ v → v < k → 0 ≤ J1 165 (1 + v) ∧ J1 165 (1 + v) ≤ m) → tz_At l G M_X12_match (tb_rm 12 0 0) none (tb_ZM G 0 0 (zQ n 0 (zqi (fun z J' => MQr J' J))) (zX n 0 zN)) 0 0 n J1 50 [some (.ref 164), some (zi x), some (zi y), some (zi k)] [] := by
          intro f9
          induction f9 with
          | zero => intro k J1 hm9; exact absurd hm9 (Nat.not_lt_zero _)
          | succ f9 ih50 =>
            intro k J1 hm50 hk f1 e1 h1
            refine tz_iload_n (pc := 50) dX12_match_50 rfl rfl ?_
            refine tz_bipush (pc := 51) dX12_match_51 (by decide) ?_
            refine tz_icmp_ge (pc := 53) (tgt := 78) dX12_match_53 (by decide) (by omega) (by decide) (fun h_53 => ?_) (fun h_53 => ?_)
            · refine tz_aload_n (pc := 78) dX12_match_78 rfl rfl ?_
              refine tz_iconst (pc := 79) dX12_match_79 ?_
              refine tz_cV (pc := 80) (m_keeps hl n _ _ (by decide) ((AM.matchs a_45 f1 e1 (fun v p q => h1 v p (by omega)))).2.2.2.1.1.1 ((AM.matchs a_45 f1 e1 (fun v p q => h1 v p (by omega)))).2.2.2.1.1.2) vl_X12_403 dX12_match_80 o_164 rfl rfl (Nat.le_of_ble_eq_true rfl) ⟨(Nat.le_of_ble_eq_true rfl), (Nat.le_of_ble_eq_true rfl)⟩ rfl rfl (Nat.le_of_ble_eq_true rfl) (Nat.le_of_ble_eq_true rfl) (fun r9 J_80 hq9 => ?_)
              obtain ⟨z_80, rfl, hz_80, k_80⟩ := hq9
              exact tz_iret (pc := 83) (z := z_80) dX12_match_83 rfl (Nat.le_of_ble_eq_true rfl) (Nat.le_of_ble_eq_true rfl) ⟨Nat.le_refl _, Nat.le_add_right _ _⟩ ⟨_, rfl, (by omega), AM.keep (AM.matchs a_45 f1 e1 (fun v p q => h1 v p (by omega))) k_80⟩
            · have hg9 := g_31 k (by omega) (by omega)
              refine tz_aload_n (pc := 56) dX12_match_56 rfl rfl ?_
              refine tz_fR (pc := 57) dX12_match_57 fl_X12_9 r_164_0 ?_
              refine tz_iconst (pc := 60) dX12_match_60 ?_
              refine tz_iload_n (pc := 61) dX12_match_61 rfl rfl ?_
              refine tz_iadd (pc := 62) (v := 1 + k) dX12_match_62 rfl ?_
              refine tz_aload_n (pc := 63) dX12_match_63 rfl rfl ?_
              refine tz_fR (pc := 64) dX12_match_64 fl_X12_41 r_164_22 ?_
              refine tz_iload_n (pc := 67) dX12_match_67 rfl rfl ?_
              refine tz_aL (pc := 68) (z := k) (v := (J_31 174 k)) dX12_match_68 a_174 rfl (by omega) (Eq.trans (congrFun (f1 174 rfl) k) (Eq.trans (congrFun (bo_45 174 rfl) k) rfl)) (fun r_68 => ?_)
              refine tz_iconst (pc := 69) dX12_match_69 ?_
              refine tz_iadd (pc := 70) (v := (J_31 174 k) + 1) dX12_match_70 rfl ?_
              refine tz_aS (pc := 71) (z := (1 + k)) dX12_match_71 a_165 rfl (by omega) (by omega) ?_
              refine tz_iinc (pc := 72) (z := k + 1) (L2 := [_, _, _, _]) dX12_match_72 rfl (by omega) rfl ?_
              refine tz_goto (pc := 75) (tgt := 50) dX12_match_75 (by decide) ?_
              exact ih50 (k + 1) _ (by omega) (by omega) (zOf.up rfl f1) (fun q z => (zup_ne (by omega)).trans (e1 q z)) (fun v p q => (Decidable.em (v = k)).elim (fun e => by rw [e, zup_at]; omega) (fun e => by rw [zup_ne (by omega)]; exact h1 v p (by omega)))
        exact loop50 _ 0 _ (Nat.lt_succ_self _) (by omega) zOf.rf (fun _ _ => rfl) (fun v p q => by omega)
      · refine tz_aload_n (pc := 37) dX12_match_37 rfl rfl ?_
        refine tz_iconst (pc := 38) dX12_match_38 ?_
        refine tz_iconst (pc := 39) dX12_match_39 ?_
        refine tz_cV (pc := 40) (m_refuses hl n _ _ _ (by decide) (by decide) (by decide)) vl_X12_391 dX12_match_40 o_164 rfl rfl (Nat.le_of_ble_eq_true rfl) ⟨(Nat.le_of_ble_eq_true rfl), (Nat.le_of_ble_eq_true rfl)⟩ rfl rfl (Nat.le_of_ble_eq_true rfl) (Nat.le_of_ble_eq_true rfl) (fun r9 J_40 hq9 => ?_)
        obtain ⟨z_40, rfl, hz_40, e_40, f_40⟩ := hq9
        have y_40 : MZ J_40 J := MZ.tr y_31 (MZ.c f_40 (by decide))
        exact tz_iret (pc := 43) (z := z_40) dX12_match_43 rfl (Nat.le_of_ble_eq_true rfl) (Nat.le_of_ble_eq_true rfl) ⟨Nat.le_refl _, Nat.le_add_right _ _⟩ ⟨_, rfl, (by omega), MQr.z hI y_40⟩
    · refine tz_aload_n (pc := 21) dX12_match_21 rfl rfl ?_
      refine tz_iconst (pc := 22) dX12_match_22 ?_
      refine tz_iconst (pc := 23) dX12_match_23 ?_
      refine tz_cV (pc := 24) (m_refuses hl n _ _ _ (by decide) (by decide) (by decide)) vl_X12_391 dX12_match_24 o_164 rfl rfl (Nat.le_of_ble_eq_true rfl) ⟨(Nat.le_of_ble_eq_true rfl), (Nat.le_of_ble_eq_true rfl)⟩ rfl rfl (Nat.le_of_ble_eq_true rfl) (Nat.le_of_ble_eq_true rfl) (fun r9 J_24 hq9 => ?_)
      obtain ⟨z_24, rfl, hz_24, e_24, f_24⟩ := hq9
      have y_24 : MZ J_24 J := MZ.tr (MZ.up (k := 8) MZ.rf (by decide)) (MZ.c f_24 (by decide))
      exact tz_iret (pc := 27) (z := z_24) dX12_match_27 rfl (Nat.le_of_ble_eq_true rfl) (Nat.le_of_ble_eq_true rfl) ⟨Nat.le_refl _, Nat.le_add_right _ _⟩ ⟨_, rfl, (by omega), MQr.z hI y_24⟩

set_option maxHeartbeats 4000000 in
set_option maxRecDepth 100000 in
theorem q_leave {l : Launch} {G : tb_G} (hl : l.stackTraces = false) (n : Nat) (J : zJ) (x : Int) (hr_x : -2147483648 ≤ x ∧ x < 2147483648) (m : Int) (hI : MI J m)  : tz_Ok l G M_X12_leave 3 0 0 [.ref 164, zi x] n J (zqi (fun z J' => MQr J' J)) zN := by
  refine tz_Ok.of hl (by decide +kernel) rfl (tb_c1 rfl) (Nat.le_of_ble_eq_true rfl) ?_
  show tz_At l G M_X12_leave (tb_rm 3 0 0) none (tb_ZM G 0 0 (zQ n 0 (zqi (fun z J' => MQr J' J))) (zX n 0 zN)) 0 0 n J 0 [some (.ref 164), some (zi x), none, none] []
  have hT := hI.told
  have hW := hI.row
  have hM := hI.1
  have hL := hI.2.1
  refine tz_aload_n (pc := 0) dX12_leave_0 rfl rfl ?_
  refine tz_iconst (pc := 1) dX12_leave_1 ?_
  refine tz_pI (pc := 2) (kz := 8) dX12_leave_2 fl_X12_68 i_164_8 rfl rfl (by decide) ?_
  refine tz_aload_n (pc := 5) dX12_leave_5 rfl rfl ?_
  refine tz_iload_n (pc := 6) dX12_leave_6 rfl rfl ?_
  refine tz_cV (pc := 7) (m_isTerm hl n _ _ (by omega) (by rw [(show ((zup J 164 8 0) : zJ) 165 0 = (J 165 0) from rfl)]; omega)) vl_X12_376 dX12_leave_7 o_164 rfl rfl (Nat.le_of_ble_eq_true rfl) ⟨(Nat.le_of_ble_eq_true rfl), (Nat.le_of_ble_eq_true rfl)⟩ rfl rfl (Nat.le_of_ble_eq_true rfl) (Nat.le_of_ble_eq_true rfl) (fun r9 J_7 hq9 => ?_)
  obtain ⟨z_7, rfl, hz_7, rfl, ht_7⟩ := hq9
  rw [(show ((zup J 164 8 0) : zJ) 165 0 = (J 165 0) from rfl)] at ht_7
  refine tz_if_eq (pc := 10) (tgt := 21) dX12_leave_10 (by decide) (by omega) (fun h_10 => ?_) (fun h_10 => ?_)
  · refine tz_iconst (pc := 21) dX12_leave_21 ?_
    refine tz_istore_n (pc := 22) (L2 := [_, _, _, _]) dX12_leave_22 rfl (by decide) rfl ?_
    refine tz_iload_n (pc := 23) dX12_leave_23 rfl rfl ?_
    refine tz_iconst (pc := 24) dX12_leave_24 ?_
    refine tz_icmp_neF (pc := 25) (tgt := 35) (by decide) dX12_leave_25 (by decide) (by decide) (by decide) ?_
    refine tz_aload_n (pc := 28) dX12_leave_28 rfl rfl ?_
    refine tz_iconst (pc := 29) dX12_leave_29 ?_
    refine tz_iconst (pc := 30) dX12_leave_30 ?_
    refine tz_cV (pc := 31) (m_refuses hl n _ _ _ (by decide) (by decide) (by decide)) vl_X12_391 dX12_leave_31 o_164 rfl rfl (Nat.le_of_ble_eq_true rfl) ⟨(Nat.le_of_ble_eq_true rfl), (Nat.le_of_ble_eq_true rfl)⟩ rfl rfl (Nat.le_of_ble_eq_true rfl) (Nat.le_of_ble_eq_true rfl) (fun r9 J_31 hq9 => ?_)
    obtain ⟨z_31, rfl, hz_31, e_31, f_31⟩ := hq9
    have y_31 : MZ J_31 J := MZ.tr (MZ.up (k := 8) MZ.rf (by decide)) (MZ.c f_31 (by decide))
    exact tz_iret (pc := 34) (z := z_31) dX12_leave_34 rfl (Nat.le_of_ble_eq_true rfl) (Nat.le_of_ble_eq_true rfl) ⟨Nat.le_refl _, Nat.le_add_right _ _⟩ ⟨_, rfl, (by omega), MQr.z hI y_31⟩
  · refine tz_aload_n (pc := 13) dX12_leave_13 rfl rfl ?_
    refine tz_iload_n (pc := 14) dX12_leave_14 rfl rfl ?_
    have h16_15 : ((zup J 164 8 0) : zJ) 164 16 = 0 := (show ((zup J 164 8 0) : zJ) 164 16 = (J 164 16) from rfl).trans hT.2.2.2.1.2.1
    have h26_15 : ((zup J 164 8 0) : zJ) 165 (0 + 26) = J 165 26 := by rw [Int.zero_add]; exact (show ((zup J 164 8 0) : zJ) 165 26 = (J 165 26) from rfl)
    refine tz_cV (pc := 15) (m_entryOf hl n _ _ (by omega) (by rw [h16_15]; decide) (by rw [h16_15, h26_15]; omega)) vl_X12_307 dX12_leave_15 o_164 rfl rfl (Nat.le_of_ble_eq_true rfl) ⟨(Nat.le_of_ble_eq_true rfl), (Nat.le_of_ble_eq_true rfl)⟩ rfl rfl (Nat.le_of_ble_eq_true rfl) (Nat.le_of_ble_eq_true rfl) (fun r9 J_15 hq9 => ?_)
    obtain ⟨z_15, rfl, hz_15, rfl, he_15⟩ := hq9
    rw [h16_15, h26_15] at he_15
    refine tz_goto (pc := 18) (tgt := 22) dX12_leave_18 (by decide) ?_
    refine tz_istore_n (pc := 22) (L2 := [_, _, _, _]) dX12_leave_22 rfl (by decide) rfl ?_
    refine tz_iload_n (pc := 23) dX12_leave_23 rfl rfl ?_
    refine tz_iconst (pc := 24) dX12_leave_24 ?_
    refine tz_icmp_ne (pc := 25) (tgt := 35) dX12_leave_25 (by decide) (by omega) (by decide) (fun h_25 => ?_) (fun h_25 => ?_)
    · refine tz_aload_n (pc := 35) dX12_leave_35 rfl rfl ?_
      refine tz_cV (pc := 36) (m_begins hl n _) vl_X12_400 dX12_leave_36 o_164 rfl rfl (Nat.le_of_ble_eq_true rfl) ⟨(Nat.le_of_ble_eq_true rfl), (Nat.le_of_ble_eq_true rfl)⟩ rfl rfl (Nat.le_of_ble_eq_true rfl) (Nat.le_of_ble_eq_true rfl) (fun r9 J_36 hq9 => ?_)
      obtain ⟨rfl, hj_36⟩ := hq9
      have a_36 : AM J_36 J m m := by rw [← hj_36]; exact AM.begin (hI.z (MZ.up (k := 8) MZ.rf (by decide))) ⟨MZ.lo (MZ.up (k := 8) MZ.rf (by decide)), SC.z (MZ.up (k := 8) MZ.rf (by decide))⟩
      have br_36 : ∀ k, (k < 63 ∨ 126 ≤ k) → J_36 165 k = ((zup J 164 8 0) : zJ) 165 k := fun k hk => by rw [← hj_36]; exact zbg_r hk
      have bl_36 : ∀ k, ¬ k = 34 → ¬ k = 33 → ¬ k = 21 → J_36 164 k = ((zup J 164 8 0) : zJ) 164 k := fun k u v w => by rw [← hj_36]; exact zbg_f u v w
      have bo_36 : zOf (zbut [164, 165]) J_36 (zup J 164 8 0) := by rw [← hj_36]; exact zbg_of
      have b3_36 : J_36 164 21 = 0 ∧ J_36 164 33 = 0 ∧ J_36 164 34 = 0 := by rw [← hj_36]; exact ⟨rfl, rfl, rfl⟩
      have s9_36 : J_36 164 9 = J 164 9 := (bl_36 9 (by decide) (by decide) (by decide)).trans ((MZ.up (k := 8) MZ.rf (by decide)).2 9 (by decide) (by decide))
      refine tz_aload_n (pc := 39) dX12_leave_39 rfl rfl ?_
      refine tz_fR (pc := 40) dX12_leave_40 fl_X12_9 r_164_0 ?_
      refine tz_bipush (pc := 43) dX12_leave_43 (by decide) ?_
      refine tz_dup2 (pc := 45) dX12_leave_45 rfl rfl ?_
      refine tz_aL (pc := 46) (z := 26) (v := (J 165 26)) dX12_leave_46 a_165 rfl (by decide) (Eq.trans (br_36 26 (by omega)) rfl) (fun r_46 => ?_)
      refine tz_iconst (pc := 47) dX12_leave_47 ?_
      refine tz_isub (pc := 48) (v := (J 165 26) - 1) dX12_leave_48 rfl ?_
      refine tz_aS (pc := 49) (z := 26) dX12_leave_49 a_165 rfl (by decide) (by omega) ?_
      refine tz_iload_n (pc := 50) dX12_leave_50 rfl rfl ?_
      refine tz_istore_n (pc := 51) (L2 := [_, _, _, _]) dX12_leave_51 rfl (by decide) rfl ?_
      have loop52 : ∀ (f9 : Nat) (k : Int) (J1 : zJ), ((12 - k).toNat) < f9 → (0 ≤ k ∧ k ≤ 12) → (zOf (zbut [165]) J1 J_36) → (∀ q, (q < 26 ∨ 38 < q) → J1 165 q = J_36 165 q) → (J1 165 26 = J 165 26 - 1) → (∀ v, 0 ≤ v → v < J 165 26 → 0 ≤ J1 165 (27 + v) ∧ J1 165 (27 + v) < m) → tz_At l G M_X12_leave (tb_rm 3 0 0) none (tb_ZM G 0 0 (zQ n 0 (zqi (fun z J' => MQr J' J))) (zX n 0 zN)) 0 0 n J1 52 [some (.ref 164), some (zi x), some (zi z_15), some (zi k)] [] := by
        intro f9
        induction f9 with
        | zero => intro k J1 hm9; exact absurd hm9 (Nat.not_lt_zero _)
        | succ f9 ih52 =>
          intro k J1 hm52 hk f1 e1 c1 h1
          refine tz_iload_n (pc := 52) dX12_leave_52 rfl rfl ?_
          refine tz_aload_n (pc := 53) dX12_leave_53 rfl rfl ?_
          refine tz_fR (pc := 54) dX12_leave_54 fl_X12_9 r_164_0 ?_
          refine tz_bipush (pc := 57) dX12_leave_57 (by decide) ?_
          refine tz_aL (pc := 59) (z := 26) (v := (J 165 26 - 1)) dX12_leave_59 a_165 rfl (by decide) c1 (fun r_59 => ?_)
          refine tz_icmp_ge (pc := 60) (tgt := 89) dX12_leave_60 (by decide) (by omega) (by omega) (fun h_60 => ?_) (fun h_60 => ?_)
          · refine tz_aload_n (pc := 89) dX12_leave_89 rfl rfl ?_
            refine tz_aload_n (pc := 90) dX12_leave_90 rfl rfl ?_
            refine tz_fR (pc := 91) dX12_leave_91 fl_X12_9 r_164_0 ?_
            refine tz_bipush (pc := 94) dX12_leave_94 (by decide) ?_
            refine tz_aL (pc := 96) (z := 26) (v := (J 165 26 - 1)) dX12_leave_96 a_165 rfl (by decide) c1 (fun r_96 => ?_)
            refine tz_cV (pc := 97) (m_keeps hl n _ _ (by omega) ((AM.leaves a_36 f1 e1 (by omega) (fun v p q => h1 v p (by omega)))).2.2.2.1.1.1 ((AM.leaves a_36 f1 e1 (by omega) (fun v p q => h1 v p (by omega)))).2.2.2.1.1.2) vl_X12_403 dX12_leave_97 o_164 rfl rfl (Nat.le_of_ble_eq_true rfl) ⟨(Nat.le_of_ble_eq_true rfl), (Nat.le_of_ble_eq_true rfl)⟩ rfl rfl (Nat.le_of_ble_eq_true rfl) (Nat.le_of_ble_eq_true rfl) (fun r9 J_97 hq9 => ?_)
            obtain ⟨z_97, rfl, hz_97, k_97⟩ := hq9
            exact tz_iret (pc := 100) (z := z_97) dX12_leave_100 rfl (Nat.le_of_ble_eq_true rfl) (Nat.le_of_ble_eq_true rfl) ⟨Nat.le_refl _, Nat.le_add_right _ _⟩ ⟨_, rfl, (by omega), AM.keep (AM.leaves a_36 f1 e1 (by omega) (fun v p q => h1 v p (by omega))) k_97⟩
          · have hn9 := h1 (k + 1) (by omega) (by omega)
            rw [show 27 + (k + 1) = 27 + k + 1 by omega] at hn9
            refine tz_aload_n (pc := 63) dX12_leave_63 rfl rfl ?_
            refine tz_fR (pc := 64) dX12_leave_64 fl_X12_9 r_164_0 ?_
            refine tz_bipush (pc := 67) dX12_leave_67 (by decide) ?_
            refine tz_iload_n (pc := 69) dX12_leave_69 rfl rfl ?_
            refine tz_iadd (pc := 70) (v := 27 + k) dX12_leave_70 rfl ?_
            refine tz_aload_n (pc := 71) dX12_leave_71 rfl rfl ?_
            refine tz_fR (pc := 72) dX12_leave_72 fl_X12_9 r_164_0 ?_
            refine tz_bipush (pc := 75) dX12_leave_75 (by decide) ?_
            refine tz_iload_n (pc := 77) dX12_leave_77 rfl rfl ?_
            refine tz_iadd (pc := 78) (v := 27 + k) dX12_leave_78 rfl ?_
            refine tz_iconst (pc := 79) dX12_leave_79 ?_
            refine tz_iadd (pc := 80) (v := (27 + k) + 1) dX12_leave_80 rfl ?_
            refine tz_aL (pc := 81) (z := ((27 + k) + 1)) (v := (J1 165 ((27 + k) + 1))) dX12_leave_81 a_165 rfl (by omega) rfl (fun r_81 => ?_)
            refine tz_aS (pc := 82) (z := (27 + k)) dX12_leave_82 a_165 rfl (by omega) (by omega) ?_
            refine tz_iinc (pc := 83) (z := k + 1) (L2 := [_, _, _, _]) dX12_leave_83 rfl (by omega) rfl ?_
            refine tz_goto (pc := 86) (tgt := 52) dX12_leave_86 (by decide) ?_
            exact ih52 (k + 1) _ (by omega) (by omega) (zOf.up rfl f1) (fun q z => (zup_ne (by omega)).trans (e1 q z)) ((zup_ne (by omega)).trans c1) (fun v p q => (Decidable.em (v = k)).elim (fun e => by rw [e, zup_at]; exact hn9) (fun e => by rw [zup_ne (by omega)]; exact h1 v p q))
      exact loop52 _ _ _ (Nat.lt_succ_self _) (by omega) (zOf.up rfl zOf.rf) (fun q z => zup_ne (by omega)) zup_at (fun v p q => by rw [zup_ne (by omega), br_36 _ (by omega)]; exact hL.2.2.1.2 v p q)
    · refine tz_aload_n (pc := 28) dX12_leave_28 rfl rfl ?_
      refine tz_iconst (pc := 29) dX12_leave_29 ?_
      refine tz_iconst (pc := 30) dX12_leave_30 ?_
      refine tz_cV (pc := 31) (m_refuses hl n _ _ _ (by decide) (by decide) (by decide)) vl_X12_391 dX12_leave_31 o_164 rfl rfl (Nat.le_of_ble_eq_true rfl) ⟨(Nat.le_of_ble_eq_true rfl), (Nat.le_of_ble_eq_true rfl)⟩ rfl rfl (Nat.le_of_ble_eq_true rfl) (Nat.le_of_ble_eq_true rfl) (fun r9 J_31 hq9 => ?_)
      obtain ⟨z_31, rfl, hz_31, e_31, f_31⟩ := hq9
      have y_31 : MZ J_31 J := MZ.tr (MZ.up (k := 8) MZ.rf (by decide)) (MZ.c f_31 (by decide))
      exact tz_iret (pc := 34) (z := z_31) dX12_leave_34 rfl (Nat.le_of_ble_eq_true rfl) (Nat.le_of_ble_eq_true rfl) ⟨Nat.le_refl _, Nat.le_add_right _ _⟩ ⟨_, rfl, (by omega), MQr.z hI y_31⟩

theorem MI.undo {J : zJ} {m : Int} (h : MI J m) (ha : 0 < J 164 10) : MQr (zmv (zup (zup J 164 8 0) 164 10 (J 164 10 - 1)) 165 (189 + 63 * ((J 164 11 + (J 164 10 - 1)) % 40)) 0 63) J := by
  have hT := h.told
  obtain ⟨⟨p1, p2, p3⟩, p4⟩ := h.2.2.1.pop ha
  have e4 : ∀ k, ¬ k = 8 → ¬ k = 10 → zmv (zup (zup J 164 8 0) 164 10 (J 164 10 - 1)) 165 (189 + 63 * ((J 164 11 + (J 164 10 - 1)) % 40)) 0 63 164 k = J 164 k := fun k a b => by
    show zup (zup J 164 8 0) 164 10 (J 164 10 - 1) 164 k = _
    rw [zup_ne b, zup_ne a]
  have e10 : zmv (zup (zup J 164 8 0) 164 10 (J 164 10 - 1)) 165 (189 + 63 * ((J 164 11 + (J 164 10 - 1)) % 40)) 0 63 164 10 = J 164 10 - 1 := rfl
  have g : zOf (zbut [164, 165]) (zmv (zup (zup J 164 8 0) 164 10 (J 164 10 - 1)) 165 (189 + 63 * ((J 164 11 + (J 164 10 - 1)) % 40)) 0 63) J := zOf.mv rfl (zOf.up rfl (zOf.up rfl zOf.rf))
  have hp : 0 ≤ (J 164 11 + (J 164 10 - 1)) % 40 ∧ (J 164 11 + (J 164 10 - 1)) % 40 < 40 := by omega
  have e5 : ∀ k, zmv (zup (zup J 164 8 0) 164 10 (J 164 10 - 1)) 165 (189 + 63 * ((J 164 11 + (J 164 10 - 1)) % 40)) 0 63 165 k = if 0 ≤ k ∧ k < 0 + 63 then J 165 (189 + 63 * ((J 164 11 + (J 164 10 - 1)) % 40) + (k - 0)) else J 165 k := fun k => rfl
  generalize zmv (zup (zup J 164 8 0) 164 10 (J 164 10 - 1)) 165 (189 + 63 * ((J 164 11 + (J 164 10 - 1)) % 40)) 0 63 = J2 at *
  generalize (J 164 11 + (J 164 10 - 1)) % 40 = P at *
  have q1 : ML (fun q => J 165 (189 + 63 * P + q)) (J 165 (189 + 63 * P + 0)) := p1
  have q2 : 0 ≤ J 165 (189 + 63 * P + 0) ∧ J 165 (189 + 63 * P + 0) ≤ m := ⟨p2, p3⟩
  have q4 : MK0 (fun i q => J 165 (189 + 63 * i + q)) (J 164 10 - 1) (J 164 11) (J 165 (189 + 63 * P + 0)) := p4
  have a5 : ∀ k, 0 ≤ k → k < 63 → J2 165 k = J 165 (189 + 63 * P + k) := fun k a b => by
    rw [e5, if_pos (by omega)]
    congr 1
    omega
  have b5 : ∀ k, 63 ≤ k → J2 165 k = J 165 k := fun k a => by rw [e5, if_neg (by omega)]
  refine ⟨⟨J 165 (189 + 63 * P + 0), ⟨h.1.1, (e4 15 (by decide) (by decide)).trans h.1.2.1, (e4 16 (by decide) (by decide)).trans h.1.2.2.1, (e4 17 (by decide) (by decide)).trans h.1.2.2.2.1, a5 0 (by decide) (by decide), ?_⟩, q1.of (fun k a b => a5 k (by omega) (by omega)), ?_, h.2.2.2.of (fun k hk => e4 k (by omega) (by omega)) (fun k a => b5 k (by omega)) (fun k _ _ => ⟨by rw [g 166 rfl], by rw [g 168 rfl]⟩) (fun k _ _ => by rw [g 167 rfl]) (fun k _ _ => by rw [g 170 rfl])⟩, fun c hc => g c ?_, ⟨e4 19 (by decide) (by decide), e4 20 (by decide) (by decide), e4 14 (by decide) (by decide)⟩⟩
  · unfold MTT
    rw [e4 9 (by decide) (by decide), g 166 rfl, g 167 rfl, g 168 rfl, g 170 rfl]
    exact h.1.2.2.2.2.2.cut q2.1 q2.2
  · unfold MK
    rw [e10, e4 11 (by decide) (by decide)]
    exact q4.of (Int.le_refl _) (fun i q x y u v => b5 _ (by omega))
  · exact zbut_lo (by decide) hc
set_option maxHeartbeats 4000000 in
set_option maxRecDepth 100000 in
theorem q_undo {l : Launch} {G : tb_G} (hl : l.stackTraces = false) (n : Nat) (J : zJ)   (m : Int) (hI : MI J m)  : tz_Ok l G M_X12_undo 1 0 0 [.ref 164] n J (zqi (fun z J' => MQr J' J)) zN := by
  refine tz_Ok.of hl (by decide +kernel) rfl (tb_c1 rfl) (Nat.le_of_ble_eq_true rfl) ?_
  show tz_At l G M_X12_undo (tb_rm 1 0 0) none (tb_ZM G 0 0 (zQ n 0 (zqi (fun z J' => MQr J' J))) (zX n 0 zN)) 0 0 n J 0 [some (.ref 164)] []
  have hT := hI.told
  have hW := hI.row
  have hM := hI.1
  have hL := hI.2.1
  refine tz_aload_n (pc := 0) dX12_undo_0 rfl rfl ?_
  refine tz_iconst (pc := 1) dX12_undo_1 ?_
  refine tz_pI (pc := 2) (kz := 8) dX12_undo_2 fl_X12_68 i_164_8 rfl rfl (by decide) ?_
  refine tz_aload_n (pc := 5) dX12_undo_5 rfl rfl ?_
  refine tz_fI (pc := 6) (kz := 10) (v := (J 164 10)) dX12_undo_6 fl_X12_356 i_164_10 rfl rfl (fun r_6 => ?_)
  refine tz_if_ne (pc := 9) (tgt := 14) dX12_undo_9 (by decide) (by omega) (fun h_9 => ?_) (fun h_9 => ?_)
  · refine tz_aload_n (pc := 14) dX12_undo_14 rfl rfl ?_
    refine tz_dup (pc := 15) dX12_undo_15 rfl ?_
    refine tz_fI (pc := 16) (kz := 10) (v := (J 164 10)) dX12_undo_16 fl_X12_356 i_164_10 rfl rfl (fun r_16 => ?_)
    refine tz_iconst (pc := 19) dX12_undo_19 ?_
    refine tz_isub (pc := 20) (v := (J 164 10) - 1) dX12_undo_20 rfl ?_
    refine tz_pI (pc := 21) (kz := 10) dX12_undo_21 fl_X12_356 i_164_10 rfl rfl (by omega) ?_
    refine tz_aload_n (pc := 24) dX12_undo_24 rfl rfl ?_
    refine tz_aload_n (pc := 25) dX12_undo_25 rfl rfl ?_
    refine tz_fI (pc := 26) (kz := 11) (v := (J 164 11)) dX12_undo_26 fl_X12_353 i_164_11 rfl rfl (fun r_26 => ?_)
    refine tz_aload_n (pc := 29) dX12_undo_29 rfl rfl ?_
    refine tz_fI (pc := 30) (kz := 10) (v := ((J 164 10) - 1)) dX12_undo_30 fl_X12_356 i_164_10 rfl rfl (fun r_30 => ?_)
    refine tz_cS (pc := 33) (m_keptAt hl n _ _ _ (by omega) (by omega) (by omega)) sl_X12_397 dX12_undo_33 rfl rfl (Nat.le_of_ble_eq_true rfl) ⟨(Nat.le_of_ble_eq_true rfl), (Nat.le_of_ble_eq_true rfl)⟩ rfl rfl (Nat.le_of_ble_eq_true rfl) (Nat.le_of_ble_eq_true rfl) (fun r9 J_33 hq9 => ?_)
    obtain ⟨z_33, rfl, hz_33, rfl, rfl⟩ := hq9
    refine tz_iconst (pc := 36) dX12_undo_36 ?_
    refine tz_bipush (pc := 37) dX12_undo_37 (by decide) ?_
    refine tz_cV (pc := 39) (zm_copies hl n _ _ _ _ (by omega) (by decide) (by decide) (by omega) (by omega)) vl_X12_343 dX12_undo_39 o_164 rfl rfl (Nat.le_of_ble_eq_true rfl) ⟨(Nat.le_of_ble_eq_true rfl), (Nat.le_of_ble_eq_true rfl)⟩ rfl rfl (Nat.le_of_ble_eq_true rfl) (Nat.le_of_ble_eq_true rfl) (fun r9 J_39 hq9 => ?_)
    obtain ⟨rfl, rfl⟩ := hq9
    refine tz_aload_n (pc := 42) dX12_undo_42 rfl rfl ?_
    refine tz_fI (pc := 43) (kz := 10) (v := ((J 164 10) - 1)) dX12_undo_43 fl_X12_356 i_164_10 rfl rfl (fun r_43 => ?_)
    exact tz_iret (pc := 46) (z := ((J 164 10) - 1)) dX12_undo_46 rfl (Nat.le_of_ble_eq_true rfl) (Nat.le_of_ble_eq_true rfl) ⟨Nat.le_refl _, Nat.le_add_right _ _⟩ ⟨_, rfl, (by omega), MI.undo hI (by omega)⟩
  · refine tz_iconst (pc := 12) dX12_undo_12 ?_
    exact tz_iret (pc := 13) (z := (-1)) dX12_undo_13 rfl (Nat.le_of_ble_eq_true rfl) (Nat.le_of_ble_eq_true rfl) ⟨Nat.le_refl _, Nat.le_add_right _ _⟩ ⟨_, rfl, (by decide), MQr.z hI (MZ.up (k := 8) MZ.rf (by decide))⟩

