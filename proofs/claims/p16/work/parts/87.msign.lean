def RSP (J : zJ) : Prop := RSz J ∧ (0 ≤ J 164 36 ∧ J 164 36 ≤ 700) ∧ (J 164 42 = 0 ∨ ¬ J 164 38 = 0)
/-- what reading on, or a fault, changes -/
def RGw (J' J : zJ) : Prop := (zOf (zbut [164]) J' J ∧ ∀ k, rdF k = false → ¬ k = 43 → ¬ k = 20 → J' 164 k = J 164 k) ∧ RSP J' ∧ (J' 164 43 = 0 → J 164 43 = 0) ∧ rmu J' ≤ rmu J
theorem RGw.rf {J : zJ} (h : RSP J) : RGw J J := ⟨⟨zOf.rf, fun _ _ _ _ => rfl⟩, h, id, Int.le_refl _⟩
theorem RGw.tr {J3 J2 J1 : zJ} (g : RGw J2 J1) (h : RGw J3 J2) : RGw J3 J1 := ⟨⟨h.1.1.tr g.1.1, fun k a b c => (h.1.2 k a b c).trans (g.1.2 k a b c)⟩, h.2.1, fun q => g.2.2.1 (h.2.2.1 q), Int.le_trans h.2.2.2 g.2.2.2⟩
theorem rmu_go {J' J : zJ} (h : RGo J' J) (r : ∃ a9 s9 g9, J' 164 35 = a9 ∧ J' 164 38 = s9 ∧ J' 164 42 = g9 ∧ J 164 35 ≤ a9 ∧ (s9 = 0 ∨ J 164 35 < a9) ∧ (g9 = 0 ∨ ¬ s9 = 0)) : rmu J' ≤ J 164 37 - J 164 35 ∧ (J' 164 42 = 0 ∨ ¬ J' 164 38 = 0) := by
  obtain ⟨a, s, g, e1, e2, e3, h1, h2, h3⟩ := r
  unfold rmu
  rw [h.2 37 rfl, e1, e2, e3]
  refine ⟨?_, h3⟩
  split <;> omega
theorem rmu_ge {J : zJ} : J 164 37 - J 164 35 ≤ rmu J := by unfold rmu; split <;> omega
theorem rmu_gt {J : zJ} (h : ¬ J 164 38 = 0) : J 164 37 - J 164 35 < rmu J := by unfold rmu; rw [if_neg h]; omega
theorem RGw.go {J' J : zJ} (h : RGo J' J) (r : RSz J' ∧ (0 ≤ J' 164 36 ∧ J' 164 36 ≤ 700) ∧ ∃ a9 s9 g9, J' 164 35 = a9 ∧ J' 164 38 = s9 ∧ J' 164 42 = g9 ∧ J 164 35 ≤ a9 ∧ (s9 = 0 ∨ J 164 35 < a9) ∧ (g9 = 0 ∨ ¬ s9 = 0)) : RGw J' J := ⟨⟨h.1, fun k a _ _ => h.2 k a⟩, ⟨r.1, r.2.1, (rmu_go h r.2.2).2⟩, fun q => (h.2 43 rfl).symm.trans q, Int.le_trans (rmu_go h r.2.2).1 rmu_ge⟩
theorem RGw.wa {J' J : zJ} {z x : Int} (hp : RSP J) (h : zOf (zbut [164]) J' J ∧ ∀ k, ¬ k = 43 → ¬ k = 20 → J' 164 k = J 164 k) (h0 : J 164 43 = 0 ∨ ¬ J' 164 43 = 0) : RGw J' J := by
  refine ⟨⟨h.1, fun k _ b c => h.2 k b c⟩, ?_, fun q => by omega, ?_⟩
  · unfold RSP RSz
    rw [h.2 37 (by decide) (by decide), h.2 35 (by decide) (by decide), h.2 36 (by decide) (by decide), h.2 42 (by decide) (by decide), h.2 38 (by decide) (by decide)]
    exact hp
  · unfold rmu
    rw [h.2 37 (by decide) (by decide), h.2 35 (by decide) (by decide), h.2 38 (by decide) (by decide)]
    exact Int.le_refl _
set_option maxHeartbeats 4000000 in
set_option maxRecDepth 100000 in
theorem m_sign {l : Launch} {G : tb_G} (hl : l.stackTraces = false) (n : Nat) (J : zJ) (x : Int) (hr_x : -2147483648 ≤ x ∧ x < 2147483648)  (hP : RSP J) (hx : ¬ x = 0) : tz_Ok l G M_X12_sign 3 0 0 [.ref 164, zi x] n J (zqv (fun J' => RGw J' J ∧ (J' 164 43 = 0 → rmu J' < rmu J))) zN := by
  refine tz_Ok.of hl (by decide +kernel) rfl (tb_c1 rfl) (Nat.le_of_ble_eq_true rfl) ?_
  show tz_At l G M_X12_sign (tb_rm 3 0 0) none (tb_ZM G 0 0 (zQ n 0 (zqv (fun J' => RGw J' J ∧ (J' 164 43 = 0 → rmu J' < rmu J)))) (zX n 0 zN)) 0 0 n J 0 [some (.ref 164), some (zi x)] []
  refine tz_aload_n (pc := 0) dX12_sign_0 rfl rfl ?_
  refine tz_fI (pc := 1) (kz := 43) (v := (J 164 43)) dX12_sign_1 fl_X12_273 i_164_43 rfl rfl (fun r_1 => ?_)
  refine tz_if_ne (pc := 4) (tgt := 32) dX12_sign_4 (by decide) (by omega) (fun h_4 => ?_) (fun h_4 => ?_)
  · exact tz_vret (pc := 32) dX12_sign_32 rfl (Nat.le_of_ble_eq_true rfl) (Nat.le_of_ble_eq_true rfl) ⟨Nat.le_refl _, Nat.le_add_right _ _⟩ ⟨rfl, ⟨RGw.rf hP, fun q9 => by omega⟩⟩
  · refine tz_aload_n (pc := 7) dX12_sign_7 rfl rfl ?_
    refine tz_aload_n (pc := 8) dX12_sign_8 rfl rfl ?_
    refine tz_fI (pc := 9) (kz := 42) (v := (J 164 42)) dX12_sign_9 fl_X12_258 i_164_42 rfl rfl (fun r_9 => ?_)
    refine tz_iload_n (pc := 12) dX12_sign_12 rfl rfl ?_
    refine tz_icmp_ne (pc := 13) (tgt := 20) dX12_sign_13 (by decide) (by omega) (by omega) (fun h_13 => ?_) (fun h_13 => ?_)
    · refine tz_iconst (pc := 20) dX12_sign_20 ?_
      refine tz_iconst (pc := 21) dX12_sign_21 ?_
      refine tz_cV (pc := 22) (m_wants hl n _ _ _ (by decide) (by decide) (by decide)) vl_X12_276 dX12_sign_22 o_164 rfl rfl (Nat.le_of_ble_eq_true rfl) ⟨(Nat.le_of_ble_eq_true rfl), (Nat.le_of_ble_eq_true rfl)⟩ rfl rfl (Nat.le_of_ble_eq_true rfl) (Nat.le_of_ble_eq_true rfl) (fun r9 J_22 hq9 => ?_)
      obtain ⟨z_22, rfl, hz_22, a_22, b_22, c_22, d_22⟩ := hq9
      have w_22 : RGw J_22 J := RGw.wa (z := 0) (x := 0) hP a_22 (Or.inl (by omega))
      refine tz_if_eq (pc := 25) (tgt := 32) dX12_sign_25 (by decide) (by omega) (fun h_25 => ?_) (fun h_25 => ?_)
      · exact tz_vret (pc := 32) dX12_sign_32 rfl (Nat.le_of_ble_eq_true rfl) (Nat.le_of_ble_eq_true rfl) ⟨Nat.le_refl _, Nat.le_add_right _ _⟩ ⟨rfl, ⟨w_22, fun q9 => by omega⟩⟩
      · refine tz_aload_n (pc := 28) dX12_sign_28 rfl rfl ?_
        refine tz_cV (pc := 29) (m_go hl n _ w_22.2.1.1) vl_X12_280 dX12_sign_29 o_164 rfl rfl (Nat.le_of_ble_eq_true rfl) ⟨(Nat.le_of_ble_eq_true rfl), (Nat.le_of_ble_eq_true rfl)⟩ rfl rfl (Nat.le_of_ble_eq_true rfl) (Nat.le_of_ble_eq_true rfl) (fun r9 J_29 hq9 => ?_)
        obtain ⟨rfl, g1, g2, g3⟩ := hq9
        have w_g := RGw.go g1 ⟨g2, g3⟩
        exact tz_vret (pc := 32) dX12_sign_32 rfl (Nat.le_of_ble_eq_true rfl) (Nat.le_of_ble_eq_true rfl) ⟨Nat.le_refl _, Nat.le_add_right _ _⟩ ⟨rfl, ⟨w_22.tr w_g, fun _ => by obtain ⟨e9, _, e8⟩ := c_22 (by omega); subst e9; exact Int.lt_of_le_of_lt (rmu_go g1 g3.2).1 (rmu_gt (by have := hP.2.2; omega))⟩⟩
    · refine tz_iconst (pc := 16) dX12_sign_16 ?_
      refine tz_goto (pc := 17) (tgt := 21) dX12_sign_17 (by decide) ?_
      refine tz_iconst (pc := 21) dX12_sign_21 ?_
      refine tz_cV (pc := 22) (m_wants hl n _ _ _ (by decide) (by decide) (by decide)) vl_X12_276 dX12_sign_22 o_164 rfl rfl (Nat.le_of_ble_eq_true rfl) ⟨(Nat.le_of_ble_eq_true rfl), (Nat.le_of_ble_eq_true rfl)⟩ rfl rfl (Nat.le_of_ble_eq_true rfl) (Nat.le_of_ble_eq_true rfl) (fun r9 J_22 hq9 => ?_)
      obtain ⟨z_22, rfl, hz_22, a_22, b_22, c_22, d_22⟩ := hq9
      have w_22 : RGw J_22 J := RGw.wa (z := 0) (x := 0) hP a_22 (Or.inl (by omega))
      refine tz_if_eq (pc := 25) (tgt := 32) dX12_sign_25 (by decide) (by omega) (fun h_25 => ?_) (fun h_25 => ?_)
      · exact tz_vret (pc := 32) dX12_sign_32 rfl (Nat.le_of_ble_eq_true rfl) (Nat.le_of_ble_eq_true rfl) ⟨Nat.le_refl _, Nat.le_add_right _ _⟩ ⟨rfl, ⟨w_22, fun q9 => by omega⟩⟩
      · refine tz_aload_n (pc := 28) dX12_sign_28 rfl rfl ?_
        refine tz_cV (pc := 29) (m_go hl n _ w_22.2.1.1) vl_X12_280 dX12_sign_29 o_164 rfl rfl (Nat.le_of_ble_eq_true rfl) ⟨(Nat.le_of_ble_eq_true rfl), (Nat.le_of_ble_eq_true rfl)⟩ rfl rfl (Nat.le_of_ble_eq_true rfl) (Nat.le_of_ble_eq_true rfl) (fun r9 J_29 hq9 => ?_)
        obtain ⟨rfl, g1, g2, g3⟩ := hq9
        have w_g := RGw.go g1 ⟨g2, g3⟩
        exact tz_vret (pc := 32) dX12_sign_32 rfl (Nat.le_of_ble_eq_true rfl) (Nat.le_of_ble_eq_true rfl) ⟨Nat.le_refl _, Nat.le_add_right _ _⟩ ⟨rfl, ⟨w_22.tr w_g, fun _ => by obtain ⟨e9, _, e8⟩ := c_22 (by omega); subst e9; exact Int.lt_of_le_of_lt (rmu_go g1 g3.2).1 (rmu_gt (by have := hP.2.2; omega))⟩⟩

set_option maxHeartbeats 4000000 in
set_option maxRecDepth 100000 in
theorem m_number {l : Launch} {G : tb_G} (hl : l.stackTraces = false) (n : Nat) (J : zJ) (a : Int) (b : Int) (hr_a : -2147483648 ≤ a ∧ a < 2147483648) (hr_b : -2147483648 ≤ b ∧ b < 2147483648)  (hP : RSP J) (hab : a ≤ b) : tz_Ok l G M_X12_number 3 0 0 [.ref 164, zi a, zi b] n J (zqi (fun z J' => RGw J' J ∧ a ≤ z ∧ z ≤ b)) zN := by
  refine tz_Ok.of hl (by decide +kernel) rfl (tb_c1 rfl) (Nat.le_of_ble_eq_true rfl) ?_
  show tz_At l G M_X12_number (tb_rm 3 0 0) none (tb_ZM G 0 0 (zQ n 0 (zqi (fun z J' => RGw J' J ∧ a ≤ z ∧ z ≤ b))) (zX n 0 zN)) 0 0 n J 0 [some (.ref 164), some (zi a), some (zi b), none] []
  refine tz_aload_n (pc := 0) dX12_number_0 rfl rfl ?_
  refine tz_fI (pc := 1) (kz := 43) (v := (J 164 43)) dX12_number_1 fl_X12_273 i_164_43 rfl rfl (fun r_1 => ?_)
  refine tz_if_ne (pc := 4) (tgt := 45) dX12_number_4 (by decide) (by omega) (fun h_4 => ?_) (fun h_4 => ?_)
  · refine tz_iload_n (pc := 45) dX12_number_45 rfl rfl ?_
    exact tz_iret (pc := 46) (z := a) dX12_number_46 rfl (Nat.le_of_ble_eq_true rfl) (Nat.le_of_ble_eq_true rfl) ⟨Nat.le_refl _, Nat.le_add_right _ _⟩ ⟨_, rfl, (by omega), ⟨RGw.rf hP, by omega⟩⟩
  · refine tz_aload_n (pc := 7) dX12_number_7 rfl rfl ?_
    refine tz_aload_n (pc := 8) dX12_number_8 rfl rfl ?_
    refine tz_fI (pc := 9) (kz := 38) (v := (J 164 38)) dX12_number_9 fl_X12_261 i_164_38 rfl rfl (fun r_9 => ?_)
    refine tz_iconst (pc := 12) dX12_number_12 ?_
    refine tz_icmp_ne (pc := 13) (tgt := 20) dX12_number_13 (by decide) (by omega) (by decide) (fun h_13 => ?_) (fun h_13 => ?_)
    · refine tz_iconst (pc := 20) dX12_number_20 ?_
      refine tz_iconst (pc := 21) dX12_number_21 ?_
      refine tz_cV (pc := 22) (m_wants hl n _ _ _ (by decide) (by decide) (by decide)) vl_X12_276 dX12_number_22 o_164 rfl rfl (Nat.le_of_ble_eq_true rfl) ⟨(Nat.le_of_ble_eq_true rfl), (Nat.le_of_ble_eq_true rfl)⟩ rfl rfl (Nat.le_of_ble_eq_true rfl) (Nat.le_of_ble_eq_true rfl) (fun r9 J_22 hq9 => ?_)
      obtain ⟨z_22, rfl, hz_22, a_22, b_22, c_22, d_22⟩ := hq9
      have w_22 : RGw J_22 J := RGw.wa (z := 0) (x := 0) hP a_22 (Or.inl (by omega))
      refine tz_if_eq (pc := 25) (tgt := 45) dX12_number_25 (by decide) (by omega) (fun h_25 => ?_) (fun h_25 => ?_)
      · refine tz_iload_n (pc := 45) dX12_number_45 rfl rfl ?_
        exact tz_iret (pc := 46) (z := a) dX12_number_46 rfl (Nat.le_of_ble_eq_true rfl) (Nat.le_of_ble_eq_true rfl) ⟨Nat.le_refl _, Nat.le_add_right _ _⟩ ⟨_, rfl, (by omega), ⟨w_22, by omega⟩⟩
      · refine tz_aload_n (pc := 28) dX12_number_28 rfl rfl ?_
        refine tz_aload_n (pc := 29) dX12_number_29 rfl rfl ?_
        refine tz_fI (pc := 30) (kz := 39) (v := (J 164 39)) dX12_number_30 fl_X12_255 i_164_39 rfl (Eq.trans (a_22.2 39 (by decide) (by decide)) rfl) (fun r_30 => ?_)
        refine tz_iload_n (pc := 33) dX12_number_33 rfl rfl ?_
        refine tz_iload_n (pc := 34) dX12_number_34 rfl rfl ?_
        refine tz_cS (pc := 35) (m_within hl n _ _ _ _ (by omega) (by omega) (by omega)) sl_X12_283 dX12_number_35 rfl rfl (Nat.le_of_ble_eq_true rfl) ⟨(Nat.le_of_ble_eq_true rfl), (Nat.le_of_ble_eq_true rfl)⟩ rfl rfl (Nat.le_of_ble_eq_true rfl) (Nat.le_of_ble_eq_true rfl) (fun r9 J_35 hq9 => ?_)
        obtain ⟨z_35, rfl, hz_35, rfl, hw⟩ := hq9
        refine tz_iconst (pc := 38) dX12_number_38 ?_
        refine tz_cV (pc := 39) (m_wants hl n _ _ _ (by omega) (by decide) (by decide)) vl_X12_276 dX12_number_39 o_164 rfl rfl (Nat.le_of_ble_eq_true rfl) ⟨(Nat.le_of_ble_eq_true rfl), (Nat.le_of_ble_eq_true rfl)⟩ rfl rfl (Nat.le_of_ble_eq_true rfl) (Nat.le_of_ble_eq_true rfl) (fun r9 J_39 hq9 => ?_)
        obtain ⟨z_39, rfl, hz_39, a_39, b_39, c_39, d_39⟩ := hq9
        have w_39 : RGw J_39 J_22 := RGw.wa (z := 0) (x := 0) w_22.2.1 a_39 (Or.inl (by rw [← (c_22 (by omega)).1]; omega))
        refine tz_if_ne (pc := 42) (tgt := 47) dX12_number_42 (by decide) (by omega) (fun h_42 => ?_) (fun h_42 => ?_)
        · refine tz_aload_n (pc := 47) dX12_number_47 rfl rfl ?_
          refine tz_fI (pc := 48) (kz := 39) (v := (J 164 39)) dX12_number_48 fl_X12_255 i_164_39 rfl (Eq.trans (a_39.2 39 (by decide) (by decide)) (Eq.trans (a_22.2 39 (by decide) (by decide)) rfl)) (fun r_48 => ?_)
          refine tz_istore_n (pc := 51) (L2 := [_, _, _, _]) dX12_number_51 rfl (by decide) rfl ?_
          refine tz_aload_n (pc := 52) dX12_number_52 rfl rfl ?_
          refine tz_cV (pc := 53) (m_go hl n _ w_39.2.1.1) vl_X12_280 dX12_number_53 o_164 rfl rfl (Nat.le_of_ble_eq_true rfl) ⟨(Nat.le_of_ble_eq_true rfl), (Nat.le_of_ble_eq_true rfl)⟩ rfl rfl (Nat.le_of_ble_eq_true rfl) (Nat.le_of_ble_eq_true rfl) (fun r9 J_53 hq9 => ?_)
          obtain ⟨rfl, g1, g2, g3⟩ := hq9
          have w_g := RGw.go g1 ⟨g2, g3⟩
          refine tz_iload_n (pc := 56) dX12_number_56 rfl rfl ?_
          exact tz_iret (pc := 57) (z := (J 164 39)) dX12_number_57 rfl (Nat.le_of_ble_eq_true rfl) (Nat.le_of_ble_eq_true rfl) ⟨Nat.le_refl _, Nat.le_add_right _ _⟩ ⟨_, rfl, (by omega), ⟨(w_22.tr w_39).tr w_g, by omega⟩⟩
        · refine tz_iload_n (pc := 45) dX12_number_45 rfl rfl ?_
          exact tz_iret (pc := 46) (z := a) dX12_number_46 rfl (Nat.le_of_ble_eq_true rfl) (Nat.le_of_ble_eq_true rfl) ⟨Nat.le_refl _, Nat.le_add_right _ _⟩ ⟨_, rfl, (by omega), ⟨w_22.tr w_39, by omega⟩⟩
    · refine tz_iconst (pc := 16) dX12_number_16 ?_
      refine tz_goto (pc := 17) (tgt := 21) dX12_number_17 (by decide) ?_
      refine tz_iconst (pc := 21) dX12_number_21 ?_
      refine tz_cV (pc := 22) (m_wants hl n _ _ _ (by decide) (by decide) (by decide)) vl_X12_276 dX12_number_22 o_164 rfl rfl (Nat.le_of_ble_eq_true rfl) ⟨(Nat.le_of_ble_eq_true rfl), (Nat.le_of_ble_eq_true rfl)⟩ rfl rfl (Nat.le_of_ble_eq_true rfl) (Nat.le_of_ble_eq_true rfl) (fun r9 J_22 hq9 => ?_)
      obtain ⟨z_22, rfl, hz_22, a_22, b_22, c_22, d_22⟩ := hq9
      have w_22 : RGw J_22 J := RGw.wa (z := 0) (x := 0) hP a_22 (Or.inl (by omega))
      refine tz_if_eq (pc := 25) (tgt := 45) dX12_number_25 (by decide) (by omega) (fun h_25 => ?_) (fun h_25 => ?_)
      · refine tz_iload_n (pc := 45) dX12_number_45 rfl rfl ?_
        exact tz_iret (pc := 46) (z := a) dX12_number_46 rfl (Nat.le_of_ble_eq_true rfl) (Nat.le_of_ble_eq_true rfl) ⟨Nat.le_refl _, Nat.le_add_right _ _⟩ ⟨_, rfl, (by omega), ⟨w_22, by omega⟩⟩
      · refine tz_aload_n (pc := 28) dX12_number_28 rfl rfl ?_
        refine tz_aload_n (pc := 29) dX12_number_29 rfl rfl ?_
        refine tz_fI (pc := 30) (kz := 39) (v := (J 164 39)) dX12_number_30 fl_X12_255 i_164_39 rfl (Eq.trans (a_22.2 39 (by decide) (by decide)) rfl) (fun r_30 => ?_)
        refine tz_iload_n (pc := 33) dX12_number_33 rfl rfl ?_
        refine tz_iload_n (pc := 34) dX12_number_34 rfl rfl ?_
        refine tz_cS (pc := 35) (m_within hl n _ _ _ _ (by omega) (by omega) (by omega)) sl_X12_283 dX12_number_35 rfl rfl (Nat.le_of_ble_eq_true rfl) ⟨(Nat.le_of_ble_eq_true rfl), (Nat.le_of_ble_eq_true rfl)⟩ rfl rfl (Nat.le_of_ble_eq_true rfl) (Nat.le_of_ble_eq_true rfl) (fun r9 J_35 hq9 => ?_)
        obtain ⟨z_35, rfl, hz_35, rfl, hw⟩ := hq9
        refine tz_iconst (pc := 38) dX12_number_38 ?_
        refine tz_cV (pc := 39) (m_wants hl n _ _ _ (by omega) (by decide) (by decide)) vl_X12_276 dX12_number_39 o_164 rfl rfl (Nat.le_of_ble_eq_true rfl) ⟨(Nat.le_of_ble_eq_true rfl), (Nat.le_of_ble_eq_true rfl)⟩ rfl rfl (Nat.le_of_ble_eq_true rfl) (Nat.le_of_ble_eq_true rfl) (fun r9 J_39 hq9 => ?_)
        obtain ⟨z_39, rfl, hz_39, a_39, b_39, c_39, d_39⟩ := hq9
        have w_39 : RGw J_39 J_22 := RGw.wa (z := 0) (x := 0) w_22.2.1 a_39 (Or.inl (by rw [← (c_22 (by omega)).1]; omega))
        refine tz_if_ne (pc := 42) (tgt := 47) dX12_number_42 (by decide) (by omega) (fun h_42 => ?_) (fun h_42 => ?_)
        · refine tz_aload_n (pc := 47) dX12_number_47 rfl rfl ?_
          refine tz_fI (pc := 48) (kz := 39) (v := (J 164 39)) dX12_number_48 fl_X12_255 i_164_39 rfl (Eq.trans (a_39.2 39 (by decide) (by decide)) (Eq.trans (a_22.2 39 (by decide) (by decide)) rfl)) (fun r_48 => ?_)
          refine tz_istore_n (pc := 51) (L2 := [_, _, _, _]) dX12_number_51 rfl (by decide) rfl ?_
          refine tz_aload_n (pc := 52) dX12_number_52 rfl rfl ?_
          refine tz_cV (pc := 53) (m_go hl n _ w_39.2.1.1) vl_X12_280 dX12_number_53 o_164 rfl rfl (Nat.le_of_ble_eq_true rfl) ⟨(Nat.le_of_ble_eq_true rfl), (Nat.le_of_ble_eq_true rfl)⟩ rfl rfl (Nat.le_of_ble_eq_true rfl) (Nat.le_of_ble_eq_true rfl) (fun r9 J_53 hq9 => ?_)
          obtain ⟨rfl, g1, g2, g3⟩ := hq9
          have w_g := RGw.go g1 ⟨g2, g3⟩
          refine tz_iload_n (pc := 56) dX12_number_56 rfl rfl ?_
          exact tz_iret (pc := 57) (z := (J 164 39)) dX12_number_57 rfl (Nat.le_of_ble_eq_true rfl) (Nat.le_of_ble_eq_true rfl) ⟨Nat.le_refl _, Nat.le_add_right _ _⟩ ⟨_, rfl, (by omega), ⟨(w_22.tr w_39).tr w_g, by omega⟩⟩
        · refine tz_iload_n (pc := 45) dX12_number_45 rfl rfl ?_
          exact tz_iret (pc := 46) (z := a) dX12_number_46 rfl (Nat.le_of_ble_eq_true rfl) (Nat.le_of_ble_eq_true rfl) ⟨Nat.le_refl _, Nat.le_add_right _ _⟩ ⟨_, rfl, (by omega), ⟨w_22.tr w_39, by omega⟩⟩

