theorem RGw.wb {J : zJ} {a b : Int} (hp : RSP J) (hb : ¬ a = 0) : RGw (zup (zup J 164 43 a) 164 20 b) J := RGw.wa (z := 0) (x := 0) hp ⟨zOf.up rfl (zOf.up rfl zOf.rf), fun k h1 h2 => (zup_ne h2).trans (zup_ne h1)⟩ (Or.inr (by show ¬ zup J 164 43 a 164 43 = 0; rw [zup_at]; exact hb))
set_option maxHeartbeats 4000000 in
set_option maxRecDepth 100000 in
theorem m_wantsW {l : Launch} {G : tb_G} (hl : l.stackTraces = false) (n : Nat) (J : zJ) (x : Int) (y : Int) (hr_x : -2147483648 ≤ x ∧ x < 2147483648) (hr_y : -2147483648 ≤ y ∧ y < 2147483648)  (hP : RSP J) (hy : ¬ y = 0) : tz_Ok l G M_X12_wants 0 0 0 [.ref 164, zi x, zi y] n J (zqi (fun z J' => RGw J' J ∧ (z = 0 ∨ z = 1) ∧ (z = 1 → J = J' ∧ J' 164 43 = 0 ∧ ¬ x = 0) ∧ (z = 0 → ¬ J' 164 43 = 0))) zN := by
  refine tz_Ok.of hl (by decide +kernel) rfl (tb_c1 rfl) (Nat.le_of_ble_eq_true rfl) ?_
  show tz_At l G M_X12_wants (tb_rm 0 0 0) none (tb_ZM G 0 0 (zQ n 0 (zqi (fun z J' => RGw J' J ∧ (z = 0 ∨ z = 1) ∧ (z = 1 → J = J' ∧ J' 164 43 = 0 ∧ ¬ x = 0) ∧ (z = 0 → ¬ J' 164 43 = 0)))) (zX n 0 zN)) 0 0 n J 0 [some (.ref 164), some (zi x), some (zi y)] []
  refine tz_aload_n (pc := 0) dX12_wants_0 rfl rfl ?_
  refine tz_fI (pc := 1) (kz := 43) (v := (J 164 43)) dX12_wants_1 fl_X12_273 i_164_43 rfl rfl (fun r_1 => ?_)
  refine tz_if_ne (pc := 4) (tgt := 24) dX12_wants_4 (by decide) (by omega) (fun h_4 => ?_) (fun h_4 => ?_)
  · refine tz_aload_n (pc := 24) dX12_wants_24 rfl rfl ?_
    refine tz_fI (pc := 25) (kz := 43) (v := (J 164 43)) dX12_wants_25 fl_X12_273 i_164_43 rfl rfl (fun r_25 => ?_)
    refine tz_if_ne (pc := 28) (tgt := 35) dX12_wants_28 (by decide) (by omega) (fun h_28 => ?_) (fun h_28 => ?_)
    · refine tz_iconst (pc := 35) dX12_wants_35 ?_
      exact tz_zret (pc := 36) (z := 0) dX12_wants_36 rfl (Or.inl rfl) (Nat.le_of_ble_eq_true rfl) (Nat.le_of_ble_eq_true rfl) ⟨Nat.le_refl _, Nat.le_add_right _ _⟩ ⟨_, rfl, (by decide), ⟨RGw.rf hP, by omega, fun q9 => ⟨rfl, by omega, by omega⟩, fun q9 => by omega⟩⟩
    · refine tz_iconst (pc := 31) dX12_wants_31 ?_
      refine tz_goto (pc := 32) (tgt := 36) dX12_wants_32 (by decide) ?_
      exact tz_zret (pc := 36) (z := 1) dX12_wants_36 rfl (Or.inr rfl) (Nat.le_of_ble_eq_true rfl) (Nat.le_of_ble_eq_true rfl) ⟨Nat.le_refl _, Nat.le_add_right _ _⟩ ⟨_, rfl, (by decide), ⟨RGw.rf hP, by omega, fun q9 => ⟨rfl, by omega, by omega⟩, fun q9 => by omega⟩⟩
  · refine tz_iload_n (pc := 7) dX12_wants_7 rfl rfl ?_
    refine tz_if_ne (pc := 8) (tgt := 24) dX12_wants_8 (by decide) (by omega) (fun h_8 => ?_) (fun h_8 => ?_)
    · refine tz_aload_n (pc := 24) dX12_wants_24 rfl rfl ?_
      refine tz_fI (pc := 25) (kz := 43) (v := (J 164 43)) dX12_wants_25 fl_X12_273 i_164_43 rfl rfl (fun r_25 => ?_)
      refine tz_if_ne (pc := 28) (tgt := 35) dX12_wants_28 (by decide) (by omega) (fun h_28 => ?_) (fun h_28 => ?_)
      · refine tz_iconst (pc := 35) dX12_wants_35 ?_
        exact tz_zret (pc := 36) (z := 0) dX12_wants_36 rfl (Or.inl rfl) (Nat.le_of_ble_eq_true rfl) (Nat.le_of_ble_eq_true rfl) ⟨Nat.le_refl _, Nat.le_add_right _ _⟩ ⟨_, rfl, (by decide), ⟨RGw.rf hP, by omega, fun q9 => ⟨rfl, by omega, by omega⟩, fun q9 => by omega⟩⟩
      · refine tz_iconst (pc := 31) dX12_wants_31 ?_
        refine tz_goto (pc := 32) (tgt := 36) dX12_wants_32 (by decide) ?_
        exact tz_zret (pc := 36) (z := 1) dX12_wants_36 rfl (Or.inr rfl) (Nat.le_of_ble_eq_true rfl) (Nat.le_of_ble_eq_true rfl) ⟨Nat.le_refl _, Nat.le_add_right _ _⟩ ⟨_, rfl, (by decide), ⟨RGw.rf hP, by omega, fun q9 => ⟨rfl, by omega, by omega⟩, fun q9 => by omega⟩⟩
    · refine tz_aload_n (pc := 11) dX12_wants_11 rfl rfl ?_
      refine tz_iload_n (pc := 12) dX12_wants_12 rfl rfl ?_
      refine tz_pI (pc := 13) (kz := 43) dX12_wants_13 fl_X12_273 i_164_43 rfl rfl (by omega) ?_
      refine tz_aload_n (pc := 16) dX12_wants_16 rfl rfl ?_
      refine tz_aload_n (pc := 17) dX12_wants_17 rfl rfl ?_
      refine tz_fI (pc := 18) (kz := 36) (v := (J 164 36)) dX12_wants_18 fl_X12_246 i_164_36 rfl rfl (fun r_18 => ?_)
      refine tz_pI (pc := 21) (kz := 20) dX12_wants_21 fl_X12_37 i_164_20 rfl rfl (by omega) ?_
      refine tz_aload_n (pc := 24) dX12_wants_24 rfl rfl ?_
      refine tz_fI (pc := 25) (kz := 43) (v := y) dX12_wants_25 fl_X12_273 i_164_43 rfl rfl (fun r_25 => ?_)
      refine tz_if_ne (pc := 28) (tgt := 35) dX12_wants_28 (by decide) (by omega) (fun h_28 => ?_) (fun h_28 => ?_)
      · refine tz_iconst (pc := 35) dX12_wants_35 ?_
        exact tz_zret (pc := 36) (z := 0) dX12_wants_36 rfl (Or.inl rfl) (Nat.le_of_ble_eq_true rfl) (Nat.le_of_ble_eq_true rfl) ⟨Nat.le_refl _, Nat.le_add_right _ _⟩ ⟨_, rfl, (by decide), ⟨RGw.wb hP hy, by omega, fun q9 => by omega, fun q9 => by show ¬ zup J 164 43 y 164 43 = 0; rw [zup_at]; exact hy⟩⟩
      · refine tz_iconst (pc := 31) dX12_wants_31 ?_
        refine tz_goto (pc := 32) (tgt := 36) dX12_wants_32 (by decide) ?_
        exact tz_zret (pc := 36) (z := 1) dX12_wants_36 rfl (Or.inr rfl) (Nat.le_of_ble_eq_true rfl) (Nat.le_of_ble_eq_true rfl) ⟨Nat.le_refl _, Nat.le_add_right _ _⟩ ⟨_, rfl, (by decide), ⟨RGw.wb hP hy, by omega, fun q9 => by omega, fun q9 => by show ¬ zup J 164 43 y 164 43 = 0; rw [zup_at]; exact hy⟩⟩

theorem m_goW {l : Launch} {G : tb_G} (hl : l.stackTraces = false) (n : Nat) (J : zJ) (hP : RSP J) : tz_Ok l G M_X12_go 2 0 0 [.ref 164] n J (zqv (fun J' => RGw J' J ∧ J' 164 43 = J 164 43)) zN := (m_go hl n J hP.1).mono (fun r J' _ ⟨h1, h2, h3, h4⟩ => ⟨h1, RGw.go h2 ⟨h3, h4⟩, h2.2 43 rfl⟩) (fun _ _ _ h => h)
/-- what a symbol of a text changes -/
def RSy (J' J : zJ) : Prop := (zOf (zbut [164, 169, 170, 171]) J' J ∧ ∀ k, rdF k = false → ¬ k = 43 → ¬ k = 20 → ¬ k = 44 → J' 164 k = J 164 k) ∧ RSP J' ∧ (J' 164 43 = 0 → J 164 43 = 0) ∧ rmu J' ≤ rmu J ∧ (J' 164 44 = J 164 44 ∨ J' 164 44 = J 164 44 + 1) ∧ (0 ≤ J' 164 44 ∧ J' 164 44 ≤ 10) ∧ (∀ k, ¬ k = 10 + J 164 44 → J' 169 k = J 169 k ∧ J' 170 k = J 170 k ∧ J' 171 k = J 171 k) ∧ (J' 164 44 = J 164 44 + 1 → 0 ≤ J' 170 (10 + J 164 44) ∧ J' 170 (10 + J 164 44) ≤ 3)
theorem RSy.w {J' J : zJ} (h : RGw J' J) (h0 : 0 ≤ J 164 44 ∧ J 164 44 ≤ 10) : RSy J' J := by
  have e : J' 164 44 = J 164 44 := h.1.2 44 rfl (by decide) (by decide)
  exact ⟨⟨h.1.1.mono (zbut_sub (fun c hc => by simp at hc ⊢; omega)), fun k a b c _ => h.1.2 k a b c⟩, h.2.1, h.2.2.1, h.2.2.2, Or.inl e, by omega, fun k _ => ⟨by rw [h.1.1 169 rfl], by rw [h.1.1 170 rfl], by rw [h.1.1 171 rfl]⟩, fun q => by omega⟩
theorem RSy.n {J1 J : zJ} {a b c : Int} (h : RGw J1 J) (h0 : 0 ≤ J 164 44 ∧ J 164 44 < 10) (hb : 0 ≤ b ∧ b ≤ 3) : RSy (zup (zup (zup (zup J1 169 (10 + J 164 44) a) 170 (10 + J 164 44) b) 171 (10 + J 164 44) c) 164 44 (J 164 44 + 1)) J := by
  have e4 : ∀ k, zup (zup (zup (zup J1 169 (10 + J 164 44) a) 170 (10 + J 164 44) b) 171 (10 + J 164 44) c) 164 44 (J 164 44 + 1) 164 k = if k = 44 then J 164 44 + 1 else J1 164 k := fun _ => rfl
  have e0 : ∀ k, zup (zup (zup (zup J1 169 (10 + J 164 44) a) 170 (10 + J 164 44) b) 171 (10 + J 164 44) c) 164 44 (J 164 44 + 1) 170 k = if k = 10 + J 164 44 then b else J1 170 k := fun _ => rfl
  have e9 : ∀ k, zup (zup (zup (zup J1 169 (10 + J 164 44) a) 170 (10 + J 164 44) b) 171 (10 + J 164 44) c) 164 44 (J 164 44 + 1) 169 k = if k = 10 + J 164 44 then a else J1 169 k := fun _ => rfl
  have e1 : ∀ k, zup (zup (zup (zup J1 169 (10 + J 164 44) a) 170 (10 + J 164 44) b) 171 (10 + J 164 44) c) 164 44 (J 164 44 + 1) 171 k = if k = 10 + J 164 44 then c else J1 171 k := fun _ => rfl
  refine ⟨⟨zOf.up rfl (zOf.up rfl (zOf.up rfl (zOf.up rfl (h.1.1.mono (zbut_sub (fun c hc => by simp at hc ⊢; omega)))))), fun k p q r t => ?_⟩, ?_, ?_, ?_, ?_, ?_, fun k hk => ?_, fun _ => ?_⟩
  · rw [e4, if_neg t]; exact h.1.2 k p q r
  · unfold RSP RSz
    rw [e4 37, e4 35, e4 36, e4 42, e4 38]
    exact h.2.1
  · rw [e4 43]; exact h.2.2.1
  · unfold rmu; rw [e4 37, e4 35, e4 38]; exact h.2.2.2
  · rw [e4 44]; exact Or.inr rfl
  · rw [e4 44, if_pos rfl]; omega
  · rw [e9, e0, e1, if_neg hk, if_neg hk, if_neg hk, h.1.1 169 rfl, h.1.1 170 rfl, h.1.1 171 rfl]
    exact ⟨rfl, rfl, rfl⟩
  · rw [e0, if_pos rfl]; exact hb
set_option maxHeartbeats 4000000 in
set_option maxRecDepth 100000 in
theorem m_symbol1 {l : Launch} {G : tb_G} (hl : l.stackTraces = false) (n : Nat) (J : zJ)    (hP : RSP J) (h0 : 0 ≤ J 164 44 ∧ J 164 44 ≤ 10) : tz_Ok l G M_X12_symbol1 4 0 0 [.ref 164] n J (zqv (fun J' => RSy J' J)) zN := by
  refine tz_Ok.of hl (by decide +kernel) rfl (tb_c1 rfl) (Nat.le_of_ble_eq_true rfl) ?_
  show tz_At l G M_X12_symbol1 (tb_rm 4 0 0) none (tb_ZM G 0 0 (zQ n 0 (zqv (fun J' => RSy J' J))) (zX n 0 zN)) 0 0 n J 0 [some (.ref 164), none, none, none] []
  refine tz_aload_n (pc := 0) dX12_symbol1_0 rfl rfl ?_
  refine tz_aload_n (pc := 1) dX12_symbol1_1 rfl rfl ?_
  refine tz_fI (pc := 2) (kz := 44) (v := (J 164 44)) dX12_symbol1_2 fl_X12_287 i_164_44 rfl rfl (fun r_2 => ?_)
  refine tz_bipush (pc := 5) dX12_symbol1_5 (by decide) ?_
  refine tz_icmp_ge (pc := 7) (tgt := 14) dX12_symbol1_7 (by decide) (by omega) (by decide) (fun h_7 => ?_) (fun h_7 => ?_)
  · refine tz_iconst (pc := 14) dX12_symbol1_14 ?_
    refine tz_iconst (pc := 15) dX12_symbol1_15 ?_
    refine tz_cV (pc := 16) (m_wantsW hl n _ _ _ (by decide) (by decide) (RGw.rf hP).2.1 (by decide)) vl_X12_276 dX12_symbol1_16 o_164 rfl rfl (Nat.le_of_ble_eq_true rfl) ⟨(Nat.le_of_ble_eq_true rfl), (Nat.le_of_ble_eq_true rfl)⟩ rfl rfl (Nat.le_of_ble_eq_true rfl) (Nat.le_of_ble_eq_true rfl) (fun r9 J_16 hq9 => ?_)
    obtain ⟨z_16, rfl, hz_16, w_16, b_16, c_16, d_16⟩ := hq9
    have p_16 := (RGw.rf hP).tr w_16
    have r_169 := p_16.2.1.2.1
    obtain rfl : z_16 = 0 := by rcases b_16 with e9 | e9; exact e9; exact absurd rfl (c_16 e9).2.2
    have v_16 := d_16 rfl
    clear b_16 c_16 d_16
    refine tz_if_neF (pc := 19) (tgt := 23) (by decide) dX12_symbol1_19 (by decide) (by decide) ?_
    exact tz_vret (pc := 22) dX12_symbol1_22 rfl (Nat.le_of_ble_eq_true rfl) (Nat.le_of_ble_eq_true rfl) ⟨Nat.le_refl _, Nat.le_add_right _ _⟩ ⟨rfl, RSy.w (p_16) h0⟩
  · refine tz_iconst (pc := 10) dX12_symbol1_10 ?_
    refine tz_goto (pc := 11) (tgt := 15) dX12_symbol1_11 (by decide) ?_
    refine tz_iconst (pc := 15) dX12_symbol1_15 ?_
    refine tz_cV (pc := 16) (m_wantsW hl n _ _ _ (by decide) (by decide) (RGw.rf hP).2.1 (by decide)) vl_X12_276 dX12_symbol1_16 o_164 rfl rfl (Nat.le_of_ble_eq_true rfl) ⟨(Nat.le_of_ble_eq_true rfl), (Nat.le_of_ble_eq_true rfl)⟩ rfl rfl (Nat.le_of_ble_eq_true rfl) (Nat.le_of_ble_eq_true rfl) (fun r9 J_16 hq9 => ?_)
    obtain ⟨z_16, rfl, hz_16, w_16, b_16, c_16, d_16⟩ := hq9
    have p_16 := (RGw.rf hP).tr w_16
    have r_169 := p_16.2.1.2.1
    have o_16 : (z_16 = 0 ∧ ¬ J_16 164 43 = 0) ∨ (z_16 = 1 ∧ J_16 164 43 = 0) := by rcases b_16 with e9 | e9; exact Or.inl ⟨e9, d_16 e9⟩; exact Or.inr ⟨e9, (c_16 e9).2.1⟩
    clear b_16 c_16 d_16
    rcases o_16 with ⟨rfl, v_16⟩ | ⟨rfl, v_16⟩
    · refine tz_if_neF (pc := 19) (tgt := 23) (by decide) dX12_symbol1_19 (by decide) (by decide) ?_
      exact tz_vret (pc := 22) dX12_symbol1_22 rfl (Nat.le_of_ble_eq_true rfl) (Nat.le_of_ble_eq_true rfl) ⟨Nat.le_refl _, Nat.le_add_right _ _⟩ ⟨rfl, RSy.w (p_16) h0⟩
    · refine tz_if_neT (pc := 19) (tgt := 23) (by decide) dX12_symbol1_19 (by decide) (by decide) ?_
      refine tz_aload_n (pc := 23) dX12_symbol1_23 rfl rfl ?_
      refine tz_cV (pc := 24) (m_goW hl n _ (p_16).2.1) vl_X12_280 dX12_symbol1_24 o_164 rfl rfl (Nat.le_of_ble_eq_true rfl) ⟨(Nat.le_of_ble_eq_true rfl), (Nat.le_of_ble_eq_true rfl)⟩ rfl rfl (Nat.le_of_ble_eq_true rfl) (Nat.le_of_ble_eq_true rfl) (fun r9 J_24 hq9 => ?_)
      obtain ⟨rfl, w_24, b_24⟩ := hq9
      have p_24 := (p_16).tr w_24
      have r_249 := p_24.2.1.2.1
      refine tz_aload_n (pc := 27) dX12_symbol1_27 rfl rfl ?_
      refine tz_aload_n (pc := 28) dX12_symbol1_28 rfl rfl ?_
      refine tz_fI (pc := 29) (kz := 38) (v := (J_24 164 38)) dX12_symbol1_29 fl_X12_261 i_164_38 rfl rfl (fun r_29 => ?_)
      refine tz_iconst (pc := 32) dX12_symbol1_32 ?_
      refine tz_icmp_ne (pc := 33) (tgt := 40) dX12_symbol1_33 (by decide) (by omega) (by decide) (fun h_33 => ?_) (fun h_33 => ?_)
      · refine tz_iconst (pc := 40) dX12_symbol1_40 ?_
        refine tz_iconst (pc := 41) dX12_symbol1_41 ?_
        refine tz_cV (pc := 42) (m_wantsW hl n _ _ _ (by decide) (by decide) (p_24).2.1 (by decide)) vl_X12_276 dX12_symbol1_42 o_164 rfl rfl (Nat.le_of_ble_eq_true rfl) ⟨(Nat.le_of_ble_eq_true rfl), (Nat.le_of_ble_eq_true rfl)⟩ rfl rfl (Nat.le_of_ble_eq_true rfl) (Nat.le_of_ble_eq_true rfl) (fun r9 J_42 hq9 => ?_)
        obtain ⟨z_42, rfl, hz_42, w_42, b_42, c_42, d_42⟩ := hq9
        have p_42 := (p_24).tr w_42
        have r_429 := p_42.2.1.2.1
        obtain rfl : z_42 = 0 := by rcases b_42 with e9 | e9; exact e9; exact absurd rfl (c_42 e9).2.2
        have v_42 := d_42 rfl
        clear b_42 c_42 d_42
        refine tz_if_eqT (pc := 45) (tgt := 98) (by decide) dX12_symbol1_45 (by decide) (by decide) ?_
        exact tz_vret (pc := 98) dX12_symbol1_98 rfl (Nat.le_of_ble_eq_true rfl) (Nat.le_of_ble_eq_true rfl) ⟨Nat.le_refl _, Nat.le_add_right _ _⟩ ⟨rfl, RSy.w (p_42) h0⟩
      · refine tz_iconst (pc := 36) dX12_symbol1_36 ?_
        refine tz_goto (pc := 37) (tgt := 41) dX12_symbol1_37 (by decide) ?_
        refine tz_iconst (pc := 41) dX12_symbol1_41 ?_
        refine tz_cV (pc := 42) (m_wantsW hl n _ _ _ (by decide) (by decide) (p_24).2.1 (by decide)) vl_X12_276 dX12_symbol1_42 o_164 rfl rfl (Nat.le_of_ble_eq_true rfl) ⟨(Nat.le_of_ble_eq_true rfl), (Nat.le_of_ble_eq_true rfl)⟩ rfl rfl (Nat.le_of_ble_eq_true rfl) (Nat.le_of_ble_eq_true rfl) (fun r9 J_42 hq9 => ?_)
        obtain ⟨z_42, rfl, hz_42, w_42, b_42, c_42, d_42⟩ := hq9
        have p_42 := (p_24).tr w_42
        have r_429 := p_42.2.1.2.1
        have o_42 : (z_42 = 0 ∧ ¬ J_42 164 43 = 0) ∨ (z_42 = 1 ∧ J_42 164 43 = 0) := by rcases b_42 with e9 | e9; exact Or.inl ⟨e9, d_42 e9⟩; exact Or.inr ⟨e9, (c_42 e9).2.1⟩
        clear b_42 c_42 d_42
        rcases o_42 with ⟨rfl, v_42⟩ | ⟨rfl, v_42⟩
        · refine tz_if_eqT (pc := 45) (tgt := 98) (by decide) dX12_symbol1_45 (by decide) (by decide) ?_
          exact tz_vret (pc := 98) dX12_symbol1_98 rfl (Nat.le_of_ble_eq_true rfl) (Nat.le_of_ble_eq_true rfl) ⟨Nat.le_refl _, Nat.le_add_right _ _⟩ ⟨rfl, RSy.w (p_42) h0⟩
        · refine tz_if_eqF (pc := 45) (tgt := 98) (by decide) dX12_symbol1_45 (by decide) (by decide) ?_
          refine tz_aload_n (pc := 48) dX12_symbol1_48 rfl rfl ?_
          refine tz_aload_n (pc := 49) dX12_symbol1_49 rfl rfl ?_
          refine tz_fI (pc := 50) (kz := 41) (v := (J_42 164 41)) dX12_symbol1_50 fl_X12_252 i_164_41 rfl rfl (fun r_50 => ?_)
          refine tz_iconst (pc := 53) dX12_symbol1_53 ?_
          refine tz_icmp_ne (pc := 54) (tgt := 61) dX12_symbol1_54 (by decide) (by omega) (by decide) (fun h_54 => ?_) (fun h_54 => ?_)
          · refine tz_iconst (pc := 61) dX12_symbol1_61 ?_
            refine tz_iconst (pc := 62) dX12_symbol1_62 ?_
            refine tz_cV (pc := 63) (m_wantsW hl n _ _ _ (by decide) (by decide) (p_42).2.1 (by decide)) vl_X12_276 dX12_symbol1_63 o_164 rfl rfl (Nat.le_of_ble_eq_true rfl) ⟨(Nat.le_of_ble_eq_true rfl), (Nat.le_of_ble_eq_true rfl)⟩ rfl rfl (Nat.le_of_ble_eq_true rfl) (Nat.le_of_ble_eq_true rfl) (fun r9 J_63 hq9 => ?_)
            obtain ⟨z_63, rfl, hz_63, w_63, b_63, c_63, d_63⟩ := hq9
            have p_63 := (p_42).tr w_63
            have r_639 := p_63.2.1.2.1
            obtain rfl : z_63 = 0 := by rcases b_63 with e9 | e9; exact e9; exact absurd rfl (c_63 e9).2.2
            have v_63 := d_63 rfl
            clear b_63 c_63 d_63
            refine tz_if_eqT (pc := 66) (tgt := 98) (by decide) dX12_symbol1_66 (by decide) (by decide) ?_
            exact tz_vret (pc := 98) dX12_symbol1_98 rfl (Nat.le_of_ble_eq_true rfl) (Nat.le_of_ble_eq_true rfl) ⟨Nat.le_refl _, Nat.le_add_right _ _⟩ ⟨rfl, RSy.w (p_63) h0⟩
          · refine tz_iconst (pc := 57) dX12_symbol1_57 ?_
            refine tz_goto (pc := 58) (tgt := 62) dX12_symbol1_58 (by decide) ?_
            refine tz_iconst (pc := 62) dX12_symbol1_62 ?_
            refine tz_cV (pc := 63) (m_wantsW hl n _ _ _ (by decide) (by decide) (p_42).2.1 (by decide)) vl_X12_276 dX12_symbol1_63 o_164 rfl rfl (Nat.le_of_ble_eq_true rfl) ⟨(Nat.le_of_ble_eq_true rfl), (Nat.le_of_ble_eq_true rfl)⟩ rfl rfl (Nat.le_of_ble_eq_true rfl) (Nat.le_of_ble_eq_true rfl) (fun r9 J_63 hq9 => ?_)
            obtain ⟨z_63, rfl, hz_63, w_63, b_63, c_63, d_63⟩ := hq9
            have p_63 := (p_42).tr w_63
            have r_639 := p_63.2.1.2.1
            have o_63 : (z_63 = 0 ∧ ¬ J_63 164 43 = 0) ∨ (z_63 = 1 ∧ J_63 164 43 = 0) := by rcases b_63 with e9 | e9; exact Or.inl ⟨e9, d_63 e9⟩; exact Or.inr ⟨e9, (c_63 e9).2.1⟩
            clear b_63 c_63 d_63
            rcases o_63 with ⟨rfl, v_63⟩ | ⟨rfl, v_63⟩
            · refine tz_if_eqT (pc := 66) (tgt := 98) (by decide) dX12_symbol1_66 (by decide) (by decide) ?_
              exact tz_vret (pc := 98) dX12_symbol1_98 rfl (Nat.le_of_ble_eq_true rfl) (Nat.le_of_ble_eq_true rfl) ⟨Nat.le_refl _, Nat.le_add_right _ _⟩ ⟨rfl, RSy.w (p_63) h0⟩
            · refine tz_if_eqF (pc := 66) (tgt := 98) (by decide) dX12_symbol1_66 (by decide) (by decide) ?_
              refine tz_aload_n (pc := 69) dX12_symbol1_69 rfl rfl ?_
              refine tz_aload_n (pc := 70) dX12_symbol1_70 rfl rfl ?_
              refine tz_aload_n (pc := 71) dX12_symbol1_71 rfl rfl ?_
              refine tz_aload_n (pc := 72) dX12_symbol1_72 rfl rfl ?_
              refine tz_fI (pc := 73) (kz := 36) (v := (J_63 164 36)) dX12_symbol1_73 fl_X12_246 i_164_36 rfl rfl (fun r_73 => ?_)
              refine tz_cV (pc := 76) (m_byteAt hl n _ _ (by omega) (by omega) (p_63).2.1.1.1.2) vl_X12_240 dX12_symbol1_76 o_164 rfl rfl (Nat.le_of_ble_eq_true rfl) ⟨(Nat.le_of_ble_eq_true rfl), (Nat.le_of_ble_eq_true rfl)⟩ rfl rfl (Nat.le_of_ble_eq_true rfl) (Nat.le_of_ble_eq_true rfl) (fun r9 J_76 hq9 => ?_)
              obtain ⟨z_76, rfl, hz_76, rfl, -, -⟩ := hq9
              refine tz_cV (pc := 79) (m_symOf hl n _ _ (by omega) (by rw [show (J_63 : zJ) 164 44 = (J 164 44) from (Eq.trans (w_63.1.2 44 rfl (by decide) (by decide)) (Eq.trans (w_42.1.2 44 rfl (by decide) (by decide)) (Eq.trans (w_24.1.2 44 rfl (by decide) (by decide)) (Eq.trans (w_16.1.2 44 rfl (by decide) (by decide)) rfl))))]; omega)) vl_X12_293 dX12_symbol1_79 o_164 rfl rfl (Nat.le_of_ble_eq_true rfl) ⟨(Nat.le_of_ble_eq_true rfl), (Nat.le_of_ble_eq_true rfl)⟩ rfl rfl (Nat.le_of_ble_eq_true rfl) (Nat.le_of_ble_eq_true rfl) (fun r9 J_79 hq9 => ?_)
              obtain ⟨z_79, rfl, hz_79, rfl, hs_79⟩ := hq9
              refine tz_iconst (pc := 82) dX12_symbol1_82 ?_
              refine tz_icmp_ne (pc := 83) (tgt := 90) dX12_symbol1_83 (by decide) (by omega) (by decide) (fun h_83 => ?_) (fun h_83 => ?_)
              · refine tz_iconst (pc := 90) dX12_symbol1_90 ?_
                refine tz_iconst (pc := 91) dX12_symbol1_91 ?_
                refine tz_cV (pc := 92) (m_wantsW hl n _ _ _ (by decide) (by decide) (p_63).2.1 (by decide)) vl_X12_276 dX12_symbol1_92 o_164 rfl rfl (Nat.le_of_ble_eq_true rfl) ⟨(Nat.le_of_ble_eq_true rfl), (Nat.le_of_ble_eq_true rfl)⟩ rfl rfl (Nat.le_of_ble_eq_true rfl) (Nat.le_of_ble_eq_true rfl) (fun r9 J_92 hq9 => ?_)
                obtain ⟨z_92, rfl, hz_92, w_92, b_92, c_92, d_92⟩ := hq9
                have p_92 := (p_63).tr w_92
                have r_929 := p_92.2.1.2.1
                obtain rfl : z_92 = 0 := by rcases b_92 with e9 | e9; exact e9; exact absurd rfl (c_92 e9).2.2
                have v_92 := d_92 rfl
                clear b_92 c_92 d_92
                refine tz_if_neF (pc := 95) (tgt := 99) (by decide) dX12_symbol1_95 (by decide) (by decide) ?_
                exact tz_vret (pc := 98) dX12_symbol1_98 rfl (Nat.le_of_ble_eq_true rfl) (Nat.le_of_ble_eq_true rfl) ⟨Nat.le_refl _, Nat.le_add_right _ _⟩ ⟨rfl, RSy.w (p_92) h0⟩
              · refine tz_iconst (pc := 86) dX12_symbol1_86 ?_
                refine tz_goto (pc := 87) (tgt := 91) dX12_symbol1_87 (by decide) ?_
                refine tz_iconst (pc := 91) dX12_symbol1_91 ?_
                refine tz_cV (pc := 92) (m_wantsW hl n _ _ _ (by decide) (by decide) (p_63).2.1 (by decide)) vl_X12_276 dX12_symbol1_92 o_164 rfl rfl (Nat.le_of_ble_eq_true rfl) ⟨(Nat.le_of_ble_eq_true rfl), (Nat.le_of_ble_eq_true rfl)⟩ rfl rfl (Nat.le_of_ble_eq_true rfl) (Nat.le_of_ble_eq_true rfl) (fun r9 J_92 hq9 => ?_)
                obtain ⟨z_92, rfl, hz_92, w_92, b_92, c_92, d_92⟩ := hq9
                have p_92 := (p_63).tr w_92
                have r_929 := p_92.2.1.2.1
                have o_92 : (z_92 = 0 ∧ ¬ J_92 164 43 = 0) ∨ (z_92 = 1 ∧ J_92 164 43 = 0) := by rcases b_92 with e9 | e9; exact Or.inl ⟨e9, d_92 e9⟩; exact Or.inr ⟨e9, (c_92 e9).2.1⟩
                clear b_92 c_92 d_92
                rcases o_92 with ⟨rfl, v_92⟩ | ⟨rfl, v_92⟩
                · refine tz_if_neF (pc := 95) (tgt := 99) (by decide) dX12_symbol1_95 (by decide) (by decide) ?_
                  exact tz_vret (pc := 98) dX12_symbol1_98 rfl (Nat.le_of_ble_eq_true rfl) (Nat.le_of_ble_eq_true rfl) ⟨Nat.le_refl _, Nat.le_add_right _ _⟩ ⟨rfl, RSy.w (p_92) h0⟩
                · refine tz_if_neT (pc := 95) (tgt := 99) (by decide) dX12_symbol1_95 (by decide) (by decide) ?_
                  refine tz_aload_n (pc := 99) dX12_symbol1_99 rfl rfl ?_
                  refine tz_aload_n (pc := 100) dX12_symbol1_100 rfl rfl ?_
                  refine tz_fI (pc := 101) (kz := 36) (v := (J_92 164 36)) dX12_symbol1_101 fl_X12_246 i_164_36 rfl rfl (fun r_101 => ?_)
                  refine tz_cV (pc := 104) (m_byteAt hl n _ _ (by omega) (by omega) (p_92).2.1.1.1.2) vl_X12_240 dX12_symbol1_104 o_164 rfl rfl (Nat.le_of_ble_eq_true rfl) ⟨(Nat.le_of_ble_eq_true rfl), (Nat.le_of_ble_eq_true rfl)⟩ rfl rfl (Nat.le_of_ble_eq_true rfl) (Nat.le_of_ble_eq_true rfl) (fun r9 J_104 hq9 => ?_)
                  obtain ⟨z_104, rfl, hz_104, rfl, -, -⟩ := hq9
                  refine tz_istore_n (pc := 107) (L2 := [_, _, _, _]) dX12_symbol1_107 rfl (by decide) rfl ?_
                  refine tz_aload_n (pc := 108) dX12_symbol1_108 rfl rfl ?_
                  refine tz_cV (pc := 109) (m_goW hl n _ (p_92).2.1) vl_X12_280 dX12_symbol1_109 o_164 rfl rfl (Nat.le_of_ble_eq_true rfl) ⟨(Nat.le_of_ble_eq_true rfl), (Nat.le_of_ble_eq_true rfl)⟩ rfl rfl (Nat.le_of_ble_eq_true rfl) (Nat.le_of_ble_eq_true rfl) (fun r9 J_109 hq9 => ?_)
                  obtain ⟨rfl, w_109, b_109⟩ := hq9
                  have p_109 := (p_92).tr w_109
                  have r_1099 := p_109.2.1.2.1
                  refine tz_aload_n (pc := 112) dX12_symbol1_112 rfl rfl ?_
                  refine tz_iconst (pc := 113) dX12_symbol1_113 ?_
                  refine tz_iconst (pc := 114) dX12_symbol1_114 ?_
                  refine tz_cV (pc := 115) (m_number hl n _ _ _ (by decide) (by decide) (p_109).2.1 (by decide)) vl_X12_290 dX12_symbol1_115 o_164 rfl rfl (Nat.le_of_ble_eq_true rfl) ⟨(Nat.le_of_ble_eq_true rfl), (Nat.le_of_ble_eq_true rfl)⟩ rfl rfl (Nat.le_of_ble_eq_true rfl) (Nat.le_of_ble_eq_true rfl) (fun r9 J_115 hq9 => ?_)
                  obtain ⟨z_115, rfl, hz_115, w_115, b_115, d_115⟩ := hq9
                  have p_115 := (p_109).tr w_115
                  have r_1159 := p_115.2.1.2.1
                  refine tz_istore_n (pc := 118) (L2 := [_, _, _, _]) dX12_symbol1_118 rfl (by decide) rfl ?_
                  refine tz_aload_n (pc := 119) dX12_symbol1_119 rfl rfl ?_
                  refine tz_iconst (pc := 120) dX12_symbol1_120 ?_
                  refine tz_bipush (pc := 121) dX12_symbol1_121 (by decide) ?_
                  refine tz_cV (pc := 123) (m_number hl n _ _ _ (by decide) (by decide) (p_115).2.1 (by decide)) vl_X12_290 dX12_symbol1_123 o_164 rfl rfl (Nat.le_of_ble_eq_true rfl) ⟨(Nat.le_of_ble_eq_true rfl), (Nat.le_of_ble_eq_true rfl)⟩ rfl rfl (Nat.le_of_ble_eq_true rfl) (Nat.le_of_ble_eq_true rfl) (fun r9 J_123 hq9 => ?_)
                  obtain ⟨z_123, rfl, hz_123, w_123, b_123, d_123⟩ := hq9
                  have p_123 := (p_115).tr w_123
                  have r_1239 := p_123.2.1.2.1
                  refine tz_istore_n (pc := 126) (L2 := [_, _, _, _]) dX12_symbol1_126 rfl (by decide) rfl ?_
                  refine tz_aload_n (pc := 127) dX12_symbol1_127 rfl rfl ?_
                  refine tz_fR (pc := 128) dX12_symbol1_128 fl_X12_22 r_164_4 ?_
                  refine tz_bipush (pc := 131) dX12_symbol1_131 (by decide) ?_
                  refine tz_aload_n (pc := 133) dX12_symbol1_133 rfl rfl ?_
                  refine tz_fI (pc := 134) (kz := 44) (v := (J 164 44)) dX12_symbol1_134 fl_X12_287 i_164_44 rfl (Eq.trans (w_123.1.2 44 rfl (by decide) (by decide)) (Eq.trans (w_115.1.2 44 rfl (by decide) (by decide)) (Eq.trans (w_109.1.2 44 rfl (by decide) (by decide)) (Eq.trans (w_92.1.2 44 rfl (by decide) (by decide)) (Eq.trans (w_63.1.2 44 rfl (by decide) (by decide)) (Eq.trans (w_42.1.2 44 rfl (by decide) (by decide)) (Eq.trans (w_24.1.2 44 rfl (by decide) (by decide)) (Eq.trans (w_16.1.2 44 rfl (by decide) (by decide)) rfl)))))))) (fun r_134 => ?_)
                  refine tz_iadd (pc := 137) (v := 10 + (J 164 44)) dX12_symbol1_137 rfl ?_
                  refine tz_iload_n (pc := 138) dX12_symbol1_138 rfl rfl ?_
                  refine tz_aS (pc := 139) (z := (10 + (J 164 44))) dX12_symbol1_139 a_169 rfl (by omega) (by omega) ?_
                  refine tz_aload_n (pc := 140) dX12_symbol1_140 rfl rfl ?_
                  refine tz_fR (pc := 141) dX12_symbol1_141 fl_X12_25 r_164_5 ?_
                  refine tz_bipush (pc := 144) dX12_symbol1_144 (by decide) ?_
                  refine tz_aload_n (pc := 146) dX12_symbol1_146 rfl rfl ?_
                  refine tz_fI (pc := 147) (kz := 44) (v := (J 164 44)) dX12_symbol1_147 fl_X12_287 i_164_44 rfl (Eq.trans (w_123.1.2 44 rfl (by decide) (by decide)) (Eq.trans (w_115.1.2 44 rfl (by decide) (by decide)) (Eq.trans (w_109.1.2 44 rfl (by decide) (by decide)) (Eq.trans (w_92.1.2 44 rfl (by decide) (by decide)) (Eq.trans (w_63.1.2 44 rfl (by decide) (by decide)) (Eq.trans (w_42.1.2 44 rfl (by decide) (by decide)) (Eq.trans (w_24.1.2 44 rfl (by decide) (by decide)) (Eq.trans (w_16.1.2 44 rfl (by decide) (by decide)) rfl)))))))) (fun r_147 => ?_)
                  refine tz_iadd (pc := 150) (v := 10 + (J 164 44)) dX12_symbol1_150 rfl ?_
                  refine tz_iload_n (pc := 151) dX12_symbol1_151 rfl rfl ?_
                  refine tz_aS (pc := 152) (z := (10 + (J 164 44))) dX12_symbol1_152 a_170 rfl (by omega) (by omega) ?_
                  refine tz_aload_n (pc := 153) dX12_symbol1_153 rfl rfl ?_
                  refine tz_fR (pc := 154) dX12_symbol1_154 fl_X12_28 r_164_6 ?_
                  refine tz_bipush (pc := 157) dX12_symbol1_157 (by decide) ?_
                  refine tz_aload_n (pc := 159) dX12_symbol1_159 rfl rfl ?_
                  refine tz_fI (pc := 160) (kz := 44) (v := (J 164 44)) dX12_symbol1_160 fl_X12_287 i_164_44 rfl (Eq.trans (w_123.1.2 44 rfl (by decide) (by decide)) (Eq.trans (w_115.1.2 44 rfl (by decide) (by decide)) (Eq.trans (w_109.1.2 44 rfl (by decide) (by decide)) (Eq.trans (w_92.1.2 44 rfl (by decide) (by decide)) (Eq.trans (w_63.1.2 44 rfl (by decide) (by decide)) (Eq.trans (w_42.1.2 44 rfl (by decide) (by decide)) (Eq.trans (w_24.1.2 44 rfl (by decide) (by decide)) (Eq.trans (w_16.1.2 44 rfl (by decide) (by decide)) rfl)))))))) (fun r_160 => ?_)
                  refine tz_iadd (pc := 163) (v := 10 + (J 164 44)) dX12_symbol1_163 rfl ?_
                  refine tz_iload_n (pc := 164) dX12_symbol1_164 rfl rfl ?_
                  refine tz_aS (pc := 165) (z := (10 + (J 164 44))) dX12_symbol1_165 a_171 rfl (by omega) (by omega) ?_
                  refine tz_aload_n (pc := 166) dX12_symbol1_166 rfl rfl ?_
                  refine tz_dup (pc := 167) dX12_symbol1_167 rfl ?_
                  refine tz_fI (pc := 168) (kz := 44) (v := (J 164 44)) dX12_symbol1_168 fl_X12_287 i_164_44 rfl (Eq.trans (w_123.1.2 44 rfl (by decide) (by decide)) (Eq.trans (w_115.1.2 44 rfl (by decide) (by decide)) (Eq.trans (w_109.1.2 44 rfl (by decide) (by decide)) (Eq.trans (w_92.1.2 44 rfl (by decide) (by decide)) (Eq.trans (w_63.1.2 44 rfl (by decide) (by decide)) (Eq.trans (w_42.1.2 44 rfl (by decide) (by decide)) (Eq.trans (w_24.1.2 44 rfl (by decide) (by decide)) (Eq.trans (w_16.1.2 44 rfl (by decide) (by decide)) rfl)))))))) (fun r_168 => ?_)
                  refine tz_iconst (pc := 171) dX12_symbol1_171 ?_
                  refine tz_iadd (pc := 172) (v := (J 164 44) + 1) dX12_symbol1_172 rfl ?_
                  refine tz_pI (pc := 173) (kz := 44) dX12_symbol1_173 fl_X12_287 i_164_44 rfl rfl (by omega) ?_
                  exact tz_vret (pc := 176) dX12_symbol1_176 rfl (Nat.le_of_ble_eq_true rfl) (Nat.le_of_ble_eq_true rfl) ⟨Nat.le_refl _, Nat.le_add_right _ _⟩ ⟨rfl, RSy.n p_123 (by omega) (by omega)⟩

