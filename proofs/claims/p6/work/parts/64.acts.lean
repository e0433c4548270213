def fkp (c : Nat) : Bool := decide (c < 5 ∨ (5 < c ∧ c < 21) ∨ 60 < c)
theorem c_keep {l : Launch} {G : tb_G} (hl : l.stackTraces = false) (n : Nat) (J : zJ) (m0 m : Int) (hA : AC J m0 m) : tz_Ok l G M_X0_keep 1 0 0 [.ref 5] n J (zqv (fun J' => CI J' m ∧ zOf fkp J' J)) zN := by
  have hr := hA.2.1.1
  have fu : ∀ (J1 J2 : zJ) (i : Int), 0 ≤ i → i < 40 → zOf fkp J1 J2 → zOf fkp (zcp J1 61 (zU i) 0 0 61) J2 := fun J1 J2 i a b f => zOf.cp (decide_eq_false (by unfold zU; omega)) f
  by_cases h6 : J 5 6 = 40
  · refine (c_keepF hl n J h6 hr.1).mono (fun r J' _ h => ⟨h.1, ?_⟩) (fun E J' _ h => h)
    obtain ⟨-, rfl⟩ := h
    have h1 := (hA.drop h6).keepN (show (39 : Int) < 40 by decide)
    refine ⟨h1, zOf.up rfl (fu _ _ _ (by omega) (by omega) (zOf.up rfl (zOf.up rfl zOf.rf)))⟩
  · refine (c_keepN hl n J (by omega) hr.1).mono (fun r J' _ h => ⟨h.1, ?_⟩) (fun E J' _ h => h)
    obtain ⟨-, rfl⟩ := h
    exact ⟨hA.keepN (by omega), zOf.up rfl (fu _ _ _ (by omega) (by omega) zOf.rf)⟩
set_option maxHeartbeats 4000000 in
set_option maxRecDepth 100000 in
theorem c_refused {l : Launch} {G : tb_G} (hl : l.stackTraces = false) (n : Nat) (J : zJ) (k : Int) (a : Int) (hr_k : -2147483648 ≤ k ∧ k < 2147483648) (hr_a : -2147483648 ≤ a ∧ a < 2147483648)  (hk : 0 ≤ k ∧ k < 4) : tz_Ok l G M_X11_refused 0 0 0 [.ref 0, zi k, zi a] n J (zqi (fun z J' => zOf (zbut [62]) J' J ∧ a = z)) zN := by
  refine tz_Ok.of hl (by decide +kernel) rfl (tb_c1 rfl) (Nat.le_of_ble_eq_true rfl) ?_
  show tz_At l G M_X11_refused (tb_rm 0 0 0) none (tb_ZM G 0 0 (zQ n 0 (zqi (fun z J' => zOf (zbut [62]) J' J ∧ a = z))) (zX n 0 zN)) 0 0 n J 0 [some (.ref 0), some (zi k), some (zi a)] []
  refine tz_aload_n (pc := 0) dX11_refused_0 rfl rfl ?_
  refine tz_fR (pc := 1) dX11_refused_1 fl_X11_29 r_0_1 ?_
  refine tz_fR (pc := 4) dX11_refused_4 fl_X11_142 r_5_4 ?_
  refine tz_iload_n (pc := 7) dX11_refused_7 rfl rfl ?_
  refine tz_dup2 (pc := 8) dX11_refused_8 rfl rfl ?_
  refine tz_aL (pc := 9) (z := k) (v := (J 62 k)) dX11_refused_9 a_62 rfl (by omega) rfl (fun r_9 => ?_)
  refine tz_iconst (pc := 10) dX11_refused_10 ?_
  refine tz_iadd (pc := 11) (v := (J 62 k) + 1) dX11_refused_11 rfl ?_
  refine tz_tw ?_
  have rw_12 := zw_rg ((J 62 k) + 1)
  refine tz_aS (pc := 12) (z := k) dX11_refused_12 a_62 rfl (by omega) (zw_rg _) ?_
  refine tz_iload_n (pc := 13) dX11_refused_13 rfl rfl ?_
  exact tz_iret (pc := 14) (z := a) dX11_refused_14 rfl (Nat.le_of_ble_eq_true rfl) (Nat.le_of_ble_eq_true rfl) ⟨Nat.le_refl _, Nat.le_add_right _ _⟩ ⟨_, rfl, (by omega), ⟨zOf.up rfl zOf.rf, rfl⟩⟩

set_option maxHeartbeats 4000000 in
set_option maxRecDepth 100000 in
theorem c_settled {l : Launch} {G : tb_G} (hl : l.stackTraces = false) (n : Nat) (J : zJ) (g : Int) (hr_g : -2147483648 ≤ g ∧ g < 2147483648) (m0 m : Int) (hA : AC J m0 m) : tz_Ok l G M_X11_settled 5 0 0 [.ref 0, zi g] n J (zqi (fun z J' => SQ J' J)) zN := by
  refine tz_Ok.of hl (by decide +kernel) rfl (tb_c1 rfl) (Nat.le_of_ble_eq_true rfl) ?_
  show tz_At l G M_X11_settled (tb_rm 5 0 0) none (tb_ZM G 0 0 (zQ n 0 (zqi (fun z J' => SQ J' J))) (zX n 0 zN)) 0 0 n J 0 [some (.ref 0), some (zi g)] []
  refine tz_iload_n (pc := 0) dX11_settled_0 rfl rfl ?_
  refine tz_if_ge (pc := 1) (tgt := 18) dX11_settled_1 (by decide) (by omega) (fun h_1 => ?_) (fun h_1 => ?_)
  · refine tz_aload_n (pc := 18) dX11_settled_18 rfl rfl ?_
    refine tz_fR (pc := 19) dX11_settled_19 fl_X11_29 r_0_1 ?_
    refine tz_cV (pc := 22) (c_keep hl n _ m0 m hA) vl_X11_305 dX11_settled_22 o_5 rfl rfl (Nat.le_of_ble_eq_true rfl) ⟨(Nat.le_of_ble_eq_true rfl), (Nat.le_of_ble_eq_true rfl)⟩ rfl rfl (Nat.le_of_ble_eq_true rfl) (Nat.le_of_ble_eq_true rfl) (fun r9 J_22 hq9 => ?_)
    obtain ⟨rfl, k9⟩ := hq9
    refine tz_iload_n (pc := 25) dX11_settled_25 rfl rfl ?_
    exact tz_iret (pc := 26) (z := g) dX11_settled_26 rfl (Nat.le_of_ble_eq_true rfl) (Nat.le_of_ble_eq_true rfl) ⟨Nat.le_refl _, Nat.le_add_right _ _⟩ ⟨_, rfl, (by omega), (by first | exact ⟨⟨m0, hc.st f2⟩, (f2 145 rfl).trans (b1 145 rfl), (f2 0 rfl).trans (b1 0 rfl), (f2.mono (fun c hc => by have := of_decide_eq_true hc; simp [zbut]; omega)).tr (b1.mono (fun c hc => by have := of_decide_eq_true hc; simp [zbut]; omega))⟩ | exact ⟨⟨m, k9.1⟩, k9.2 145 rfl, k9.2 0 rfl, k9.2.mono (fun c hc => by have := of_decide_eq_true hc; exact decide_eq_true (by omega))⟩)⟩
  · refine tz_aload_n (pc := 4) dX11_settled_4 rfl rfl ?_
    refine tz_fR (pc := 5) dX11_settled_5 fl_X11_29 r_0_1 ?_
    refine tz_cV (pc := 8) (c_rollBack hl n _ m hA.1.1.1 hA.1.1.2.1 (by rw [hA.2.2.1.2]; exact hA.2.2.2)) vl_X11_388 dX11_settled_8 o_5 rfl rfl (Nat.le_of_ble_eq_true rfl) ⟨(Nat.le_of_ble_eq_true rfl), (Nat.le_of_ble_eq_true rfl)⟩ rfl rfl (Nat.le_of_ble_eq_true rfl) (Nat.le_of_ble_eq_true rfl) (fun r9 J_8 hq9 => ?_)
    obtain ⟨rfl, b1, b2, b3, b4⟩ := hq9
    have hc := hA.back b1 b2 b3 b4
    refine tz_aload_n (pc := 11) dX11_settled_11 rfl rfl ?_
    refine tz_iconst (pc := 12) dX11_settled_12 ?_
    refine tz_iload_n (pc := 13) dX11_settled_13 rfl rfl ?_
    refine tz_cV (pc := 14) (c_refused hl n _ _ _ (by decide) (by omega) (by decide)) vl_X11_284 dX11_settled_14 o_0 rfl rfl (Nat.le_of_ble_eq_true rfl) ⟨(Nat.le_of_ble_eq_true rfl), (Nat.le_of_ble_eq_true rfl)⟩ rfl rfl (Nat.le_of_ble_eq_true rfl) (Nat.le_of_ble_eq_true rfl) (fun r9 J_14 hq9 => ?_)
    obtain ⟨z_14, rfl, hz_14, f2, -⟩ := hq9
    exact tz_iret (pc := 17) (z := z_14) dX11_settled_17 rfl (Nat.le_of_ble_eq_true rfl) (Nat.le_of_ble_eq_true rfl) ⟨Nat.le_refl _, Nat.le_add_right _ _⟩ ⟨_, rfl, (by omega), (by first | exact ⟨⟨m0, hc.st f2⟩, (f2 145 rfl).trans (b1 145 rfl), (f2 0 rfl).trans (b1 0 rfl), (f2.mono (fun c hc => by have := of_decide_eq_true hc; simp [zbut]; omega)).tr (b1.mono (fun c hc => by have := of_decide_eq_true hc; simp [zbut]; omega))⟩ | exact ⟨⟨m, k9.1⟩, k9.2 145 rfl, k9.2 0 rfl, k9.2.mono (fun c hc => by have := of_decide_eq_true hc; exact decide_eq_true (by omega))⟩)⟩

set_option maxHeartbeats 4000000 in
set_option maxRecDepth 100000 in
theorem c_isVarN {l : Launch} {G : tb_G} (hl : l.stackTraces = false) (n : Nat) (J : zJ) (x : Int) (hr_x : -2147483648 ≤ x ∧ x < 2147483648)   : tz_Ok l G M_X11_isVariableNumber 0 0 0 [zi x] n J (zqi (fun z J' => J = J' ∧ (if 0 ≤ x ∧ x < 8 then 1 else 0) = z)) zN := by
  refine tz_Ok.of hl (by decide +kernel) rfl (tb_c1 rfl) (Nat.le_of_ble_eq_true rfl) ?_
  show tz_At l G M_X11_isVariableNumber (tb_rm 0 0 0) none (tb_ZM G 0 0 (zQ n 0 (zqi (fun z J' => J = J' ∧ (if 0 ≤ x ∧ x < 8 then 1 else 0) = z))) (zX n 0 zN)) 0 0 n J 0 [some (zi x)] []
  refine tz_iload_n (pc := 0) dX11_isVariableNumber_0 rfl rfl ?_
  refine tz_if_lt (pc := 1) (tgt := 14) dX11_isVariableNumber_1 (by decide) (by omega) (fun h_1 => ?_) (fun h_1 => ?_)
  · refine tz_iconst (pc := 14) dX11_isVariableNumber_14 ?_
    exact tz_zret (pc := 15) (z := 0) dX11_isVariableNumber_15 rfl (Or.inl rfl) (Nat.le_of_ble_eq_true rfl) (Nat.le_of_ble_eq_true rfl) ⟨Nat.le_refl _, Nat.le_add_right _ _⟩ ⟨_, rfl, (by decide), ⟨rfl, by split <;> omega⟩⟩
  · refine tz_iload_n (pc := 4) dX11_isVariableNumber_4 rfl rfl ?_
    refine tz_bipush (pc := 5) dX11_isVariableNumber_5 (by decide) ?_
    refine tz_icmp_ge (pc := 7) (tgt := 14) dX11_isVariableNumber_7 (by decide) (by omega) (by decide) (fun h_7 => ?_) (fun h_7 => ?_)
    · refine tz_iconst (pc := 14) dX11_isVariableNumber_14 ?_
      exact tz_zret (pc := 15) (z := 0) dX11_isVariableNumber_15 rfl (Or.inl rfl) (Nat.le_of_ble_eq_true rfl) (Nat.le_of_ble_eq_true rfl) ⟨Nat.le_refl _, Nat.le_add_right _ _⟩ ⟨_, rfl, (by decide), ⟨rfl, by split <;> omega⟩⟩
    · refine tz_iconst (pc := 10) dX11_isVariableNumber_10 ?_
      refine tz_goto (pc := 11) (tgt := 15) dX11_isVariableNumber_11 (by decide) ?_
      exact tz_zret (pc := 15) (z := 1) dX11_isVariableNumber_15 rfl (Or.inr rfl) (Nat.le_of_ble_eq_true rfl) (Nat.le_of_ble_eq_true rfl) ⟨Nat.le_refl _, Nat.le_add_right _ _⟩ ⟨_, rfl, (by decide), ⟨rfl, by split <;> omega⟩⟩

set_option maxHeartbeats 4000000 in
set_option maxRecDepth 100000 in
theorem t_variable {l : Launch} {G : tb_G} (hl : l.stackTraces = false) (n : Nat) (J : zJ) (x : Int) (hr_x : -2147483648 ≤ x ∧ x < 2147483648) (m : Int) (hI : CI J m) (h9 : J 145 10 < 1000000000) : tz_Ok l G M_X11_variable 6 0 0 [.ref 0, zi x] n J (zqi (fun z J' => CQ J' J)) zN := by
  refine tz_Ok.of hl (by decide +kernel) rfl (tb_c1 rfl) (Nat.le_of_ble_eq_true rfl) ?_
  show tz_At l G M_X11_variable (tb_rm 6 0 0) none (tb_ZM G 0 0 (zQ n 0 (zqi (fun z J' => CQ J' J))) (zX n 0 zN)) 0 0 n J 0 [some (.ref 0), some (zi x)] []
  have hC := hI.1.1.1
  have hm := hI.1.1.2.1
  have hL := hI.1.1.2.2
  have hb := hC.told
  refine tz_iload_n (pc := 0) dX11_variable_0 rfl rfl ?_
  refine tz_cS (pc := 1) (c_isVarN hl n _ _ (by omega)) sl_X11_279 dX11_variable_1 rfl rfl (Nat.le_of_ble_eq_true rfl) ⟨(Nat.le_of_ble_eq_true rfl), (Nat.le_of_ble_eq_true rfl)⟩ rfl rfl (Nat.le_of_ble_eq_true rfl) (Nat.le_of_ble_eq_true rfl) (fun r9 J_1 hq9 => ?_)
  obtain ⟨z_1, rfl, hz_1, rfl, rfl⟩ := hq9
  by_cases hw_4 : 0 ≤ x ∧ x < 8
  · rw [show (if 0 ≤ x ∧ x < 8 then 1 else 0 : Int) = 1 from if_pos hw_4]
    refine tz_if_neT (pc := 4) (tgt := 14) (by decide) dX11_variable_4 (by decide) (by decide) ?_
    refine tz_aload_n (pc := 14) dX11_variable_14 rfl rfl ?_
    refine tz_fR (pc := 15) dX11_variable_15 fl_X11_29 r_0_1 ?_
    refine tz_cV (pc := 18) (c_begin hl n _) vl_X11_287 dX11_variable_18 o_5 rfl rfl (Nat.le_of_ble_eq_true rfl) ⟨(Nat.le_of_ble_eq_true rfl), (Nat.le_of_ble_eq_true rfl)⟩ rfl rfl (Nat.le_of_ble_eq_true rfl) (Nat.le_of_ble_eq_true rfl) (fun r9 Jb hq9 => ?_)
    obtain ⟨rfl, hj⟩ := hq9
    have hb9 : zOf (zbut [19, 61]) Jb J := by rw [← hj]; exact zOf.cp rfl (zOf.up rfl zOf.rf)
    have hb19 : ∀ k, ¬ k = 0 → Jb 19 k = J 19 k := fun k hk => by rw [← hj, zcp_nc (by decide), zup_ne hk]
    have a0 : AC Jb m m := by rw [← hj]; exact hI.begin
    have hb6 := a0.1.1.2.1
    refine tz_aload_n (pc := 21) dX11_variable_21 rfl rfl ?_
    refine tz_aload_n (pc := 22) dX11_variable_22 rfl rfl ?_
    refine tz_fR (pc := 23) dX11_variable_23 fl_X11_29 r_0_1 ?_
    refine tz_fR (pc := 26) dX11_variable_26 fl_X11_49 r_5_0 ?_
    refine tz_iload_n (pc := 29) dX11_variable_29 rfl rfl ?_
    refine tz_cV (pc := 30) (c_varTerm hl n _ _ (by omega) m a0.1.1.1 a0.1.1.2.1 (by omega)) vl_X11_290 dX11_variable_30 o_6 rfl rfl (Nat.le_of_ble_eq_true rfl) ⟨(Nat.le_of_ble_eq_true rfl), (Nat.le_of_ble_eq_true rfl)⟩ rfl rfl (Nat.le_of_ble_eq_true rfl) (Nat.le_of_ble_eq_true rfl) (fun r9 J_30 hq9 => ?_)
    obtain ⟨z_30, rfl, hz_30, p1⟩ := hq9
    obtain ⟨m1, g1, h1⟩ := GR.made p1 (by omega)
    have a1 := a0.gx0 (g1.x (X := [])) rfl
    refine tz_cV (pc := 33) (c_settled hl n _ _ (by omega) m m1 a1) vl_X11_293 dX11_variable_33 o_0 rfl rfl (Nat.le_of_ble_eq_true rfl) ⟨(Nat.le_of_ble_eq_true rfl), (Nat.le_of_ble_eq_true rfl)⟩ rfl rfl (Nat.le_of_ble_eq_true rfl) (Nat.le_of_ble_eq_true rfl) (fun r9 J_33 hq9 => ?_)
    obtain ⟨z_33, rfl, hz_33, s9⟩ := hq9
    exact tz_iret (pc := 36) (z := z_33) dX11_variable_36 rfl (Nat.le_of_ble_eq_true rfl) (Nat.le_of_ble_eq_true rfl) ⟨Nat.le_refl _, Nat.le_add_right _ _⟩ ⟨_, rfl, (by omega), (s9.cq (by rw [g1.2.2.2.2 145 rfl, hb9 145 rfl]; omega) ((g1.2.2.2.2 0 rfl).trans (hb9 0 rfl)) ((g1.2.2.2.2.mono (fun c hc => by have := of_decide_eq_true hc; simp [zbut]; omega)).tr (hb9.mono (fun c hc => by have := of_decide_eq_true hc; simp [zbut]; omega))))⟩
  · rw [show (if 0 ≤ x ∧ x < 8 then 1 else 0 : Int) = 0 from if_neg hw_4]
    refine tz_if_neF (pc := 4) (tgt := 14) (by decide) dX11_variable_4 (by decide) (by decide) ?_
    refine tz_aload_n (pc := 7) dX11_variable_7 rfl rfl ?_
    refine tz_iconst (pc := 8) dX11_variable_8 ?_
    refine tz_iconst (pc := 9) dX11_variable_9 ?_
    refine tz_cV (pc := 10) (c_refused hl n _ _ _ (by decide) (by omega) (by decide)) vl_X11_284 dX11_variable_10 o_0 rfl rfl (Nat.le_of_ble_eq_true rfl) ⟨(Nat.le_of_ble_eq_true rfl), (Nat.le_of_ble_eq_true rfl)⟩ rfl rfl (Nat.le_of_ble_eq_true rfl) (Nat.le_of_ble_eq_true rfl) (fun r9 J_10 hq9 => ?_)
    obtain ⟨z_10, rfl, hz_10, f9, -⟩ := hq9
    exact tz_iret (pc := 13) (z := z_10) dX11_variable_13 rfl (Nat.le_of_ble_eq_true rfl) (Nat.le_of_ble_eq_true rfl) ⟨Nat.le_refl _, Nat.le_add_right _ _⟩ ⟨_, rfl, (by omega), (SQ.cq ⟨⟨m, hI.st f9⟩, f9 145 rfl, f9 0 rfl, (f9.mono (fun c hc => by have := of_decide_eq_true hc; simp [zbut]; omega))⟩ (by omega) rfl zOf.rf)⟩

set_option maxHeartbeats 4000000 in
set_option maxRecDepth 100000 in
theorem c_haveArgs {l : Launch} {G : tb_G} (hl : l.stackTraces = false) (n : Nat) (J : zJ) (u : Int) (a : Int) (b : Int) (c : Int) (hr_u : -2147483648 ≤ u ∧ u < 2147483648) (hr_a : -2147483648 ≤ a ∧ a < 2147483648) (hr_b : -2147483648 ≤ b ∧ b < 2147483648) (hr_c : -2147483648 ≤ c ∧ c < 2147483648)   : tz_Ok l G M_X11_haveArguments 1 0 0 [.ref 0, zi u, zi a, zi b, zi c] n J (zqi (fun z J' => J = J' ∧ (z = 0 ∨ z = 1) ∧ (z = 1 → (0 < u → 0 ≤ a ∧ a < J 6 12) ∧ (1 < u → 0 ≤ b ∧ b < J 6 12) ∧ (2 < u → 0 ≤ c ∧ c < J 6 12)))) zN := by
  refine tz_Ok.of hl (by decide +kernel) rfl (tb_c1 rfl) (Nat.le_of_ble_eq_true rfl) ?_
  show tz_At l G M_X11_haveArguments (tb_rm 1 0 0) none (tb_ZM G 0 0 (zQ n 0 (zqi (fun z J' => J = J' ∧ (z = 0 ∨ z = 1) ∧ (z = 1 → (0 < u → 0 ≤ a ∧ a < J 6 12) ∧ (1 < u → 0 ≤ b ∧ b < J 6 12) ∧ (2 < u → 0 ≤ c ∧ c < J 6 12))))) (zX n 0 zN)) 0 0 n J 0 [some (.ref 0), some (zi u), some (zi a), some (zi b), some (zi c), none] []
  refine tz_aload_n (pc := 0) dX11_haveArguments_0 rfl rfl ?_
  refine tz_fR (pc := 1) dX11_haveArguments_1 fl_X11_29 r_0_1 ?_
  refine tz_fR (pc := 4) dX11_haveArguments_4 fl_X11_49 r_5_0 ?_
  refine tz_astore (pc := 7) (L2 := [_, _, _, _, _, _]) dX11_haveArguments_7 (by decide) rfl ?_
  refine tz_iload_n (pc := 9) dX11_haveArguments_9 rfl rfl ?_
  refine tz_iconst (pc := 10) dX11_haveArguments_10 ?_
  refine tz_icmp_lt (pc := 11) (tgt := 23) dX11_haveArguments_11 (by decide) (by omega) (by decide) (fun h_11 => ?_) (fun h_11 => ?_)
  · refine tz_iload_n (pc := 23) dX11_haveArguments_23 rfl rfl ?_
    refine tz_iconst (pc := 24) dX11_haveArguments_24 ?_
    refine tz_icmp_lt (pc := 25) (tgt := 37) dX11_haveArguments_25 (by decide) (by omega) (by decide) (fun h_25 => ?_) (fun h_25 => ?_)
    · refine tz_iload_n (pc := 37) dX11_haveArguments_37 rfl rfl ?_
      refine tz_iconst (pc := 38) dX11_haveArguments_38 ?_
      refine tz_icmp_lt (pc := 39) (tgt := 52) dX11_haveArguments_39 (by decide) (by omega) (by decide) (fun h_39 => ?_) (fun h_39 => ?_)
      · refine tz_iconst (pc := 52) dX11_haveArguments_52 ?_
        refine tz_goto (pc := 53) (tgt := 57) dX11_haveArguments_53 (by decide) ?_
        exact tz_zret (pc := 57) (z := 1) dX11_haveArguments_57 rfl (Or.inr rfl) (Nat.le_of_ble_eq_true rfl) (Nat.le_of_ble_eq_true rfl) ⟨Nat.le_refl _, Nat.le_add_right _ _⟩ ⟨_, rfl, (by decide), ⟨rfl, by omega, by omega⟩⟩
      · refine tz_aload (pc := 42) dX11_haveArguments_42 rfl ?_
        refine tz_iload (pc := 44) dX11_haveArguments_44 rfl ?_
        refine tz_cV (pc := 46) (c_has hl n _ _ (by omega)) vl_X11_304 dX11_haveArguments_46 o_6 rfl rfl (Nat.le_of_ble_eq_true rfl) ⟨(Nat.le_of_ble_eq_true rfl), (Nat.le_of_ble_eq_true rfl)⟩ rfl rfl (Nat.le_of_ble_eq_true rfl) (Nat.le_of_ble_eq_true rfl) (fun r9 J_46 hq9 => ?_)
        obtain ⟨z_46, rfl, hz_46, rfl, rfl⟩ := hq9
        by_cases hw_49 : 0 ≤ c ∧ c < J 6 12
        · rw [show (if 0 ≤ c ∧ c < J 6 12 then 1 else 0 : Int) = 1 from if_pos hw_49]
          refine tz_if_eqF (pc := 49) (tgt := 56) (by decide) dX11_haveArguments_49 (by decide) (by decide) ?_
          refine tz_iconst (pc := 52) dX11_haveArguments_52 ?_
          refine tz_goto (pc := 53) (tgt := 57) dX11_haveArguments_53 (by decide) ?_
          exact tz_zret (pc := 57) (z := 1) dX11_haveArguments_57 rfl (Or.inr rfl) (Nat.le_of_ble_eq_true rfl) (Nat.le_of_ble_eq_true rfl) ⟨Nat.le_refl _, Nat.le_add_right _ _⟩ ⟨_, rfl, (by decide), ⟨rfl, by omega, by omega⟩⟩
        · rw [show (if 0 ≤ c ∧ c < J 6 12 then 1 else 0 : Int) = 0 from if_neg hw_49]
          refine tz_if_eqT (pc := 49) (tgt := 56) (by decide) dX11_haveArguments_49 (by decide) (by decide) ?_
          refine tz_iconst (pc := 56) dX11_haveArguments_56 ?_
          exact tz_zret (pc := 57) (z := 0) dX11_haveArguments_57 rfl (Or.inl rfl) (Nat.le_of_ble_eq_true rfl) (Nat.le_of_ble_eq_true rfl) ⟨Nat.le_refl _, Nat.le_add_right _ _⟩ ⟨_, rfl, (by decide), ⟨rfl, by omega, by omega⟩⟩
    · refine tz_aload (pc := 28) dX11_haveArguments_28 rfl ?_
      refine tz_iload_n (pc := 30) dX11_haveArguments_30 rfl rfl ?_
      refine tz_cV (pc := 31) (c_has hl n _ _ (by omega)) vl_X11_304 dX11_haveArguments_31 o_6 rfl rfl (Nat.le_of_ble_eq_true rfl) ⟨(Nat.le_of_ble_eq_true rfl), (Nat.le_of_ble_eq_true rfl)⟩ rfl rfl (Nat.le_of_ble_eq_true rfl) (Nat.le_of_ble_eq_true rfl) (fun r9 J_31 hq9 => ?_)
      obtain ⟨z_31, rfl, hz_31, rfl, rfl⟩ := hq9
      by_cases hw_34 : 0 ≤ b ∧ b < J 6 12
      · rw [show (if 0 ≤ b ∧ b < J 6 12 then 1 else 0 : Int) = 1 from if_pos hw_34]
        refine tz_if_eqF (pc := 34) (tgt := 56) (by decide) dX11_haveArguments_34 (by decide) (by decide) ?_
        refine tz_iload_n (pc := 37) dX11_haveArguments_37 rfl rfl ?_
        refine tz_iconst (pc := 38) dX11_haveArguments_38 ?_
        refine tz_icmp_lt (pc := 39) (tgt := 52) dX11_haveArguments_39 (by decide) (by omega) (by decide) (fun h_39 => ?_) (fun h_39 => ?_)
        · refine tz_iconst (pc := 52) dX11_haveArguments_52 ?_
          refine tz_goto (pc := 53) (tgt := 57) dX11_haveArguments_53 (by decide) ?_
          exact tz_zret (pc := 57) (z := 1) dX11_haveArguments_57 rfl (Or.inr rfl) (Nat.le_of_ble_eq_true rfl) (Nat.le_of_ble_eq_true rfl) ⟨Nat.le_refl _, Nat.le_add_right _ _⟩ ⟨_, rfl, (by decide), ⟨rfl, by omega, by omega⟩⟩
        · refine tz_aload (pc := 42) dX11_haveArguments_42 rfl ?_
          refine tz_iload (pc := 44) dX11_haveArguments_44 rfl ?_
          refine tz_cV (pc := 46) (c_has hl n _ _ (by omega)) vl_X11_304 dX11_haveArguments_46 o_6 rfl rfl (Nat.le_of_ble_eq_true rfl) ⟨(Nat.le_of_ble_eq_true rfl), (Nat.le_of_ble_eq_true rfl)⟩ rfl rfl (Nat.le_of_ble_eq_true rfl) (Nat.le_of_ble_eq_true rfl) (fun r9 J_46 hq9 => ?_)
          obtain ⟨z_46, rfl, hz_46, rfl, rfl⟩ := hq9
          by_cases hw_49 : 0 ≤ c ∧ c < J 6 12
          · rw [show (if 0 ≤ c ∧ c < J 6 12 then 1 else 0 : Int) = 1 from if_pos hw_49]
            refine tz_if_eqF (pc := 49) (tgt := 56) (by decide) dX11_haveArguments_49 (by decide) (by decide) ?_
            refine tz_iconst (pc := 52) dX11_haveArguments_52 ?_
            refine tz_goto (pc := 53) (tgt := 57) dX11_haveArguments_53 (by decide) ?_
            exact tz_zret (pc := 57) (z := 1) dX11_haveArguments_57 rfl (Or.inr rfl) (Nat.le_of_ble_eq_true rfl) (Nat.le_of_ble_eq_true rfl) ⟨Nat.le_refl _, Nat.le_add_right _ _⟩ ⟨_, rfl, (by decide), ⟨rfl, by omega, by omega⟩⟩
          · rw [show (if 0 ≤ c ∧ c < J 6 12 then 1 else 0 : Int) = 0 from if_neg hw_49]
            refine tz_if_eqT (pc := 49) (tgt := 56) (by decide) dX11_haveArguments_49 (by decide) (by decide) ?_
            refine tz_iconst (pc := 56) dX11_haveArguments_56 ?_
            exact tz_zret (pc := 57) (z := 0) dX11_haveArguments_57 rfl (Or.inl rfl) (Nat.le_of_ble_eq_true rfl) (Nat.le_of_ble_eq_true rfl) ⟨Nat.le_refl _, Nat.le_add_right _ _⟩ ⟨_, rfl, (by decide), ⟨rfl, by omega, by omega⟩⟩
      · rw [show (if 0 ≤ b ∧ b < J 6 12 then 1 else 0 : Int) = 0 from if_neg hw_34]
        refine tz_if_eqT (pc := 34) (tgt := 56) (by decide) dX11_haveArguments_34 (by decide) (by decide) ?_
        refine tz_iconst (pc := 56) dX11_haveArguments_56 ?_
        exact tz_zret (pc := 57) (z := 0) dX11_haveArguments_57 rfl (Or.inl rfl) (Nat.le_of_ble_eq_true rfl) (Nat.le_of_ble_eq_true rfl) ⟨Nat.le_refl _, Nat.le_add_right _ _⟩ ⟨_, rfl, (by decide), ⟨rfl, by omega, by omega⟩⟩
  · refine tz_aload (pc := 14) dX11_haveArguments_14 rfl ?_
    refine tz_iload_n (pc := 16) dX11_haveArguments_16 rfl rfl ?_
    refine tz_cV (pc := 17) (c_has hl n _ _ (by omega)) vl_X11_304 dX11_haveArguments_17 o_6 rfl rfl (Nat.le_of_ble_eq_true rfl) ⟨(Nat.le_of_ble_eq_true rfl), (Nat.le_of_ble_eq_true rfl)⟩ rfl rfl (Nat.le_of_ble_eq_true rfl) (Nat.le_of_ble_eq_true rfl) (fun r9 J_17 hq9 => ?_)
    obtain ⟨z_17, rfl, hz_17, rfl, rfl⟩ := hq9
    by_cases hw_20 : 0 ≤ a ∧ a < J 6 12
    · rw [show (if 0 ≤ a ∧ a < J 6 12 then 1 else 0 : Int) = 1 from if_pos hw_20]
      refine tz_if_eqF (pc := 20) (tgt := 56) (by decide) dX11_haveArguments_20 (by decide) (by decide) ?_
      refine tz_iload_n (pc := 23) dX11_haveArguments_23 rfl rfl ?_
      refine tz_iconst (pc := 24) dX11_haveArguments_24 ?_
      refine tz_icmp_lt (pc := 25) (tgt := 37) dX11_haveArguments_25 (by decide) (by omega) (by decide) (fun h_25 => ?_) (fun h_25 => ?_)
      · refine tz_iload_n (pc := 37) dX11_haveArguments_37 rfl rfl ?_
        refine tz_iconst (pc := 38) dX11_haveArguments_38 ?_
        refine tz_icmp_lt (pc := 39) (tgt := 52) dX11_haveArguments_39 (by decide) (by omega) (by decide) (fun h_39 => ?_) (fun h_39 => ?_)
        · refine tz_iconst (pc := 52) dX11_haveArguments_52 ?_
          refine tz_goto (pc := 53) (tgt := 57) dX11_haveArguments_53 (by decide) ?_
          exact tz_zret (pc := 57) (z := 1) dX11_haveArguments_57 rfl (Or.inr rfl) (Nat.le_of_ble_eq_true rfl) (Nat.le_of_ble_eq_true rfl) ⟨Nat.le_refl _, Nat.le_add_right _ _⟩ ⟨_, rfl, (by decide), ⟨rfl, by omega, by omega⟩⟩
        · refine tz_aload (pc := 42) dX11_haveArguments_42 rfl ?_
          refine tz_iload (pc := 44) dX11_haveArguments_44 rfl ?_
          refine tz_cV (pc := 46) (c_has hl n _ _ (by omega)) vl_X11_304 dX11_haveArguments_46 o_6 rfl rfl (Nat.le_of_ble_eq_true rfl) ⟨(Nat.le_of_ble_eq_true rfl), (Nat.le_of_ble_eq_true rfl)⟩ rfl rfl (Nat.le_of_ble_eq_true rfl) (Nat.le_of_ble_eq_true rfl) (fun r9 J_46 hq9 => ?_)
          obtain ⟨z_46, rfl, hz_46, rfl, rfl⟩ := hq9
          by_cases hw_49 : 0 ≤ c ∧ c < J 6 12
          · rw [show (if 0 ≤ c ∧ c < J 6 12 then 1 else 0 : Int) = 1 from if_pos hw_49]
            refine tz_if_eqF (pc := 49) (tgt := 56) (by decide) dX11_haveArguments_49 (by decide) (by decide) ?_
            refine tz_iconst (pc := 52) dX11_haveArguments_52 ?_
            refine tz_goto (pc := 53) (tgt := 57) dX11_haveArguments_53 (by decide) ?_
            exact tz_zret (pc := 57) (z := 1) dX11_haveArguments_57 rfl (Or.inr rfl) (Nat.le_of_ble_eq_true rfl) (Nat.le_of_ble_eq_true rfl) ⟨Nat.le_refl _, Nat.le_add_right _ _⟩ ⟨_, rfl, (by decide), ⟨rfl, by omega, by omega⟩⟩
          · rw [show (if 0 ≤ c ∧ c < J 6 12 then 1 else 0 : Int) = 0 from if_neg hw_49]
            refine tz_if_eqT (pc := 49) (tgt := 56) (by decide) dX11_haveArguments_49 (by decide) (by decide) ?_
            refine tz_iconst (pc := 56) dX11_haveArguments_56 ?_
            exact tz_zret (pc := 57) (z := 0) dX11_haveArguments_57 rfl (Or.inl rfl) (Nat.le_of_ble_eq_true rfl) (Nat.le_of_ble_eq_true rfl) ⟨Nat.le_refl _, Nat.le_add_right _ _⟩ ⟨_, rfl, (by decide), ⟨rfl, by omega, by omega⟩⟩
      · refine tz_aload (pc := 28) dX11_haveArguments_28 rfl ?_
        refine tz_iload_n (pc := 30) dX11_haveArguments_30 rfl rfl ?_
        refine tz_cV (pc := 31) (c_has hl n _ _ (by omega)) vl_X11_304 dX11_haveArguments_31 o_6 rfl rfl (Nat.le_of_ble_eq_true rfl) ⟨(Nat.le_of_ble_eq_true rfl), (Nat.le_of_ble_eq_true rfl)⟩ rfl rfl (Nat.le_of_ble_eq_true rfl) (Nat.le_of_ble_eq_true rfl) (fun r9 J_31 hq9 => ?_)
        obtain ⟨z_31, rfl, hz_31, rfl, rfl⟩ := hq9
        by_cases hw_34 : 0 ≤ b ∧ b < J 6 12
        · rw [show (if 0 ≤ b ∧ b < J 6 12 then 1 else 0 : Int) = 1 from if_pos hw_34]
          refine tz_if_eqF (pc := 34) (tgt := 56) (by decide) dX11_haveArguments_34 (by decide) (by decide) ?_
          refine tz_iload_n (pc := 37) dX11_haveArguments_37 rfl rfl ?_
          refine tz_iconst (pc := 38) dX11_haveArguments_38 ?_
          refine tz_icmp_lt (pc := 39) (tgt := 52) dX11_haveArguments_39 (by decide) (by omega) (by decide) (fun h_39 => ?_) (fun h_39 => ?_)
          · refine tz_iconst (pc := 52) dX11_haveArguments_52 ?_
            refine tz_goto (pc := 53) (tgt := 57) dX11_haveArguments_53 (by decide) ?_
            exact tz_zret (pc := 57) (z := 1) dX11_haveArguments_57 rfl (Or.inr rfl) (Nat.le_of_ble_eq_true rfl) (Nat.le_of_ble_eq_true rfl) ⟨Nat.le_refl _, Nat.le_add_right _ _⟩ ⟨_, rfl, (by decide), ⟨rfl, by omega, by omega⟩⟩
          · refine tz_aload (pc := 42) dX11_haveArguments_42 rfl ?_
            refine tz_iload (pc := 44) dX11_haveArguments_44 rfl ?_
            refine tz_cV (pc := 46) (c_has hl n _ _ (by omega)) vl_X11_304 dX11_haveArguments_46 o_6 rfl rfl (Nat.le_of_ble_eq_true rfl) ⟨(Nat.le_of_ble_eq_true rfl), (Nat.le_of_ble_eq_true rfl)⟩ rfl rfl (Nat.le_of_ble_eq_true rfl) (Nat.le_of_ble_eq_true rfl) (fun r9 J_46 hq9 => ?_)
            obtain ⟨z_46, rfl, hz_46, rfl, rfl⟩ := hq9
            by_cases hw_49 : 0 ≤ c ∧ c < J 6 12
            · rw [show (if 0 ≤ c ∧ c < J 6 12 then 1 else 0 : Int) = 1 from if_pos hw_49]
              refine tz_if_eqF (pc := 49) (tgt := 56) (by decide) dX11_haveArguments_49 (by decide) (by decide) ?_
              refine tz_iconst (pc := 52) dX11_haveArguments_52 ?_
              refine tz_goto (pc := 53) (tgt := 57) dX11_haveArguments_53 (by decide) ?_
              exact tz_zret (pc := 57) (z := 1) dX11_haveArguments_57 rfl (Or.inr rfl) (Nat.le_of_ble_eq_true rfl) (Nat.le_of_ble_eq_true rfl) ⟨Nat.le_refl _, Nat.le_add_right _ _⟩ ⟨_, rfl, (by decide), ⟨rfl, by omega, by omega⟩⟩
            · rw [show (if 0 ≤ c ∧ c < J 6 12 then 1 else 0 : Int) = 0 from if_neg hw_49]
              refine tz_if_eqT (pc := 49) (tgt := 56) (by decide) dX11_haveArguments_49 (by decide) (by decide) ?_
              refine tz_iconst (pc := 56) dX11_haveArguments_56 ?_
              exact tz_zret (pc := 57) (z := 0) dX11_haveArguments_57 rfl (Or.inl rfl) (Nat.le_of_ble_eq_true rfl) (Nat.le_of_ble_eq_true rfl) ⟨Nat.le_refl _, Nat.le_add_right _ _⟩ ⟨_, rfl, (by decide), ⟨rfl, by omega, by omega⟩⟩
        · rw [show (if 0 ≤ b ∧ b < J 6 12 then 1 else 0 : Int) = 0 from if_neg hw_34]
          refine tz_if_eqT (pc := 34) (tgt := 56) (by decide) dX11_haveArguments_34 (by decide) (by decide) ?_
          refine tz_iconst (pc := 56) dX11_haveArguments_56 ?_
          exact tz_zret (pc := 57) (z := 0) dX11_haveArguments_57 rfl (Or.inl rfl) (Nat.le_of_ble_eq_true rfl) (Nat.le_of_ble_eq_true rfl) ⟨Nat.le_refl _, Nat.le_add_right _ _⟩ ⟨_, rfl, (by decide), ⟨rfl, by omega, by omega⟩⟩
    · rw [show (if 0 ≤ a ∧ a < J 6 12 then 1 else 0 : Int) = 0 from if_neg hw_20]
      refine tz_if_eqT (pc := 20) (tgt := 56) (by decide) dX11_haveArguments_20 (by decide) (by decide) ?_
      refine tz_iconst (pc := 56) dX11_haveArguments_56 ?_
      exact tz_zret (pc := 57) (z := 0) dX11_haveArguments_57 rfl (Or.inl rfl) (Nat.le_of_ble_eq_true rfl) (Nat.le_of_ble_eq_true rfl) ⟨Nat.le_refl _, Nat.le_add_right _ _⟩ ⟨_, rfl, (by decide), ⟨rfl, by omega, by omega⟩⟩

set_option maxHeartbeats 4000000 in
set_option maxRecDepth 100000 in
theorem t_make {l : Launch} {G : tb_G} (hl : l.stackTraces = false) (n : Nat) (J : zJ) (s : Int) (a : Int) (b : Int) (c : Int) (hr_s : -2147483648 ≤ s ∧ s < 2147483648) (hr_a : -2147483648 ≤ a ∧ a < 2147483648) (hr_b : -2147483648 ≤ b ∧ b < 2147483648) (hr_c : -2147483648 ≤ c ∧ c < 2147483648) (m : Int) (hI : CI J m) (h9 : J 145 10 < 1000000000) : tz_Ok l G M_X11_make 6 0 0 [.ref 0, zi s, zi a, zi b, zi c] n J (zqi (fun z J' => CQ J' J)) zN := by
  refine tz_Ok.of hl (by decide +kernel) rfl (tb_c1 rfl) (Nat.le_of_ble_eq_true rfl) ?_
  show tz_At l G M_X11_make (tb_rm 6 0 0) none (tb_ZM G 0 0 (zQ n 0 (zqi (fun z J' => CQ J' J))) (zX n 0 zN)) 0 0 n J 0 [some (.ref 0), some (zi s), some (zi a), some (zi b), some (zi c)] []
  have hC := hI.1.1.1
  have hm := hI.1.1.2.1
  have hL := hI.1.1.2.2
  have hb := hC.told
  refine tz_aload_n (pc := 0) dX11_make_0 rfl rfl ?_
  refine tz_fR (pc := 1) dX11_make_1 fl_X11_10 r_0_0 ?_
  refine tz_iload_n (pc := 4) dX11_make_4 rfl rfl ?_
  refine tz_cV (pc := 5) (c_syHas hl n _ _ (by omega)) vl_X11_193 dX11_make_5 o_1 rfl rfl (Nat.le_of_ble_eq_true rfl) ⟨(Nat.le_of_ble_eq_true rfl), (Nat.le_of_ble_eq_true rfl)⟩ rfl rfl (Nat.le_of_ble_eq_true rfl) (Nat.le_of_ble_eq_true rfl) (fun r9 J_5 hq9 => ?_)
  obtain ⟨z_5, rfl, hz_5, rfl, rfl⟩ := hq9
  by_cases hw_8 : 0 ≤ s ∧ s < J 1 3
  · rw [show (if 0 ≤ s ∧ s < J 1 3 then 1 else 0 : Int) = 1 from if_pos hw_8]
    refine tz_if_eqF (pc := 8) (tgt := 31) (by decide) dX11_make_8 (by decide) (by decide) ?_
    refine tz_aload_n (pc := 11) dX11_make_11 rfl rfl ?_
    refine tz_aload_n (pc := 12) dX11_make_12 rfl rfl ?_
    refine tz_fR (pc := 13) dX11_make_13 fl_X11_10 r_0_0 ?_
    refine tz_fR (pc := 16) dX11_make_16 fl_X11_202 r_1_1 ?_
    refine tz_iload_n (pc := 19) dX11_make_19 rfl rfl ?_
    refine tz_aL (pc := 20) (z := s) (v := (J 3 s)) dX11_make_20 a_3 rfl (by omega) rfl (fun r_20 => ?_)
    refine tz_iload_n (pc := 21) dX11_make_21 rfl rfl ?_
    refine tz_iload_n (pc := 22) dX11_make_22 rfl rfl ?_
    refine tz_iload (pc := 23) dX11_make_23 rfl ?_
    refine tz_cV (pc := 25) (c_haveArgs hl n _ _ _ _ _ (by omega) (by omega) (by omega) (by omega)) vl_X11_296 dX11_make_25 o_0 rfl rfl (Nat.le_of_ble_eq_true rfl) ⟨(Nat.le_of_ble_eq_true rfl), (Nat.le_of_ble_eq_true rfl)⟩ rfl rfl (Nat.le_of_ble_eq_true rfl) (Nat.le_of_ble_eq_true rfl) (fun r9 J_25 hq9 => ?_)
    obtain ⟨zh, rfl, hz_25, rfl, ha0, ha1⟩ := hq9
    refine tz_if_ne (pc := 28) (tgt := 38) dX11_make_28 (by decide) (by omega) (fun h_28 => ?_) (fun h_28 => ?_)
    · refine tz_aload_n (pc := 38) dX11_make_38 rfl rfl ?_
      refine tz_fR (pc := 39) dX11_make_39 fl_X11_29 r_0_1 ?_
      refine tz_cV (pc := 42) (c_begin hl n _) vl_X11_287 dX11_make_42 o_5 rfl rfl (Nat.le_of_ble_eq_true rfl) ⟨(Nat.le_of_ble_eq_true rfl), (Nat.le_of_ble_eq_true rfl)⟩ rfl rfl (Nat.le_of_ble_eq_true rfl) (Nat.le_of_ble_eq_true rfl) (fun r9 Jb hq9 => ?_)
      obtain ⟨rfl, hj⟩ := hq9
      have hb9 : zOf (zbut [19, 61]) Jb J := by rw [← hj]; exact zOf.cp rfl (zOf.up rfl zOf.rf)
      have hb19 : ∀ k, ¬ k = 0 → Jb 19 k = J 19 k := fun k hk => by rw [← hj, zcp_nc (by decide), zup_ne hk]
      have a0 : AC Jb m m := by rw [← hj]; exact hI.begin
      have hb6 := a0.1.1.2.1
      refine tz_aload_n (pc := 45) dX11_make_45 rfl rfl ?_
      refine tz_aload_n (pc := 46) dX11_make_46 rfl rfl ?_
      refine tz_fR (pc := 47) dX11_make_47 fl_X11_29 r_0_1 ?_
      refine tz_fR (pc := 50) dX11_make_50 fl_X11_49 r_5_0 ?_
      refine tz_iload_n (pc := 53) dX11_make_53 rfl rfl ?_
      refine tz_iload_n (pc := 54) dX11_make_54 rfl rfl ?_
      refine tz_iload_n (pc := 55) dX11_make_55 rfl rfl ?_
      refine tz_iload (pc := 56) dX11_make_56 rfl ?_
      have e1 := hb9 1 rfl
      have e3 : arh (Jb 3) s = J 3 s := by rw [hb9 3 rfl]; unfold arh; rw [if_neg (by omega)]
      have ha2 := ha1 (by omega)
      refine tz_cV (pc := 58) (c_made hl n _ _ _ _ _ (by omega) (by omega) (by omega) (by omega) m a0.1.1.1 a0.1.1.2.1 (by rw [e1]; omega) (by rw [e3]; exact ⟨by omega, by omega, by omega⟩)) vl_X11_300 dX11_make_58 o_6 rfl rfl (Nat.le_of_ble_eq_true rfl) ⟨(Nat.le_of_ble_eq_true rfl), (Nat.le_of_ble_eq_true rfl)⟩ rfl rfl (Nat.le_of_ble_eq_true rfl) (Nat.le_of_ble_eq_true rfl) (fun r9 J_58 hq9 => ?_)
      obtain ⟨z_58, rfl, hz_58, p1⟩ := hq9
      obtain ⟨m1, g1, h1⟩ := GR.made p1 (by omega)
      have a1 := a0.gx0 (g1.x (X := [])) rfl
      refine tz_cV (pc := 61) (c_settled hl n _ _ (by omega) m m1 a1) vl_X11_293 dX11_make_61 o_0 rfl rfl (Nat.le_of_ble_eq_true rfl) ⟨(Nat.le_of_ble_eq_true rfl), (Nat.le_of_ble_eq_true rfl)⟩ rfl rfl (Nat.le_of_ble_eq_true rfl) (Nat.le_of_ble_eq_true rfl) (fun r9 J_61 hq9 => ?_)
      obtain ⟨z_61, rfl, hz_61, s9⟩ := hq9
      exact tz_iret (pc := 64) (z := z_61) dX11_make_64 rfl (Nat.le_of_ble_eq_true rfl) (Nat.le_of_ble_eq_true rfl) ⟨Nat.le_refl _, Nat.le_add_right _ _⟩ ⟨_, rfl, (by omega), (s9.cq (by rw [g1.2.2.2.2 145 rfl, hb9 145 rfl]; omega) ((g1.2.2.2.2 0 rfl).trans (hb9 0 rfl)) ((g1.2.2.2.2.mono (fun c hc => by have := of_decide_eq_true hc; simp [zbut]; omega)).tr (hb9.mono (fun c hc => by have := of_decide_eq_true hc; simp [zbut]; omega))))⟩
    · refine tz_aload_n (pc := 31) dX11_make_31 rfl rfl ?_
      refine tz_iconst (pc := 32) dX11_make_32 ?_
      refine tz_iconst (pc := 33) dX11_make_33 ?_
      refine tz_cV (pc := 34) (c_refused hl n _ _ _ (by decide) (by omega) (by decide)) vl_X11_284 dX11_make_34 o_0 rfl rfl (Nat.le_of_ble_eq_true rfl) ⟨(Nat.le_of_ble_eq_true rfl), (Nat.le_of_ble_eq_true rfl)⟩ rfl rfl (Nat.le_of_ble_eq_true rfl) (Nat.le_of_ble_eq_true rfl) (fun r9 J_34 hq9 => ?_)
      obtain ⟨z_34, rfl, hz_34, f9, -⟩ := hq9
      exact tz_iret (pc := 37) (z := z_34) dX11_make_37 rfl (Nat.le_of_ble_eq_true rfl) (Nat.le_of_ble_eq_true rfl) ⟨Nat.le_refl _, Nat.le_add_right _ _⟩ ⟨_, rfl, (by omega), (SQ.cq ⟨⟨m, hI.st f9⟩, f9 145 rfl, f9 0 rfl, (f9.mono (fun c hc => by have := of_decide_eq_true hc; simp [zbut]; omega))⟩ (by omega) rfl zOf.rf)⟩
  · rw [show (if 0 ≤ s ∧ s < J 1 3 then 1 else 0 : Int) = 0 from if_neg hw_8]
    refine tz_if_eqT (pc := 8) (tgt := 31) (by decide) dX11_make_8 (by decide) (by decide) ?_
    refine tz_aload_n (pc := 31) dX11_make_31 rfl rfl ?_
    refine tz_iconst (pc := 32) dX11_make_32 ?_
    refine tz_iconst (pc := 33) dX11_make_33 ?_
    refine tz_cV (pc := 34) (c_refused hl n _ _ _ (by decide) (by omega) (by decide)) vl_X11_284 dX11_make_34 o_0 rfl rfl (Nat.le_of_ble_eq_true rfl) ⟨(Nat.le_of_ble_eq_true rfl), (Nat.le_of_ble_eq_true rfl)⟩ rfl rfl (Nat.le_of_ble_eq_true rfl) (Nat.le_of_ble_eq_true rfl) (fun r9 J_34 hq9 => ?_)
    obtain ⟨z_34, rfl, hz_34, f9, -⟩ := hq9
    exact tz_iret (pc := 37) (z := z_34) dX11_make_37 rfl (Nat.le_of_ble_eq_true rfl) (Nat.le_of_ble_eq_true rfl) ⟨Nat.le_refl _, Nat.le_add_right _ _⟩ ⟨_, rfl, (by omega), (SQ.cq ⟨⟨m, hI.st f9⟩, f9 145 rfl, f9 0 rfl, (f9.mono (fun c hc => by have := of_decide_eq_true hc; simp [zbut]; omega))⟩ (by omega) rfl zOf.rf)⟩

set_option maxHeartbeats 4000000 in
set_option maxRecDepth 100000 in
theorem t_apply {l : Launch} {G : tb_G} (hl : l.stackTraces = false) (n : Nat) (J : zJ) (t : Int) (hr_t : -2147483648 ≤ t ∧ t < 2147483648) (m : Int) (hI : CI J m) (h9 : J 145 10 < 1000000000) : tz_Ok l G M_X11_apply 10 0 0 [.ref 0, zi t] n J (zqi (fun z J' => CQ J' J)) zN := by
  refine tz_Ok.of hl (by decide +kernel) rfl (tb_c1 rfl) (Nat.le_of_ble_eq_true rfl) ?_
  show tz_At l G M_X11_apply (tb_rm 10 0 0) none (tb_ZM G 0 0 (zQ n 0 (zqi (fun z J' => CQ J' J))) (zX n 0 zN)) 0 0 n J 0 [some (.ref 0), some (zi t)] []
  have hC := hI.1.1.1
  have hm := hI.1.1.2.1
  have hL := hI.1.1.2.2
  have hb := hC.told
  refine tz_aload_n (pc := 0) dX11_apply_0 rfl rfl ?_
  refine tz_fR (pc := 1) dX11_apply_1 fl_X11_29 r_0_1 ?_
  refine tz_fR (pc := 4) dX11_apply_4 fl_X11_49 r_5_0 ?_
  refine tz_iload_n (pc := 7) dX11_apply_7 rfl rfl ?_
  refine tz_cV (pc := 8) (c_has hl n _ _ (by omega)) vl_X11_304 dX11_apply_8 o_6 rfl rfl (Nat.le_of_ble_eq_true rfl) ⟨(Nat.le_of_ble_eq_true rfl), (Nat.le_of_ble_eq_true rfl)⟩ rfl rfl (Nat.le_of_ble_eq_true rfl) (Nat.le_of_ble_eq_true rfl) (fun r9 J_8 hq9 => ?_)
  obtain ⟨z_8, rfl, hz_8, rfl, rfl⟩ := hq9
  by_cases hw_11 : 0 ≤ t ∧ t < J 6 12
  · rw [show (if 0 ≤ t ∧ t < J 6 12 then 1 else 0 : Int) = 1 from if_pos hw_11]
    refine tz_if_neT (pc := 11) (tgt := 21) (by decide) dX11_apply_11 (by decide) (by decide) ?_
    refine tz_aload_n (pc := 21) dX11_apply_21 rfl rfl ?_
    refine tz_fR (pc := 22) dX11_apply_22 fl_X11_29 r_0_1 ?_
    refine tz_cV (pc := 25) (c_begin hl n _) vl_X11_287 dX11_apply_25 o_5 rfl rfl (Nat.le_of_ble_eq_true rfl) ⟨(Nat.le_of_ble_eq_true rfl), (Nat.le_of_ble_eq_true rfl)⟩ rfl rfl (Nat.le_of_ble_eq_true rfl) (Nat.le_of_ble_eq_true rfl) (fun r9 Jb hq9 => ?_)
    obtain ⟨rfl, hj⟩ := hq9
    have hb9 : zOf (zbut [19, 61]) Jb J := by rw [← hj]; exact zOf.cp rfl (zOf.up rfl zOf.rf)
    have hb19 : ∀ k, ¬ k = 0 → Jb 19 k = J 19 k := fun k hk => by rw [← hj, zcp_nc (by decide), zup_ne hk]
    have a0 : AC Jb m m := by rw [← hj]; exact hI.begin
    have hb6 := a0.1.1.2.1
    refine tz_aload_n (pc := 28) dX11_apply_28 rfl rfl ?_
    refine tz_aload_n (pc := 29) dX11_apply_29 rfl rfl ?_
    refine tz_fR (pc := 30) dX11_apply_30 fl_X11_62 r_0_7 ?_
    refine tz_iload_n (pc := 33) dX11_apply_33 rfl rfl ?_
    refine tz_aload_n (pc := 34) dX11_apply_34 rfl rfl ?_
    refine tz_fR (pc := 35) dX11_apply_35 fl_X11_29 r_0_1 ?_
    refine tz_fR (pc := 38) dX11_apply_38 fl_X11_156 r_5_1 ?_
    refine tz_fR (pc := 41) dX11_apply_41 fl_X11_167 r_18_0 ?_
    refine tz_bipush (pc := 44) dX11_apply_44 (by decide) ?_
    refine tz_cV (pc := 46) (c_applied19 hl n _ _ (by omega) m a0.1.1.1 a0.1.1.2.1 (by omega) a0.1.1.2.2.2.1) vl_X11_308 dX11_apply_46 o_141 rfl rfl (Nat.le_of_ble_eq_true rfl) ⟨(Nat.le_of_ble_eq_true rfl), (Nat.le_of_ble_eq_true rfl)⟩ rfl rfl (Nat.le_of_ble_eq_true rfl) (Nat.le_of_ble_eq_true rfl) (fun r9 J_46 hq9 => ?_)
    obtain ⟨z_46, rfl, hz_46, m1, g1, h1⟩ := hq9
    have a1 := a0.gx0 (g1.x (X := [])) rfl
    refine tz_cV (pc := 49) (c_settled hl n _ _ (by omega) m m1 a1) vl_X11_293 dX11_apply_49 o_0 rfl rfl (Nat.le_of_ble_eq_true rfl) ⟨(Nat.le_of_ble_eq_true rfl), (Nat.le_of_ble_eq_true rfl)⟩ rfl rfl (Nat.le_of_ble_eq_true rfl) (Nat.le_of_ble_eq_true rfl) (fun r9 J_49 hq9 => ?_)
    obtain ⟨z_49, rfl, hz_49, s9⟩ := hq9
    exact tz_iret (pc := 52) (z := z_49) dX11_apply_52 rfl (Nat.le_of_ble_eq_true rfl) (Nat.le_of_ble_eq_true rfl) ⟨Nat.le_refl _, Nat.le_add_right _ _⟩ ⟨_, rfl, (by omega), (s9.cq (by rw [g1.2.2.2.2 145 rfl, hb9 145 rfl]; omega) ((g1.2.2.2.2 0 rfl).trans (hb9 0 rfl)) ((g1.2.2.2.2.mono (fun c hc => by have := of_decide_eq_true hc; simp [zbut]; omega)).tr (hb9.mono (fun c hc => by have := of_decide_eq_true hc; simp [zbut]; omega))))⟩
  · rw [show (if 0 ≤ t ∧ t < J 6 12 then 1 else 0 : Int) = 0 from if_neg hw_11]
    refine tz_if_neF (pc := 11) (tgt := 21) (by decide) dX11_apply_11 (by decide) (by decide) ?_
    refine tz_aload_n (pc := 14) dX11_apply_14 rfl rfl ?_
    refine tz_iconst (pc := 15) dX11_apply_15 ?_
    refine tz_iconst (pc := 16) dX11_apply_16 ?_
    refine tz_cV (pc := 17) (c_refused hl n _ _ _ (by decide) (by omega) (by decide)) vl_X11_284 dX11_apply_17 o_0 rfl rfl (Nat.le_of_ble_eq_true rfl) ⟨(Nat.le_of_ble_eq_true rfl), (Nat.le_of_ble_eq_true rfl)⟩ rfl rfl (Nat.le_of_ble_eq_true rfl) (Nat.le_of_ble_eq_true rfl) (fun r9 J_17 hq9 => ?_)
    obtain ⟨z_17, rfl, hz_17, f9, -⟩ := hq9
    exact tz_iret (pc := 20) (z := z_17) dX11_apply_20 rfl (Nat.le_of_ble_eq_true rfl) (Nat.le_of_ble_eq_true rfl) ⟨Nat.le_refl _, Nat.le_add_right _ _⟩ ⟨_, rfl, (by omega), (SQ.cq ⟨⟨m, hI.st f9⟩, f9 145 rfl, f9 0 rfl, (f9.mono (fun c hc => by have := of_decide_eq_true hc; simp [zbut]; omega))⟩ (by omega) rfl zOf.rf)⟩

set_option maxHeartbeats 4000000 in
set_option maxRecDepth 100000 in
theorem t_close {l : Launch} {G : tb_G} (hl : l.stackTraces = false) (n : Nat) (J : zJ) (t : Int) (hr_t : -2147483648 ≤ t ∧ t < 2147483648) (m : Int) (hI : CI J m) (h9 : J 145 10 < 1000000000) : tz_Ok l G M_X11_close 36 0 0 [.ref 0, zi t] n J (zqi (fun z J' => CQ J' J)) zN := by
  refine tz_Ok.of hl (by decide +kernel) rfl (tb_c1 rfl) (Nat.le_of_ble_eq_true rfl) ?_
  show tz_At l G M_X11_close (tb_rm 36 0 0) none (tb_ZM G 0 0 (zQ n 0 (zqi (fun z J' => CQ J' J))) (zX n 0 zN)) 0 0 n J 0 [some (.ref 0), some (zi t)] []
  have hC := hI.1.1.1
  have hm := hI.1.1.2.1
  have hL := hI.1.1.2.2
  have hb := hC.told
  refine tz_aload_n (pc := 0) dX11_close_0 rfl rfl ?_
  refine tz_fR (pc := 1) dX11_close_1 fl_X11_29 r_0_1 ?_
  refine tz_fR (pc := 4) dX11_close_4 fl_X11_49 r_5_0 ?_
  refine tz_iload_n (pc := 7) dX11_close_7 rfl rfl ?_
  refine tz_cV (pc := 8) (c_has hl n _ _ (by omega)) vl_X11_304 dX11_close_8 o_6 rfl rfl (Nat.le_of_ble_eq_true rfl) ⟨(Nat.le_of_ble_eq_true rfl), (Nat.le_of_ble_eq_true rfl)⟩ rfl rfl (Nat.le_of_ble_eq_true rfl) (Nat.le_of_ble_eq_true rfl) (fun r9 J_8 hq9 => ?_)
  obtain ⟨z_8, rfl, hz_8, rfl, rfl⟩ := hq9
  by_cases hw_11 : 0 ≤ t ∧ t < J 6 12
  · rw [show (if 0 ≤ t ∧ t < J 6 12 then 1 else 0 : Int) = 1 from if_pos hw_11]
    refine tz_if_neT (pc := 11) (tgt := 21) (by decide) dX11_close_11 (by decide) (by decide) ?_
    refine tz_aload_n (pc := 21) dX11_close_21 rfl rfl ?_
    refine tz_fR (pc := 22) dX11_close_22 fl_X11_62 r_0_7 ?_
    refine tz_iload_n (pc := 25) dX11_close_25 rfl rfl ?_
    refine tz_aload_n (pc := 26) dX11_close_26 rfl rfl ?_
    refine tz_fR (pc := 27) dX11_close_27 fl_X11_29 r_0_1 ?_
    refine tz_fR (pc := 30) dX11_close_30 fl_X11_156 r_5_1 ?_
    refine tz_fR (pc := 33) dX11_close_33 fl_X11_167 r_18_0 ?_
    refine tz_bipush (pc := 36) dX11_close_36 (by decide) ?_
    refine tz_cV (pc := 38) (c_hasRing hl n _ _ (by omega) m hC hL.2.1 (by omega)) vl_X11_312 dX11_close_38 o_141 rfl rfl (Nat.le_of_ble_eq_true rfl) ⟨(Nat.le_of_ble_eq_true rfl), (Nat.le_of_ble_eq_true rfl)⟩ rfl rfl (Nat.le_of_ble_eq_true rfl) (Nat.le_of_ble_eq_true rfl) (fun r9 J_38 hq9 => ?_)
    obtain ⟨z_38, rfl, hz_38, rfl, hz1⟩ := hq9
    refine tz_if_eq (pc := 41) (tgt := 52) dX11_close_41 (by decide) (by omega) (fun h_41 => ?_) (fun h_41 => ?_)
    · refine tz_aload_n (pc := 52) dX11_close_52 rfl rfl ?_
      refine tz_fR (pc := 53) dX11_close_53 fl_X11_29 r_0_1 ?_
      refine tz_cV (pc := 56) (c_begin hl n _) vl_X11_287 dX11_close_56 o_5 rfl rfl (Nat.le_of_ble_eq_true rfl) ⟨(Nat.le_of_ble_eq_true rfl), (Nat.le_of_ble_eq_true rfl)⟩ rfl rfl (Nat.le_of_ble_eq_true rfl) (Nat.le_of_ble_eq_true rfl) (fun r9 Jb hq9 => ?_)
      obtain ⟨rfl, hj⟩ := hq9
      have hb9 : zOf (zbut [19, 61]) Jb J := by rw [← hj]; exact zOf.cp rfl (zOf.up rfl zOf.rf)
      have hb19 : ∀ k, ¬ k = 0 → Jb 19 k = J 19 k := fun k hk => by rw [← hj, zcp_nc (by decide), zup_ne hk]
      have a0 : AC Jb m m := by rw [← hj]; exact hI.begin
      have hb6 := a0.1.1.2.1
      refine tz_aload_n (pc := 59) dX11_close_59 rfl rfl ?_
      refine tz_aload_n (pc := 60) dX11_close_60 rfl rfl ?_
      refine tz_fR (pc := 61) dX11_close_61 fl_X11_62 r_0_7 ?_
      refine tz_iload_n (pc := 64) dX11_close_64 rfl rfl ?_
      refine tz_aload_n (pc := 65) dX11_close_65 rfl rfl ?_
      refine tz_fR (pc := 66) dX11_close_66 fl_X11_29 r_0_1 ?_
      refine tz_fR (pc := 69) dX11_close_69 fl_X11_156 r_5_1 ?_
      refine tz_fR (pc := 72) dX11_close_72 fl_X11_167 r_18_0 ?_
      refine tz_bipush (pc := 75) dX11_close_75 (by decide) ?_
      refine tz_cV (pc := 77) (c_closed hl n _ _ (by omega) m a0.1.1.1 a0.1.1.2.1 (by omega) a0.1.1.2.2.2.1) vl_X11_316 dX11_close_77 o_141 rfl rfl (Nat.le_of_ble_eq_true rfl) ⟨(Nat.le_of_ble_eq_true rfl), (Nat.le_of_ble_eq_true rfl)⟩ rfl rfl (Nat.le_of_ble_eq_true rfl) (Nat.le_of_ble_eq_true rfl) (fun r9 J_77 hq9 => ?_)
      obtain ⟨z_77, rfl, hz_77, m1, g1, h1⟩ := hq9
      have a1 := a0.gx0 g1 rfl
      refine tz_cV (pc := 80) (c_settled hl n _ _ (by omega) m m1 a1) vl_X11_293 dX11_close_80 o_0 rfl rfl (Nat.le_of_ble_eq_true rfl) ⟨(Nat.le_of_ble_eq_true rfl), (Nat.le_of_ble_eq_true rfl)⟩ rfl rfl (Nat.le_of_ble_eq_true rfl) (Nat.le_of_ble_eq_true rfl) (fun r9 J_80 hq9 => ?_)
      obtain ⟨z_80, rfl, hz_80, s9⟩ := hq9
      exact tz_iret (pc := 83) (z := z_80) dX11_close_83 rfl (Nat.le_of_ble_eq_true rfl) (Nat.le_of_ble_eq_true rfl) ⟨Nat.le_refl _, Nat.le_add_right _ _⟩ ⟨_, rfl, (by omega), (s9.cq (by rw [g1.2.2.2.2 145 rfl, hb9 145 rfl]; omega) ((g1.2.2.2.2 0 rfl).trans (hb9 0 rfl)) ((g1.2.2.2.2.mono (fun c hc => by have := of_decide_eq_true hc; simp [zbut]; omega)).tr (hb9.mono (fun c hc => by have := of_decide_eq_true hc; simp [zbut]; omega))))⟩
    · refine tz_aload_n (pc := 44) dX11_close_44 rfl rfl ?_
      refine tz_iconst (pc := 45) dX11_close_45 ?_
      refine tz_bipush (pc := 46) dX11_close_46 (by decide) ?_
      refine tz_cV (pc := 48) (c_refused hl n _ _ _ (by decide) (by omega) (by decide)) vl_X11_284 dX11_close_48 o_0 rfl rfl (Nat.le_of_ble_eq_true rfl) ⟨(Nat.le_of_ble_eq_true rfl), (Nat.le_of_ble_eq_true rfl)⟩ rfl rfl (Nat.le_of_ble_eq_true rfl) (Nat.le_of_ble_eq_true rfl) (fun r9 J_48 hq9 => ?_)
      obtain ⟨z_48, rfl, hz_48, f9, -⟩ := hq9
      exact tz_iret (pc := 51) (z := z_48) dX11_close_51 rfl (Nat.le_of_ble_eq_true rfl) (Nat.le_of_ble_eq_true rfl) ⟨Nat.le_refl _, Nat.le_add_right _ _⟩ ⟨_, rfl, (by omega), (SQ.cq ⟨⟨m, hI.st f9⟩, f9 145 rfl, f9 0 rfl, (f9.mono (fun c hc => by have := of_decide_eq_true hc; simp [zbut]; omega))⟩ (by omega) rfl zOf.rf)⟩
  · rw [show (if 0 ≤ t ∧ t < J 6 12 then 1 else 0 : Int) = 0 from if_neg hw_11]
    refine tz_if_neF (pc := 11) (tgt := 21) (by decide) dX11_close_11 (by decide) (by decide) ?_
    refine tz_aload_n (pc := 14) dX11_close_14 rfl rfl ?_
    refine tz_iconst (pc := 15) dX11_close_15 ?_
    refine tz_iconst (pc := 16) dX11_close_16 ?_
    refine tz_cV (pc := 17) (c_refused hl n _ _ _ (by decide) (by omega) (by decide)) vl_X11_284 dX11_close_17 o_0 rfl rfl (Nat.le_of_ble_eq_true rfl) ⟨(Nat.le_of_ble_eq_true rfl), (Nat.le_of_ble_eq_true rfl)⟩ rfl rfl (Nat.le_of_ble_eq_true rfl) (Nat.le_of_ble_eq_true rfl) (fun r9 J_17 hq9 => ?_)
    obtain ⟨z_17, rfl, hz_17, f9, -⟩ := hq9
    exact tz_iret (pc := 20) (z := z_17) dX11_close_20 rfl (Nat.le_of_ble_eq_true rfl) (Nat.le_of_ble_eq_true rfl) ⟨Nat.le_refl _, Nat.le_add_right _ _⟩ ⟨_, rfl, (by omega), (SQ.cq ⟨⟨m, hI.st f9⟩, f9 145 rfl, f9 0 rfl, (f9.mono (fun c hc => by have := of_decide_eq_true hc; simp [zbut]; omega))⟩ (by omega) rfl zOf.rf)⟩

set_option maxHeartbeats 4000000 in
set_option maxRecDepth 100000 in
theorem t_put {l : Launch} {G : tb_G} (hl : l.stackTraces = false) (n : Nat) (J : zJ) (t : Int) (p : Int) (x : Int) (hr_t : -2147483648 ≤ t ∧ t < 2147483648) (hr_p : -2147483648 ≤ p ∧ p < 2147483648) (hr_x : -2147483648 ≤ x ∧ x < 2147483648) (m : Int) (hI : CI J m) (h9 : J 145 10 < 1000000000) : tz_Ok l G M_X11_put 10 0 0 [.ref 0, zi t, zi p, zi x] n J (zqi (fun z J' => CQ J' J)) zN := by
  refine tz_Ok.of hl (by decide +kernel) rfl (tb_c1 rfl) (Nat.le_of_ble_eq_true rfl) ?_
  show tz_At l G M_X11_put (tb_rm 10 0 0) none (tb_ZM G 0 0 (zQ n 0 (zqi (fun z J' => CQ J' J))) (zX n 0 zN)) 0 0 n J 0 [some (.ref 0), some (zi t), some (zi p), some (zi x), none] []
  have hC := hI.1.1.1
  have hm := hI.1.1.2.1
  have hL := hI.1.1.2.2
  have hb := hC.told
  refine tz_aload_n (pc := 0) dX11_put_0 rfl rfl ?_
  refine tz_fR (pc := 1) dX11_put_1 fl_X11_29 r_0_1 ?_
  refine tz_fR (pc := 4) dX11_put_4 fl_X11_49 r_5_0 ?_
  refine tz_astore (pc := 7) (L2 := [_, _, _, _, _]) dX11_put_7 (by decide) rfl ?_
  refine tz_aload (pc := 9) dX11_put_9 rfl ?_
  refine tz_iload_n (pc := 11) dX11_put_11 rfl rfl ?_
  refine tz_cV (pc := 12) (c_has hl n _ _ (by omega)) vl_X11_304 dX11_put_12 o_6 rfl rfl (Nat.le_of_ble_eq_true rfl) ⟨(Nat.le_of_ble_eq_true rfl), (Nat.le_of_ble_eq_true rfl)⟩ rfl rfl (Nat.le_of_ble_eq_true rfl) (Nat.le_of_ble_eq_true rfl) (fun r9 J_12 hq9 => ?_)
  obtain ⟨z_12, rfl, hz_12, rfl, rfl⟩ := hq9
  by_cases hw_15 : 0 ≤ t ∧ t < J 6 12
  · rw [show (if 0 ≤ t ∧ t < J 6 12 then 1 else 0 : Int) = 1 from if_pos hw_15]
    refine tz_if_eqF (pc := 15) (tgt := 37) (by decide) dX11_put_15 (by decide) (by decide) ?_
    refine tz_aload (pc := 18) dX11_put_18 rfl ?_
    refine tz_iload_n (pc := 20) dX11_put_20 rfl rfl ?_
    refine tz_cV (pc := 21) (c_has hl n _ _ (by omega)) vl_X11_304 dX11_put_21 o_6 rfl rfl (Nat.le_of_ble_eq_true rfl) ⟨(Nat.le_of_ble_eq_true rfl), (Nat.le_of_ble_eq_true rfl)⟩ rfl rfl (Nat.le_of_ble_eq_true rfl) (Nat.le_of_ble_eq_true rfl) (fun r9 J_21 hq9 => ?_)
    obtain ⟨z_21, rfl, hz_21, rfl, rfl⟩ := hq9
    by_cases hw_24 : 0 ≤ x ∧ x < J 6 12
    · rw [show (if 0 ≤ x ∧ x < J 6 12 then 1 else 0 : Int) = 1 from if_pos hw_24]
      refine tz_if_eqF (pc := 24) (tgt := 37) (by decide) dX11_put_24 (by decide) (by decide) ?_
      refine tz_aload (pc := 27) dX11_put_27 rfl ?_
      refine tz_iload_n (pc := 29) dX11_put_29 rfl rfl ?_
      refine tz_iload_n (pc := 30) dX11_put_30 rfl rfl ?_
      refine tz_cV (pc := 31) (c_hasPlace hl n _ _ _ (by omega) (by omega) (by omega)) vl_X11_256 dX11_put_31 o_6 rfl rfl (Nat.le_of_ble_eq_true rfl) ⟨(Nat.le_of_ble_eq_true rfl), (Nat.le_of_ble_eq_true rfl)⟩ rfl rfl (Nat.le_of_ble_eq_true rfl) (Nat.le_of_ble_eq_true rfl) (fun r9 J_31 hq9 => ?_)
      obtain ⟨z_31, rfl, hz_31, rfl, rfl⟩ := hq9
      by_cases hw_34 : 0 ≤ p ∧ p < J 10 t
      · rw [show (if 0 ≤ p ∧ p < J 10 t then 1 else 0 : Int) = 1 from if_pos hw_34]
        refine tz_if_neT (pc := 34) (tgt := 44) (by decide) dX11_put_34 (by decide) (by decide) ?_
        refine tz_aload_n (pc := 44) dX11_put_44 rfl rfl ?_
        refine tz_fR (pc := 45) dX11_put_45 fl_X11_29 r_0_1 ?_
        refine tz_cV (pc := 48) (c_begin hl n _) vl_X11_287 dX11_put_48 o_5 rfl rfl (Nat.le_of_ble_eq_true rfl) ⟨(Nat.le_of_ble_eq_true rfl), (Nat.le_of_ble_eq_true rfl)⟩ rfl rfl (Nat.le_of_ble_eq_true rfl) (Nat.le_of_ble_eq_true rfl) (fun r9 Jb hq9 => ?_)
        obtain ⟨rfl, hj⟩ := hq9
        have hb9 : zOf (zbut [19, 61]) Jb J := by rw [← hj]; exact zOf.cp rfl (zOf.up rfl zOf.rf)
        have hb19 : ∀ k, ¬ k = 0 → Jb 19 k = J 19 k := fun k hk => by rw [← hj, zcp_nc (by decide), zup_ne hk]
        have a0 : AC Jb m m := by rw [← hj]; exact hI.begin
        have hb6 := a0.1.1.2.1
        refine tz_aload_n (pc := 51) dX11_put_51 rfl rfl ?_
        refine tz_aload_n (pc := 52) dX11_put_52 rfl rfl ?_
        refine tz_fR (pc := 53) dX11_put_53 fl_X11_62 r_0_7 ?_
        refine tz_iload_n (pc := 56) dX11_put_56 rfl rfl ?_
        refine tz_iload_n (pc := 57) dX11_put_57 rfl rfl ?_
        refine tz_iload_n (pc := 58) dX11_put_58 rfl rfl ?_
        refine tz_cV (pc := 59) (c_replaced hl n _ _ _ _ (by omega) (by omega) (by omega) m a0.1.1.1 a0.1.1.2.1 (by omega) (by rw [hb9 10 rfl]; omega) (by omega)) vl_X11_350 dX11_put_59 o_141 rfl rfl (Nat.le_of_ble_eq_true rfl) ⟨(Nat.le_of_ble_eq_true rfl), (Nat.le_of_ble_eq_true rfl)⟩ rfl rfl (Nat.le_of_ble_eq_true rfl) (Nat.le_of_ble_eq_true rfl) (fun r9 J_59 hq9 => ?_)
        obtain ⟨z_59, rfl, hz_59, m1, g1, h1⟩ := hq9
        have a1 := a0.gx0 (g1.x (X := [])) rfl
        refine tz_cV (pc := 62) (c_settled hl n _ _ (by omega) m m1 a1) vl_X11_293 dX11_put_62 o_0 rfl rfl (Nat.le_of_ble_eq_true rfl) ⟨(Nat.le_of_ble_eq_true rfl), (Nat.le_of_ble_eq_true rfl)⟩ rfl rfl (Nat.le_of_ble_eq_true rfl) (Nat.le_of_ble_eq_true rfl) (fun r9 J_62 hq9 => ?_)
        obtain ⟨z_62, rfl, hz_62, s9⟩ := hq9
        exact tz_iret (pc := 65) (z := z_62) dX11_put_65 rfl (Nat.le_of_ble_eq_true rfl) (Nat.le_of_ble_eq_true rfl) ⟨Nat.le_refl _, Nat.le_add_right _ _⟩ ⟨_, rfl, (by omega), (s9.cq (by rw [g1.2.2.2.2 145 rfl, hb9 145 rfl]; omega) ((g1.2.2.2.2 0 rfl).trans (hb9 0 rfl)) ((g1.2.2.2.2.mono (fun c hc => by have := of_decide_eq_true hc; simp [zbut]; omega)).tr (hb9.mono (fun c hc => by have := of_decide_eq_true hc; simp [zbut]; omega))))⟩
      · rw [show (if 0 ≤ p ∧ p < J 10 t then 1 else 0 : Int) = 0 from if_neg hw_34]
        refine tz_if_neF (pc := 34) (tgt := 44) (by decide) dX11_put_34 (by decide) (by decide) ?_
        refine tz_aload_n (pc := 37) dX11_put_37 rfl rfl ?_
        refine tz_iconst (pc := 38) dX11_put_38 ?_
        refine tz_iconst (pc := 39) dX11_put_39 ?_
        refine tz_cV (pc := 40) (c_refused hl n _ _ _ (by decide) (by omega) (by decide)) vl_X11_284 dX11_put_40 o_0 rfl rfl (Nat.le_of_ble_eq_true rfl) ⟨(Nat.le_of_ble_eq_true rfl), (Nat.le_of_ble_eq_true rfl)⟩ rfl rfl (Nat.le_of_ble_eq_true rfl) (Nat.le_of_ble_eq_true rfl) (fun r9 J_40 hq9 => ?_)
        obtain ⟨z_40, rfl, hz_40, f9, -⟩ := hq9
        exact tz_iret (pc := 43) (z := z_40) dX11_put_43 rfl (Nat.le_of_ble_eq_true rfl) (Nat.le_of_ble_eq_true rfl) ⟨Nat.le_refl _, Nat.le_add_right _ _⟩ ⟨_, rfl, (by omega), (SQ.cq ⟨⟨m, hI.st f9⟩, f9 145 rfl, f9 0 rfl, (f9.mono (fun c hc => by have := of_decide_eq_true hc; simp [zbut]; omega))⟩ (by omega) rfl zOf.rf)⟩
    · rw [show (if 0 ≤ x ∧ x < J 6 12 then 1 else 0 : Int) = 0 from if_neg hw_24]
      refine tz_if_eqT (pc := 24) (tgt := 37) (by decide) dX11_put_24 (by decide) (by decide) ?_
      refine tz_aload_n (pc := 37) dX11_put_37 rfl rfl ?_
      refine tz_iconst (pc := 38) dX11_put_38 ?_
      refine tz_iconst (pc := 39) dX11_put_39 ?_
      refine tz_cV (pc := 40) (c_refused hl n _ _ _ (by decide) (by omega) (by decide)) vl_X11_284 dX11_put_40 o_0 rfl rfl (Nat.le_of_ble_eq_true rfl) ⟨(Nat.le_of_ble_eq_true rfl), (Nat.le_of_ble_eq_true rfl)⟩ rfl rfl (Nat.le_of_ble_eq_true rfl) (Nat.le_of_ble_eq_true rfl) (fun r9 J_40 hq9 => ?_)
      obtain ⟨z_40, rfl, hz_40, f9, -⟩ := hq9
      exact tz_iret (pc := 43) (z := z_40) dX11_put_43 rfl (Nat.le_of_ble_eq_true rfl) (Nat.le_of_ble_eq_true rfl) ⟨Nat.le_refl _, Nat.le_add_right _ _⟩ ⟨_, rfl, (by omega), (SQ.cq ⟨⟨m, hI.st f9⟩, f9 145 rfl, f9 0 rfl, (f9.mono (fun c hc => by have := of_decide_eq_true hc; simp [zbut]; omega))⟩ (by omega) rfl zOf.rf)⟩
  · rw [show (if 0 ≤ t ∧ t < J 6 12 then 1 else 0 : Int) = 0 from if_neg hw_15]
    refine tz_if_eqT (pc := 15) (tgt := 37) (by decide) dX11_put_15 (by decide) (by decide) ?_
    refine tz_aload_n (pc := 37) dX11_put_37 rfl rfl ?_
    refine tz_iconst (pc := 38) dX11_put_38 ?_
    refine tz_iconst (pc := 39) dX11_put_39 ?_
    refine tz_cV (pc := 40) (c_refused hl n _ _ _ (by decide) (by omega) (by decide)) vl_X11_284 dX11_put_40 o_0 rfl rfl (Nat.le_of_ble_eq_true rfl) ⟨(Nat.le_of_ble_eq_true rfl), (Nat.le_of_ble_eq_true rfl)⟩ rfl rfl (Nat.le_of_ble_eq_true rfl) (Nat.le_of_ble_eq_true rfl) (fun r9 J_40 hq9 => ?_)
    obtain ⟨z_40, rfl, hz_40, f9, -⟩ := hq9
    exact tz_iret (pc := 43) (z := z_40) dX11_put_43 rfl (Nat.le_of_ble_eq_true rfl) (Nat.le_of_ble_eq_true rfl) ⟨Nat.le_refl _, Nat.le_add_right _ _⟩ ⟨_, rfl, (by omega), (SQ.cq ⟨⟨m, hI.st f9⟩, f9 145 rfl, f9 0 rfl, (f9.mono (fun c hc => by have := of_decide_eq_true hc; simp [zbut]; omega))⟩ (by omega) rfl zOf.rf)⟩

set_option maxHeartbeats 4000000 in
set_option maxRecDepth 100000 in
theorem t_common {l : Launch} {G : tb_G} (hl : l.stackTraces = false) (n : Nat) (J : zJ) (s : Int) (t : Int) (hr_s : -2147483648 ≤ s ∧ s < 2147483648) (hr_t : -2147483648 ≤ t ∧ t < 2147483648) (m : Int) (hI : CI J m) (h9 : J 145 10 < 1000000000) : tz_Ok l G M_X11_common 13 0 0 [.ref 0, zi s, zi t] n J (zqi (fun z J' => CQ J' J)) zN := by
  refine tz_Ok.of hl (by decide +kernel) rfl (tb_c1 rfl) (Nat.le_of_ble_eq_true rfl) ?_
  show tz_At l G M_X11_common (tb_rm 13 0 0) none (tb_ZM G 0 0 (zQ n 0 (zqi (fun z J' => CQ J' J))) (zX n 0 zN)) 0 0 n J 0 [some (.ref 0), some (zi s), some (zi t)] []
  have hC := hI.1.1.1
  have hm := hI.1.1.2.1
  have hL := hI.1.1.2.2
  have hb := hC.told
  refine tz_aload_n (pc := 0) dX11_common_0 rfl rfl ?_
  refine tz_fR (pc := 1) dX11_common_1 fl_X11_29 r_0_1 ?_
  refine tz_fR (pc := 4) dX11_common_4 fl_X11_49 r_5_0 ?_
  refine tz_iload_n (pc := 7) dX11_common_7 rfl rfl ?_
  refine tz_cV (pc := 8) (c_has hl n _ _ (by omega)) vl_X11_304 dX11_common_8 o_6 rfl rfl (Nat.le_of_ble_eq_true rfl) ⟨(Nat.le_of_ble_eq_true rfl), (Nat.le_of_ble_eq_true rfl)⟩ rfl rfl (Nat.le_of_ble_eq_true rfl) (Nat.le_of_ble_eq_true rfl) (fun r9 J_8 hq9 => ?_)
  obtain ⟨z_8, rfl, hz_8, rfl, rfl⟩ := hq9
  by_cases hw_11 : 0 ≤ s ∧ s < J 6 12
  · rw [show (if 0 ≤ s ∧ s < J 6 12 then 1 else 0 : Int) = 1 from if_pos hw_11]
    refine tz_if_eqF (pc := 11) (tgt := 28) (by decide) dX11_common_11 (by decide) (by decide) ?_
    refine tz_aload_n (pc := 14) dX11_common_14 rfl rfl ?_
    refine tz_fR (pc := 15) dX11_common_15 fl_X11_29 r_0_1 ?_
    refine tz_fR (pc := 18) dX11_common_18 fl_X11_49 r_5_0 ?_
    refine tz_iload_n (pc := 21) dX11_common_21 rfl rfl ?_
    refine tz_cV (pc := 22) (c_has hl n _ _ (by omega)) vl_X11_304 dX11_common_22 o_6 rfl rfl (Nat.le_of_ble_eq_true rfl) ⟨(Nat.le_of_ble_eq_true rfl), (Nat.le_of_ble_eq_true rfl)⟩ rfl rfl (Nat.le_of_ble_eq_true rfl) (Nat.le_of_ble_eq_true rfl) (fun r9 J_22 hq9 => ?_)
    obtain ⟨z_22, rfl, hz_22, rfl, rfl⟩ := hq9
    by_cases hw_25 : 0 ≤ t ∧ t < J 6 12
    · rw [show (if 0 ≤ t ∧ t < J 6 12 then 1 else 0 : Int) = 1 from if_pos hw_25]
      refine tz_if_neT (pc := 25) (tgt := 35) (by decide) dX11_common_25 (by decide) (by decide) ?_
      refine tz_aload_n (pc := 35) dX11_common_35 rfl rfl ?_
      refine tz_fR (pc := 36) dX11_common_36 fl_X11_62 r_0_7 ?_
      refine tz_iload_n (pc := 39) dX11_common_39 rfl rfl ?_
      refine tz_iload_n (pc := 40) dX11_common_40 rfl rfl ?_
      refine tz_cV (pc := 41) (c_haveCommon hl n _ _ _ (by omega) (by omega) m hC (by omega) (by omega)) vl_X11_338 dX11_common_41 o_141 rfl rfl (Nat.le_of_ble_eq_true rfl) ⟨(Nat.le_of_ble_eq_true rfl), (Nat.le_of_ble_eq_true rfl)⟩ rfl rfl (Nat.le_of_ble_eq_true rfl) (Nat.le_of_ble_eq_true rfl) (fun r9 J1 hq9 => ?_)
      obtain ⟨zc, rfl, hz_41, q1, q2, q3, q4⟩ := hq9
      have hw1 := hI.work q1 rfl
      have hI1 := hw1.1
      refine tz_if_ne (pc := 44) (tgt := 55) dX11_common_44 (by decide) (by omega) (fun h_44 => ?_) (fun h_44 => ?_)
      · refine tz_aload_n (pc := 55) dX11_common_55 rfl rfl ?_
        refine tz_fR (pc := 56) dX11_common_56 fl_X11_29 r_0_1 ?_
        refine tz_cV (pc := 59) (c_begin hl n _) vl_X11_287 dX11_common_59 o_5 rfl rfl (Nat.le_of_ble_eq_true rfl) ⟨(Nat.le_of_ble_eq_true rfl), (Nat.le_of_ble_eq_true rfl)⟩ rfl rfl (Nat.le_of_ble_eq_true rfl) (Nat.le_of_ble_eq_true rfl) (fun r9 Jb hq9 => ?_)
        obtain ⟨rfl, hj⟩ := hq9
        have hb9 : zOf (zbut [19, 61]) Jb J1 := by rw [← hj]; exact zOf.cp rfl (zOf.up rfl zOf.rf)
        have hb19 : ∀ k, ¬ k = 0 → Jb 19 k = J1 19 k := fun k hk => by rw [← hj, zcp_nc (by decide), zup_ne hk]
        have a0 : AC Jb m m := by rw [← hj]; exact hI1.begin
        have hb6 := a0.1.1.2.1
        refine tz_aload_n (pc := 62) dX11_common_62 rfl rfl ?_
        refine tz_aload_n (pc := 63) dX11_common_63 rfl rfl ?_
        refine tz_fR (pc := 64) dX11_common_64 fl_X11_62 r_0_7 ?_
        refine tz_iload_n (pc := 67) dX11_common_67 rfl rfl ?_
        refine tz_iload_n (pc := 68) dX11_common_68 rfl rfl ?_
        have e141 := hb9 141 rfl
        have cc : cpl Jb 6 s t := cpl.mono hI1.1.1.1 (fun t _ _ => ⟨congrFun (hb9 7 rfl) t, congrFun (hb9 8 rfl) t⟩) (fun k _ _ => congrFun (hb9 9 rfl) k) (fun s t q => by obtain ⟨i, a, b⟩ := q; exact ⟨i, by rw [hb9 141 rfl]; exact a, by rw [hb9 143 rfl, hb9 144 rfl]; exact b⟩) 6 s t (by omega) (by omega) (q4 (by omega))
        refine tz_cV (pc := 69) (c_commonOf hl n _ _ _ (by omega) (by omega) m a0.1.1.1 a0.1.1.2.1 (by omega) (by omega) (by rw [e141]; exact q2) cc) vl_X11_341 dX11_common_69 o_141 rfl rfl (Nat.le_of_ble_eq_true rfl) ⟨(Nat.le_of_ble_eq_true rfl), (Nat.le_of_ble_eq_true rfl)⟩ rfl rfl (Nat.le_of_ble_eq_true rfl) (Nat.le_of_ble_eq_true rfl) (fun r9 J_69 hq9 => ?_)
        obtain ⟨z_69, rfl, hz_69, m1, g1, h1⟩ := hq9
        have a1 := a0.gx0 g1 rfl
        refine tz_cV (pc := 72) (c_settled hl n _ _ (by omega) m m1 a1) vl_X11_293 dX11_common_72 o_0 rfl rfl (Nat.le_of_ble_eq_true rfl) ⟨(Nat.le_of_ble_eq_true rfl), (Nat.le_of_ble_eq_true rfl)⟩ rfl rfl (Nat.le_of_ble_eq_true rfl) (Nat.le_of_ble_eq_true rfl) (fun r9 J_72 hq9 => ?_)
        obtain ⟨z_72, rfl, hz_72, s9⟩ := hq9
        exact tz_iret (pc := 75) (z := z_72) dX11_common_75 rfl (Nat.le_of_ble_eq_true rfl) (Nat.le_of_ble_eq_true rfl) ⟨Nat.le_refl _, Nat.le_add_right _ _⟩ ⟨_, rfl, (by omega), (SQ.cq ⟨s9.1, s9.2.1.trans ((g1.2.2.2.2 145 rfl).trans (hb9 145 rfl)), s9.2.2.1.trans ((g1.2.2.2.2 0 rfl).trans (hb9 0 rfl)), s9.2.2.2.tr ((g1.2.2.2.2.mono (fun c hc => by have := of_decide_eq_true hc; simp [zbut]; omega)).tr (hb9.mono (fun c hc => by have := of_decide_eq_true hc; simp [zbut]; omega)))⟩ (by rw [hw1.2.1]; omega) hw1.2.2.1 hw1.2.2.2)⟩
      · refine tz_aload_n (pc := 47) dX11_common_47 rfl rfl ?_
        refine tz_iconst (pc := 48) dX11_common_48 ?_
        refine tz_bipush (pc := 49) dX11_common_49 (by decide) ?_
        refine tz_cV (pc := 51) (c_refused hl n _ _ _ (by decide) (by omega) (by decide)) vl_X11_284 dX11_common_51 o_0 rfl rfl (Nat.le_of_ble_eq_true rfl) ⟨(Nat.le_of_ble_eq_true rfl), (Nat.le_of_ble_eq_true rfl)⟩ rfl rfl (Nat.le_of_ble_eq_true rfl) (Nat.le_of_ble_eq_true rfl) (fun r9 J_51 hq9 => ?_)
        obtain ⟨z_51, rfl, hz_51, f9, -⟩ := hq9
        exact tz_iret (pc := 54) (z := z_51) dX11_common_54 rfl (Nat.le_of_ble_eq_true rfl) (Nat.le_of_ble_eq_true rfl) ⟨Nat.le_refl _, Nat.le_add_right _ _⟩ ⟨_, rfl, (by omega), (SQ.cq ⟨⟨m, hI1.st f9⟩, f9 145 rfl, f9 0 rfl, (f9.mono (fun c hc => by have := of_decide_eq_true hc; simp [zbut]; omega))⟩ (by rw [hw1.2.1]; omega) hw1.2.2.1 hw1.2.2.2)⟩
    · rw [show (if 0 ≤ t ∧ t < J 6 12 then 1 else 0 : Int) = 0 from if_neg hw_25]
      refine tz_if_neF (pc := 25) (tgt := 35) (by decide) dX11_common_25 (by decide) (by decide) ?_
      refine tz_aload_n (pc := 28) dX11_common_28 rfl rfl ?_
      refine tz_iconst (pc := 29) dX11_common_29 ?_
      refine tz_iconst (pc := 30) dX11_common_30 ?_
      refine tz_cV (pc := 31) (c_refused hl n _ _ _ (by decide) (by omega) (by decide)) vl_X11_284 dX11_common_31 o_0 rfl rfl (Nat.le_of_ble_eq_true rfl) ⟨(Nat.le_of_ble_eq_true rfl), (Nat.le_of_ble_eq_true rfl)⟩ rfl rfl (Nat.le_of_ble_eq_true rfl) (Nat.le_of_ble_eq_true rfl) (fun r9 J_31 hq9 => ?_)
      obtain ⟨z_31, rfl, hz_31, f9, -⟩ := hq9
      exact tz_iret (pc := 34) (z := z_31) dX11_common_34 rfl (Nat.le_of_ble_eq_true rfl) (Nat.le_of_ble_eq_true rfl) ⟨Nat.le_refl _, Nat.le_add_right _ _⟩ ⟨_, rfl, (by omega), (SQ.cq ⟨⟨m, hI.st f9⟩, f9 145 rfl, f9 0 rfl, (f9.mono (fun c hc => by have := of_decide_eq_true hc; simp [zbut]; omega))⟩ (by omega) rfl zOf.rf)⟩
  · rw [show (if 0 ≤ s ∧ s < J 6 12 then 1 else 0 : Int) = 0 from if_neg hw_11]
    refine tz_if_eqT (pc := 11) (tgt := 28) (by decide) dX11_common_11 (by decide) (by decide) ?_
    refine tz_aload_n (pc := 28) dX11_common_28 rfl rfl ?_
    refine tz_iconst (pc := 29) dX11_common_29 ?_
    refine tz_iconst (pc := 30) dX11_common_30 ?_
    refine tz_cV (pc := 31) (c_refused hl n _ _ _ (by decide) (by omega) (by decide)) vl_X11_284 dX11_common_31 o_0 rfl rfl (Nat.le_of_ble_eq_true rfl) ⟨(Nat.le_of_ble_eq_true rfl), (Nat.le_of_ble_eq_true rfl)⟩ rfl rfl (Nat.le_of_ble_eq_true rfl) (Nat.le_of_ble_eq_true rfl) (fun r9 J_31 hq9 => ?_)
    obtain ⟨z_31, rfl, hz_31, f9, -⟩ := hq9
    exact tz_iret (pc := 34) (z := z_31) dX11_common_34 rfl (Nat.le_of_ble_eq_true rfl) (Nat.le_of_ble_eq_true rfl) ⟨Nat.le_refl _, Nat.le_add_right _ _⟩ ⟨_, rfl, (by omega), (SQ.cq ⟨⟨m, hI.st f9⟩, f9 145 rfl, f9 0 rfl, (f9.mono (fun c hc => by have := of_decide_eq_true hc; simp [zbut]; omega))⟩ (by omega) rfl zOf.rf)⟩

set_option maxHeartbeats 4000000 in
set_option maxRecDepth 100000 in
theorem t_unify {l : Launch} {G : tb_G} (hl : l.stackTraces = false) (n : Nat) (J : zJ) (s : Int) (t : Int) (hr_s : -2147483648 ≤ s ∧ s < 2147483648) (hr_t : -2147483648 ≤ t ∧ t < 2147483648) (m : Int) (hI : CI J m) (h9 : J 145 10 < 1000000000) : tz_Ok l G M_X11_unify 23 0 0 [.ref 0, zi s, zi t] n J (zqi (fun z J' => CQ J' J)) zN := by
  refine tz_Ok.of hl (by decide +kernel) rfl (tb_c1 rfl) (Nat.le_of_ble_eq_true rfl) ?_
  show tz_At l G M_X11_unify (tb_rm 23 0 0) none (tb_ZM G 0 0 (zQ n 0 (zqi (fun z J' => CQ J' J))) (zX n 0 zN)) 0 0 n J 0 [some (.ref 0), some (zi s), some (zi t), none, none] []
  have hC := hI.1.1.1
  have hm := hI.1.1.2.1
  have hL := hI.1.1.2.2
  have hb := hC.told
  refine tz_aload_n (pc := 0) dX11_unify_0 rfl rfl ?_
  refine tz_fR (pc := 1) dX11_unify_1 fl_X11_29 r_0_1 ?_
  refine tz_fR (pc := 4) dX11_unify_4 fl_X11_49 r_5_0 ?_
  refine tz_iload_n (pc := 7) dX11_unify_7 rfl rfl ?_
  refine tz_cV (pc := 8) (c_has hl n _ _ (by omega)) vl_X11_304 dX11_unify_8 o_6 rfl rfl (Nat.le_of_ble_eq_true rfl) ⟨(Nat.le_of_ble_eq_true rfl), (Nat.le_of_ble_eq_true rfl)⟩ rfl rfl (Nat.le_of_ble_eq_true rfl) (Nat.le_of_ble_eq_true rfl) (fun r9 J_8 hq9 => ?_)
  obtain ⟨z_8, rfl, hz_8, rfl, rfl⟩ := hq9
  by_cases hw_11 : 0 ≤ s ∧ s < J 6 12
  · rw [show (if 0 ≤ s ∧ s < J 6 12 then 1 else 0 : Int) = 1 from if_pos hw_11]
    refine tz_if_eqF (pc := 11) (tgt := 28) (by decide) dX11_unify_11 (by decide) (by decide) ?_
    refine tz_aload_n (pc := 14) dX11_unify_14 rfl rfl ?_
    refine tz_fR (pc := 15) dX11_unify_15 fl_X11_29 r_0_1 ?_
    refine tz_fR (pc := 18) dX11_unify_18 fl_X11_49 r_5_0 ?_
    refine tz_iload_n (pc := 21) dX11_unify_21 rfl rfl ?_
    refine tz_cV (pc := 22) (c_has hl n _ _ (by omega)) vl_X11_304 dX11_unify_22 o_6 rfl rfl (Nat.le_of_ble_eq_true rfl) ⟨(Nat.le_of_ble_eq_true rfl), (Nat.le_of_ble_eq_true rfl)⟩ rfl rfl (Nat.le_of_ble_eq_true rfl) (Nat.le_of_ble_eq_true rfl) (fun r9 J_22 hq9 => ?_)
    obtain ⟨z_22, rfl, hz_22, rfl, rfl⟩ := hq9
    by_cases hw_25 : 0 ≤ t ∧ t < J 6 12
    · rw [show (if 0 ≤ t ∧ t < J 6 12 then 1 else 0 : Int) = 1 from if_pos hw_25]
      refine tz_if_neT (pc := 25) (tgt := 35) (by decide) dX11_unify_25 (by decide) (by decide) ?_
      refine tz_aload_n (pc := 35) dX11_unify_35 rfl rfl ?_
      refine tz_fR (pc := 36) dX11_unify_36 fl_X11_69 r_0_8 ?_
      refine tz_iload_n (pc := 39) dX11_unify_39 rfl rfl ?_
      refine tz_iload_n (pc := 40) dX11_unify_40 rfl rfl ?_
      refine tz_iconst (pc := 41) dX11_unify_41 ?_
      refine tz_cV (pc := 42) (c_wayOf hl n _ _ _ _ (by omega) (by omega) (by decide) m hC (by omega) (by omega) (Or.inl rfl) hI.1.2.1 (by omega)) vl_X11_319 dX11_unify_42 o_145 rfl rfl (Nat.le_of_ble_eq_true rfl) ⟨(Nat.le_of_ble_eq_true rfl), (Nat.le_of_ble_eq_true rfl)⟩ rfl rfl (Nat.le_of_ble_eq_true rfl) (Nat.le_of_ble_eq_true rfl) (fun r9 J1 hq9 => ?_)
      obtain ⟨zc, rfl, hz_42, q1, q2, q3, q4⟩ := hq9
      have hn9 := hI.1.2.1.1
      have hw1 := hI.uni q4 rfl (q2.rest (by omega))
      have hI1 := hw1.1
      refine tz_istore_n (pc := 45) (L2 := [_, _, _, _, _]) dX11_unify_45 rfl (by decide) rfl ?_
      refine tz_iload_n (pc := 46) dX11_unify_46 rfl rfl ?_
      refine tz_iconst (pc := 47) dX11_unify_47 ?_
      refine tz_icmp_eq (pc := 48) (tgt := 58) dX11_unify_48 (by decide) (by omega) (by decide) (fun h_48 => ?_) (fun h_48 => ?_)
      · refine tz_aload_n (pc := 58) dX11_unify_58 rfl rfl ?_
        refine tz_fR (pc := 59) dX11_unify_59 fl_X11_29 r_0_1 ?_
        refine tz_cV (pc := 62) (c_begin hl n _) vl_X11_287 dX11_unify_62 o_5 rfl rfl (Nat.le_of_ble_eq_true rfl) ⟨(Nat.le_of_ble_eq_true rfl), (Nat.le_of_ble_eq_true rfl)⟩ rfl rfl (Nat.le_of_ble_eq_true rfl) (Nat.le_of_ble_eq_true rfl) (fun r9 Jb hq9 => ?_)
        obtain ⟨rfl, hj⟩ := hq9
        have hb9 : zOf (zbut [19, 61]) Jb J1 := by rw [← hj]; exact zOf.cp rfl (zOf.up rfl zOf.rf)
        have hb19 : ∀ k, ¬ k = 0 → Jb 19 k = J1 19 k := fun k hk => by rw [← hj, zcp_nc (by decide), zup_ne hk]
        have a0 : AC Jb m m := by rw [← hj]; exact hI1.begin
        have hb6 := a0.1.1.2.1
        refine tz_aload_n (pc := 65) dX11_unify_65 rfl rfl ?_
        refine tz_fR (pc := 66) dX11_unify_66 fl_X11_29 r_0_1 ?_
        refine tz_fR (pc := 69) dX11_unify_69 fl_X11_49 r_5_0 ?_
        refine tz_fR (pc := 72) dX11_unify_72 fl_X11_235 r_6_7 ?_
        refine tz_iload_n (pc := 75) dX11_unify_75 rfl rfl ?_
        refine tz_aL (pc := 76) (z := s) (v := (J 13 s)) dX11_unify_76 a_13 rfl (by omega) (Eq.trans (congrFun (hb9 13 rfl) s) (Eq.trans (congrFun (q4 13 rfl) s) rfl)) (fun r_76 => ?_)
        refine tz_aload_n (pc := 77) dX11_unify_77 rfl rfl ?_
        refine tz_fR (pc := 78) dX11_unify_78 fl_X11_29 r_0_1 ?_
        refine tz_fR (pc := 81) dX11_unify_81 fl_X11_49 r_5_0 ?_
        refine tz_fR (pc := 84) dX11_unify_84 fl_X11_235 r_6_7 ?_
        refine tz_iload_n (pc := 87) dX11_unify_87 rfl rfl ?_
        refine tz_aL (pc := 88) (z := t) (v := (J 13 t)) dX11_unify_88 a_13 rfl (by omega) (Eq.trans (congrFun (hb9 13 rfl) t) (Eq.trans (congrFun (q4 13 rfl) t) rfl)) (fun r_88 => ?_)
        refine tz_ior (pc := 89) (v := zor (J 13 s) (J 13 t)) dX11_unify_89 rfl ?_
        refine tz_istore (pc := 90) (L2 := [_, _, _, _, _]) dX11_unify_90 (by decide) rfl ?_
        refine tz_aload_n (pc := 92) dX11_unify_92 rfl rfl ?_
        refine tz_aload_n (pc := 93) dX11_unify_93 rfl rfl ?_
        refine tz_fR (pc := 94) dX11_unify_94 fl_X11_69 r_0_8 ?_
        refine tz_iload (pc := 97) dX11_unify_97 rfl ?_
        refine tz_aload_n (pc := 99) dX11_unify_99 rfl rfl ?_
        refine tz_fR (pc := 100) dX11_unify_100 fl_X11_29 r_0_1 ?_
        refine tz_fR (pc := 103) dX11_unify_103 fl_X11_156 r_5_1 ?_
        refine tz_fR (pc := 106) dX11_unify_106 fl_X11_167 r_18_0 ?_
        refine tz_bipush (pc := 109) dX11_unify_109 (by decide) ?_
        refine tz_cV (pc := 111) (c_bindAll hl n _ _ (zor_rg _ _) m a0.1.1.1 a0.1.1.2.1 (q2.of (Int.le_refl _) (congrFun (hb9 145 rfl) 10) (fun c hc => hb9 c (by simp [zbut]; omega))) a0.1.1.2.2 (by rw [hb9 145 rfl]; omega)) vl_X11_323 dX11_unify_111 o_145 rfl rfl (Nat.le_of_ble_eq_true rfl) ⟨(Nat.le_of_ble_eq_true rfl), (Nat.le_of_ble_eq_true rfl)⟩ rfl rfl (Nat.le_of_ble_eq_true rfl) (Nat.le_of_ble_eq_true rfl) (fun r9 J_111 hq9 => ?_)
        obtain ⟨z_111, rfl, hz_111, m1, g1, r1, l1, h1⟩ := hq9
        have a1 := a0.gx g1 rfl l1 r1
        refine tz_cV (pc := 114) (c_settled hl n _ _ (by omega) m m1 a1) vl_X11_293 dX11_unify_114 o_0 rfl rfl (Nat.le_of_ble_eq_true rfl) ⟨(Nat.le_of_ble_eq_true rfl), (Nat.le_of_ble_eq_true rfl)⟩ rfl rfl (Nat.le_of_ble_eq_true rfl) (Nat.le_of_ble_eq_true rfl) (fun r9 J_114 hq9 => ?_)
        obtain ⟨z_114, rfl, hz_114, s9⟩ := hq9
        exact tz_iret (pc := 117) (z := z_114) dX11_unify_117 rfl (Nat.le_of_ble_eq_true rfl) (Nat.le_of_ble_eq_true rfl) ⟨Nat.le_refl _, Nat.le_add_right _ _⟩ ⟨_, rfl, (by omega), (SQ.cq ⟨s9.1, s9.2.1.trans ((g1.2.2.2.2 145 rfl).trans (hb9 145 rfl)), s9.2.2.1.trans ((g1.2.2.2.2 0 rfl).trans (hb9 0 rfl)), s9.2.2.2.tr ((g1.2.2.2.2.mono (fun c hc => by have := of_decide_eq_true hc; simp [zbut]; omega)).tr (hb9.mono (fun c hc => by have := of_decide_eq_true hc; simp [zbut]; omega)))⟩ (by omega) hw1.2.1 hw1.2.2)⟩
      · refine tz_aload_n (pc := 51) dX11_unify_51 rfl rfl ?_
        refine tz_iconst (pc := 52) dX11_unify_52 ?_
        refine tz_iload_n (pc := 53) dX11_unify_53 rfl rfl ?_
        refine tz_cV (pc := 54) (c_refused hl n _ _ _ (by decide) (by omega) (by decide)) vl_X11_284 dX11_unify_54 o_0 rfl rfl (Nat.le_of_ble_eq_true rfl) ⟨(Nat.le_of_ble_eq_true rfl), (Nat.le_of_ble_eq_true rfl)⟩ rfl rfl (Nat.le_of_ble_eq_true rfl) (Nat.le_of_ble_eq_true rfl) (fun r9 J_54 hq9 => ?_)
        obtain ⟨z_54, rfl, hz_54, f9, -⟩ := hq9
        exact tz_iret (pc := 57) (z := z_54) dX11_unify_57 rfl (Nat.le_of_ble_eq_true rfl) (Nat.le_of_ble_eq_true rfl) ⟨Nat.le_refl _, Nat.le_add_right _ _⟩ ⟨_, rfl, (by omega), (SQ.cq ⟨⟨m, hI1.st f9⟩, f9 145 rfl, f9 0 rfl, (f9.mono (fun c hc => by have := of_decide_eq_true hc; simp [zbut]; omega))⟩ (by omega) hw1.2.1 hw1.2.2)⟩
    · rw [show (if 0 ≤ t ∧ t < J 6 12 then 1 else 0 : Int) = 0 from if_neg hw_25]
      refine tz_if_neF (pc := 25) (tgt := 35) (by decide) dX11_unify_25 (by decide) (by decide) ?_
      refine tz_aload_n (pc := 28) dX11_unify_28 rfl rfl ?_
      refine tz_iconst (pc := 29) dX11_unify_29 ?_
      refine tz_iconst (pc := 30) dX11_unify_30 ?_
      refine tz_cV (pc := 31) (c_refused hl n _ _ _ (by decide) (by omega) (by decide)) vl_X11_284 dX11_unify_31 o_0 rfl rfl (Nat.le_of_ble_eq_true rfl) ⟨(Nat.le_of_ble_eq_true rfl), (Nat.le_of_ble_eq_true rfl)⟩ rfl rfl (Nat.le_of_ble_eq_true rfl) (Nat.le_of_ble_eq_true rfl) (fun r9 J_31 hq9 => ?_)
      obtain ⟨z_31, rfl, hz_31, f9, -⟩ := hq9
      exact tz_iret (pc := 34) (z := z_31) dX11_unify_34 rfl (Nat.le_of_ble_eq_true rfl) (Nat.le_of_ble_eq_true rfl) ⟨Nat.le_refl _, Nat.le_add_right _ _⟩ ⟨_, rfl, (by omega), (SQ.cq ⟨⟨m, hI.st f9⟩, f9 145 rfl, f9 0 rfl, (f9.mono (fun c hc => by have := of_decide_eq_true hc; simp [zbut]; omega))⟩ (by omega) rfl zOf.rf)⟩
  · rw [show (if 0 ≤ s ∧ s < J 6 12 then 1 else 0 : Int) = 0 from if_neg hw_11]
    refine tz_if_eqT (pc := 11) (tgt := 28) (by decide) dX11_unify_11 (by decide) (by decide) ?_
    refine tz_aload_n (pc := 28) dX11_unify_28 rfl rfl ?_
    refine tz_iconst (pc := 29) dX11_unify_29 ?_
    refine tz_iconst (pc := 30) dX11_unify_30 ?_
    refine tz_cV (pc := 31) (c_refused hl n _ _ _ (by decide) (by omega) (by decide)) vl_X11_284 dX11_unify_31 o_0 rfl rfl (Nat.le_of_ble_eq_true rfl) ⟨(Nat.le_of_ble_eq_true rfl), (Nat.le_of_ble_eq_true rfl)⟩ rfl rfl (Nat.le_of_ble_eq_true rfl) (Nat.le_of_ble_eq_true rfl) (fun r9 J_31 hq9 => ?_)
    obtain ⟨z_31, rfl, hz_31, f9, -⟩ := hq9
    exact tz_iret (pc := 34) (z := z_31) dX11_unify_34 rfl (Nat.le_of_ble_eq_true rfl) (Nat.le_of_ble_eq_true rfl) ⟨Nat.le_refl _, Nat.le_add_right _ _⟩ ⟨_, rfl, (by omega), (SQ.cq ⟨⟨m, hI.st f9⟩, f9 145 rfl, f9 0 rfl, (f9.mono (fun c hc => by have := of_decide_eq_true hc; simp [zbut]; omega))⟩ (by omega) rfl zOf.rf)⟩

set_option maxHeartbeats 4000000 in
set_option maxRecDepth 100000 in
theorem c_allow {l : Launch} {G : tb_G} (hl : l.stackTraces = false) (n : Nat) (J : zJ)     : tz_Ok l G M_X6_allowSteps 0 0 0 [.ref 158] n J (zqv (fun J' => zup J 158 8 100 = J')) zN := by
  refine tz_Ok.of hl (by decide +kernel) rfl (tb_c1 rfl) (Nat.le_of_ble_eq_true rfl) ?_
  show tz_At l G M_X6_allowSteps (tb_rm 0 0 0) none (tb_ZM G 0 0 (zQ n 0 (zqv (fun J' => zup J 158 8 100 = J'))) (zX n 0 zN)) 0 0 n J 0 [some (.ref 158)] []
  refine tz_aload_n (pc := 0) dX6_allowSteps_0 rfl rfl ?_
  refine tz_bipush (pc := 1) dX6_allowSteps_1 (by decide) ?_
  refine tz_pI (pc := 3) (kz := 8) dX6_allowSteps_3 fl_X6_25 i_158_8 rfl rfl (by decide) ?_
  exact tz_vret (pc := 6) dX6_allowSteps_6 rfl (Nat.le_of_ble_eq_true rfl) (Nat.le_of_ble_eq_true rfl) ⟨Nat.le_refl _, Nat.le_add_right _ _⟩ ⟨rfl, rfl⟩

set_option maxHeartbeats 4000000 in
set_option maxRecDepth 100000 in
theorem t_normal {l : Launch} {G : tb_G} (hl : l.stackTraces = false) (n : Nat) (J : zJ) (t : Int) (hr_t : -2147483648 ≤ t ∧ t < 2147483648) (m : Int) (hI : CI J m) (h9 : J 145 10 < 1000000000) : tz_Ok l G M_X11_normal 12 0 0 [.ref 0, zi t] n J (zqi (fun z J' => CQ J' J)) zN := by
  refine tz_Ok.of hl (by decide +kernel) rfl (tb_c1 rfl) (Nat.le_of_ble_eq_true rfl) ?_
  show tz_At l G M_X11_normal (tb_rm 12 0 0) none (tb_ZM G 0 0 (zQ n 0 (zqi (fun z J' => CQ J' J))) (zX n 0 zN)) 0 0 n J 0 [some (.ref 0), some (zi t)] []
  have hC := hI.1.1.1
  have hm := hI.1.1.2.1
  have hL := hI.1.1.2.2
  have hb := hC.told
  refine tz_aload_n (pc := 0) dX11_normal_0 rfl rfl ?_
  refine tz_fR (pc := 1) dX11_normal_1 fl_X11_29 r_0_1 ?_
  refine tz_fR (pc := 4) dX11_normal_4 fl_X11_49 r_5_0 ?_
  refine tz_iload_n (pc := 7) dX11_normal_7 rfl rfl ?_
  refine tz_cV (pc := 8) (c_has hl n _ _ (by omega)) vl_X11_304 dX11_normal_8 o_6 rfl rfl (Nat.le_of_ble_eq_true rfl) ⟨(Nat.le_of_ble_eq_true rfl), (Nat.le_of_ble_eq_true rfl)⟩ rfl rfl (Nat.le_of_ble_eq_true rfl) (Nat.le_of_ble_eq_true rfl) (fun r9 J_8 hq9 => ?_)
  obtain ⟨z_8, rfl, hz_8, rfl, rfl⟩ := hq9
  by_cases hw_11 : 0 ≤ t ∧ t < J 6 12
  · rw [show (if 0 ≤ t ∧ t < J 6 12 then 1 else 0 : Int) = 1 from if_pos hw_11]
    refine tz_if_neT (pc := 11) (tgt := 21) (by decide) dX11_normal_11 (by decide) (by decide) ?_
    refine tz_aload_n (pc := 21) dX11_normal_21 rfl rfl ?_
    refine tz_fR (pc := 22) dX11_normal_22 fl_X11_29 r_0_1 ?_
    refine tz_cV (pc := 25) (c_begin hl n _) vl_X11_287 dX11_normal_25 o_5 rfl rfl (Nat.le_of_ble_eq_true rfl) ⟨(Nat.le_of_ble_eq_true rfl), (Nat.le_of_ble_eq_true rfl)⟩ rfl rfl (Nat.le_of_ble_eq_true rfl) (Nat.le_of_ble_eq_true rfl) (fun r9 Jb hq9 => ?_)
    obtain ⟨rfl, hj⟩ := hq9
    have hb9 : zOf (zbut [19, 61]) Jb J := by rw [← hj]; exact zOf.cp rfl (zOf.up rfl zOf.rf)
    have hb19 : ∀ k, ¬ k = 0 → Jb 19 k = J 19 k := fun k hk => by rw [← hj, zcp_nc (by decide), zup_ne hk]
    have a0 : AC Jb m m := by rw [← hj]; exact hI.begin
    have hb6 := a0.1.1.2.1
    refine tz_aload_n (pc := 28) dX11_normal_28 rfl rfl ?_
    refine tz_fR (pc := 29) dX11_normal_29 fl_X11_90 r_0_10 ?_
    refine tz_cV (pc := 32) (c_allow hl n _) vl_X11_344 dX11_normal_32 o_158 rfl rfl (Nat.le_of_ble_eq_true rfl) ⟨(Nat.le_of_ble_eq_true rfl), (Nat.le_of_ble_eq_true rfl)⟩ rfl rfl (Nat.le_of_ble_eq_true rfl) (Nat.le_of_ble_eq_true rfl) (fun r9 Jc hq9 => ?_)
    obtain ⟨rfl, hj2⟩ := hq9
    have hc9 : zOf (zbut [158]) Jc Jb := by rw [← hj2]; exact zOf.up rfl zOf.rf
    have a2 : AC Jc m m := a0.gx0 (X := [158]) ((GX.rf a0.1.1.1 hb6).off rfl hc9) rfl
    refine tz_aload_n (pc := 35) dX11_normal_35 rfl rfl ?_
    refine tz_aload_n (pc := 36) dX11_normal_36 rfl rfl ?_
    refine tz_fR (pc := 37) dX11_normal_37 fl_X11_90 r_0_10 ?_
    refine tz_iload_n (pc := 40) dX11_normal_40 rfl rfl ?_
    refine tz_cV (pc := 41) (c_normalOf hl n _ _ (by omega) m a2.1.1.1 a2.1.1.2.1 a2.1.1.2.2 (by omega)) vl_X11_347 dX11_normal_41 o_158 rfl rfl (Nat.le_of_ble_eq_true rfl) ⟨(Nat.le_of_ble_eq_true rfl), (Nat.le_of_ble_eq_true rfl)⟩ rfl rfl (Nat.le_of_ble_eq_true rfl) (Nat.le_of_ble_eq_true rfl) (fun r9 J_41 hq9 => ?_)
    obtain ⟨z_41, rfl, hz_41, m1, g1, l1, h1⟩ := hq9
    have a1 := a2.gx g1 rfl l1 (a2.1.2.1.of (g1.2.2.2.2 145 rfl) (g1.2.2.2.2 146 rfl))
    have gg : zOf (zbut [6, 7, 8, 9, 10, 11, 12, 13, 14, 15, 16, 17, 19, 140, 158, 159, 160, 161]) J_41 Jb := g1.2.2.2.2.tr (hc9.mono (zbut_sub (fun c hc => by simp at hc ⊢; omega)))
    refine tz_cV (pc := 44) (c_settled hl n _ _ (by omega) m m1 a1) vl_X11_293 dX11_normal_44 o_0 rfl rfl (Nat.le_of_ble_eq_true rfl) ⟨(Nat.le_of_ble_eq_true rfl), (Nat.le_of_ble_eq_true rfl)⟩ rfl rfl (Nat.le_of_ble_eq_true rfl) (Nat.le_of_ble_eq_true rfl) (fun r9 J_44 hq9 => ?_)
    obtain ⟨z_44, rfl, hz_44, s9⟩ := hq9
    exact tz_iret (pc := 47) (z := z_44) dX11_normal_47 rfl (Nat.le_of_ble_eq_true rfl) (Nat.le_of_ble_eq_true rfl) ⟨Nat.le_refl _, Nat.le_add_right _ _⟩ ⟨_, rfl, (by omega), (s9.cq (by rw [gg 145 rfl, hb9 145 rfl]; omega) ((gg 0 rfl).trans (hb9 0 rfl)) ((gg.mono (fun c hc => by have := of_decide_eq_true hc; simp [zbut]; omega)).tr (hb9.mono (fun c hc => by have := of_decide_eq_true hc; simp [zbut]; omega))))⟩
  · rw [show (if 0 ≤ t ∧ t < J 6 12 then 1 else 0 : Int) = 0 from if_neg hw_11]
    refine tz_if_neF (pc := 11) (tgt := 21) (by decide) dX11_normal_11 (by decide) (by decide) ?_
    refine tz_aload_n (pc := 14) dX11_normal_14 rfl rfl ?_
    refine tz_iconst (pc := 15) dX11_normal_15 ?_
    refine tz_iconst (pc := 16) dX11_normal_16 ?_
    refine tz_cV (pc := 17) (c_refused hl n _ _ _ (by decide) (by omega) (by decide)) vl_X11_284 dX11_normal_17 o_0 rfl rfl (Nat.le_of_ble_eq_true rfl) ⟨(Nat.le_of_ble_eq_true rfl), (Nat.le_of_ble_eq_true rfl)⟩ rfl rfl (Nat.le_of_ble_eq_true rfl) (Nat.le_of_ble_eq_true rfl) (fun r9 J_17 hq9 => ?_)
    obtain ⟨z_17, rfl, hz_17, f9, -⟩ := hq9
    exact tz_iret (pc := 20) (z := z_17) dX11_normal_20 rfl (Nat.le_of_ble_eq_true rfl) (Nat.le_of_ble_eq_true rfl) ⟨Nat.le_refl _, Nat.le_add_right _ _⟩ ⟨_, rfl, (by omega), (SQ.cq ⟨⟨m, hI.st f9⟩, f9 145 rfl, f9 0 rfl, (f9.mono (fun c hc => by have := of_decide_eq_true hc; simp [zbut]; omega))⟩ (by omega) rfl zOf.rf)⟩

set_option maxHeartbeats 4000000 in
set_option maxRecDepth 100000 in
theorem t_draw {l : Launch} {G : tb_G} (hl : l.stackTraces = false) (n : Nat) (J : zJ) (s : Int) (x : Int) (hr_s : -2147483648 ≤ s ∧ s < 2147483648) (hr_x : -2147483648 ≤ x ∧ x < 2147483648) (m : Int) (hI : CI J m) (h9 : J 145 10 < 1000000000) : tz_Ok l G M_X11_draw 11 0 0 [.ref 0, zi s, zi x] n J (zqi (fun z J' => CQ J' J)) zN := by
  refine tz_Ok.of hl (by decide +kernel) rfl (tb_c1 rfl) (Nat.le_of_ble_eq_true rfl) ?_
  show tz_At l G M_X11_draw (tb_rm 11 0 0) none (tb_ZM G 0 0 (zQ n 0 (zqi (fun z J' => CQ J' J))) (zX n 0 zN)) 0 0 n J 0 [some (.ref 0), some (zi s), some (zi x)] []
  have hC := hI.1.1.1
  have hm := hI.1.1.2.1
  have hL := hI.1.1.2.2
  have hb := hC.told
  refine tz_iload_n (pc := 0) dX11_draw_0 rfl rfl ?_
  refine tz_iconst (pc := 1) dX11_draw_1 ?_
  refine tz_icmp_lt (pc := 2) (tgt := 10) dX11_draw_2 (by decide) (by omega) (by decide) (fun h_2 => ?_) (fun h_2 => ?_)
  · refine tz_aload_n (pc := 10) dX11_draw_10 rfl rfl ?_
    refine tz_iconst (pc := 11) dX11_draw_11 ?_
    refine tz_iconst (pc := 12) dX11_draw_12 ?_
    refine tz_cV (pc := 13) (c_refused hl n _ _ _ (by decide) (by omega) (by decide)) vl_X11_284 dX11_draw_13 o_0 rfl rfl (Nat.le_of_ble_eq_true rfl) ⟨(Nat.le_of_ble_eq_true rfl), (Nat.le_of_ble_eq_true rfl)⟩ rfl rfl (Nat.le_of_ble_eq_true rfl) (Nat.le_of_ble_eq_true rfl) (fun r9 J_13 hq9 => ?_)
    obtain ⟨z_13, rfl, hz_13, f9, -⟩ := hq9
    exact tz_iret (pc := 16) (z := z_13) dX11_draw_16 rfl (Nat.le_of_ble_eq_true rfl) (Nat.le_of_ble_eq_true rfl) ⟨Nat.le_refl _, Nat.le_add_right _ _⟩ ⟨_, rfl, (by omega), (SQ.cq ⟨⟨m, hI.st f9⟩, f9 145 rfl, f9 0 rfl, (f9.mono (fun c hc => by have := of_decide_eq_true hc; simp [zbut]; omega))⟩ (by omega) rfl zOf.rf)⟩
  · refine tz_iload_n (pc := 5) dX11_draw_5 rfl rfl ?_
    refine tz_iconst (pc := 6) dX11_draw_6 ?_
    refine tz_icmp_le (pc := 7) (tgt := 17) dX11_draw_7 (by decide) (by omega) (by decide) (fun h_7 => ?_) (fun h_7 => ?_)
    · refine tz_aload_n (pc := 17) dX11_draw_17 rfl rfl ?_
      refine tz_fR (pc := 18) dX11_draw_18 fl_X11_29 r_0_1 ?_
      refine tz_cV (pc := 21) (c_begin hl n _) vl_X11_287 dX11_draw_21 o_5 rfl rfl (Nat.le_of_ble_eq_true rfl) ⟨(Nat.le_of_ble_eq_true rfl), (Nat.le_of_ble_eq_true rfl)⟩ rfl rfl (Nat.le_of_ble_eq_true rfl) (Nat.le_of_ble_eq_true rfl) (fun r9 Jb hq9 => ?_)
      obtain ⟨rfl, hj⟩ := hq9
      have hb9 : zOf (zbut [19, 61]) Jb J := by rw [← hj]; exact zOf.cp rfl (zOf.up rfl zOf.rf)
      have hb19 : ∀ k, ¬ k = 0 → Jb 19 k = J 19 k := fun k hk => by rw [← hj, zcp_nc (by decide), zup_ne hk]
      have a0 : AC Jb m m := by rw [← hj]; exact hI.begin
      have hb6 := a0.1.1.2.1
      refine tz_aload_n (pc := 24) dX11_draw_24 rfl rfl ?_
      refine tz_fR (pc := 25) dX11_draw_25 fl_X11_62 r_0_7 ?_
      refine tz_iload_n (pc := 28) dX11_draw_28 rfl rfl ?_
      refine tz_pI (pc := 29) (kz := 5) dX11_draw_29 fl_X11_369 i_141_5 rfl rfl (by omega) ?_
      refine tz_aload_n (pc := 32) dX11_draw_32 rfl rfl ?_
      refine tz_aload_n (pc := 33) dX11_draw_33 rfl rfl ?_
      refine tz_fR (pc := 34) dX11_draw_34 fl_X11_62 r_0_7 ?_
      refine tz_iload_n (pc := 37) dX11_draw_37 rfl rfl ?_
      have a2 : AC (zup Jb 141 5 s) m m := a0.gx0 (X := [141]) ((GX.rf a0.1.1.1 hb6).off rfl (zOf.up rfl zOf.rf)) rfl
      refine tz_cV (pc := 38) (c_drawn hl n _ _ (by omega) m a2.1.1.1 a2.1.1.2.1) vl_X11_372 dX11_draw_38 o_141 rfl rfl (Nat.le_of_ble_eq_true rfl) ⟨(Nat.le_of_ble_eq_true rfl), (Nat.le_of_ble_eq_true rfl)⟩ rfl rfl (Nat.le_of_ble_eq_true rfl) (Nat.le_of_ble_eq_true rfl) (fun r9 J_38 hq9 => ?_)
      obtain ⟨z_38, rfl, hz_38, m1, g1, h1⟩ := hq9
      have a1 := a2.gx0 g1 rfl
      have gg : zOf (zbut [6, 7, 8, 9, 10, 11, 12, 13, 14, 15, 16, 17, 141]) J_38 Jb := g1.2.2.2.2.tr (zOf.up rfl zOf.rf)
      refine tz_cV (pc := 41) (c_settled hl n _ _ (by omega) m m1 a1) vl_X11_293 dX11_draw_41 o_0 rfl rfl (Nat.le_of_ble_eq_true rfl) ⟨(Nat.le_of_ble_eq_true rfl), (Nat.le_of_ble_eq_true rfl)⟩ rfl rfl (Nat.le_of_ble_eq_true rfl) (Nat.le_of_ble_eq_true rfl) (fun r9 J_41 hq9 => ?_)
      obtain ⟨z_41, rfl, hz_41, s9⟩ := hq9
      exact tz_iret (pc := 44) (z := z_41) dX11_draw_44 rfl (Nat.le_of_ble_eq_true rfl) (Nat.le_of_ble_eq_true rfl) ⟨Nat.le_refl _, Nat.le_add_right _ _⟩ ⟨_, rfl, (by omega), (s9.cq (by rw [gg 145 rfl, hb9 145 rfl]; omega) ((gg 0 rfl).trans (hb9 0 rfl)) ((gg.mono (fun c hc => by have := of_decide_eq_true hc; simp [zbut]; omega)).tr (hb9.mono (fun c hc => by have := of_decide_eq_true hc; simp [zbut]; omega))))⟩
    · refine tz_aload_n (pc := 10) dX11_draw_10 rfl rfl ?_
      refine tz_iconst (pc := 11) dX11_draw_11 ?_
      refine tz_iconst (pc := 12) dX11_draw_12 ?_
      refine tz_cV (pc := 13) (c_refused hl n _ _ _ (by decide) (by omega) (by decide)) vl_X11_284 dX11_draw_13 o_0 rfl rfl (Nat.le_of_ble_eq_true rfl) ⟨(Nat.le_of_ble_eq_true rfl), (Nat.le_of_ble_eq_true rfl)⟩ rfl rfl (Nat.le_of_ble_eq_true rfl) (Nat.le_of_ble_eq_true rfl) (fun r9 J_13 hq9 => ?_)
      obtain ⟨z_13, rfl, hz_13, f9, -⟩ := hq9
      exact tz_iret (pc := 16) (z := z_13) dX11_draw_16 rfl (Nat.le_of_ble_eq_true rfl) (Nat.le_of_ble_eq_true rfl) ⟨Nat.le_refl _, Nat.le_add_right _ _⟩ ⟨_, rfl, (by omega), (SQ.cq ⟨⟨m, hI.st f9⟩, f9 145 rfl, f9 0 rfl, (f9.mono (fun c hc => by have := of_decide_eq_true hc; simp [zbut]; omega))⟩ (by omega) rfl zOf.rf)⟩

