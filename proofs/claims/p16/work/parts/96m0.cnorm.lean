/-! ===== normalOf of the class, exact ===== -/
set_option maxHeartbeats 4000000 in
set_option maxRecDepth 100000 in
theorem x_opened {l : Launch} {G : tb_G} (hl : l.stackTraces = false) (n : Nat) (J : zJ) (t : Int) (hr_t : -2147483648 ≤ t ∧ t < 2147483648) (m : Int) (S : zJ) (σ : Int) (K : List NFr) (C : CT J m) (hm : J 6 12 = m) (hL : LI (J 19) m) (hF : FR J m) (ht : t = -3 ∨ (0 ≤ t ∧ t < m)) (hk9 : J 158 7 < 612) : tz_Ok l G M_X6_opened 2 0 0 [.ref 158, zi t] n J (zqi (fun z J' => WR J' J m m ∧ (-3 ≤ z ∧ z < m) ∧ (0 ≤ t → NSH m J S σ K → (K.length : Int) + J 12 t ≤ 6 * (σ + 1) → NCG m J' z (nOP S σ K t)) ∧ (t = -3 → z = -3))) zN := by
  refine tz_Ok.of hl (by decide +kernel) rfl (tb_c1 rfl) (Nat.le_of_ble_eq_true rfl) ?_
  show tz_At l G M_X6_opened (tb_rm 2 0 0) none (tb_ZM G 0 0 (zQ n 0 (zqi (fun z J' => WR J' J m m ∧ (-3 ≤ z ∧ z < m) ∧ (0 ≤ t → NSH m J S σ K → (K.length : Int) + J 12 t ≤ 6 * (σ + 1) → NCG m J' z (nOP S σ K t)) ∧ (t = -3 → z = -3)))) (zX n 0 zN)) 0 0 n J 0 [some (.ref 158), some (zi t), none] []
  have hb := C.told
  have h7 := hF.1
  have h6 := hL.1.2.2.2
  refine tz_iload_n (pc := 0) dX6_opened_0 rfl rfl ?_
  refine tz_if_lt (pc := 1) (tgt := 15) dX6_opened_1 (by decide) (by omega) (fun h_1 => ?_) (fun h_1 => ?_)
  · refine tz_iload_n (pc := 15) dX6_opened_15 rfl rfl ?_
    exact tz_iret (pc := 16) (z := t) dX6_opened_16 rfl (Nat.le_of_ble_eq_true rfl) (Nat.le_of_ble_eq_true rfl) ⟨Nat.le_refl _, Nat.le_add_right _ _⟩ ⟨_, rfl, (by omega), (by first | exact ⟨(WR.rf C hm hL hF), by omega, fun q _ _ => absurd q (by omega), fun _ => by omega⟩ | exact ⟨(WR.rf C hm hL hF), by omega, fun _ N _ => ncg_v N C hm (by omega) (by omega), fun _ => by omega⟩)⟩
  · refine tz_aload_n (pc := 4) dX6_opened_4 rfl rfl ?_
    refine tz_fR (pc := 5) dX6_opened_5 fl_X6_38 r_158_1 ?_
    refine tz_iload_n (pc := 8) dX6_opened_8 rfl rfl ?_
    refine tz_cV (pc := 9) (c_isVar hl n _ _ (by omega) (by omega)) vl_X6_59 dX6_opened_9 o_6 rfl rfl (Nat.le_of_ble_eq_true rfl) ⟨(Nat.le_of_ble_eq_true rfl), (Nat.le_of_ble_eq_true rfl)⟩ rfl rfl (Nat.le_of_ble_eq_true rfl) (Nat.le_of_ble_eq_true rfl) (fun r9 J_9 hq9 => ?_)
    obtain ⟨z_9, rfl, hz_9, rfl, rfl⟩ := hq9
    by_cases hw_12 : J 7 t < 0
    · rw [show (if J 7 t < 0 then 1 else 0 : Int) = 1 from if_pos hw_12]
      refine tz_if_eqF (pc := 12) (tgt := 17) (by decide) dX6_opened_12 (by decide) (by decide) ?_
      refine tz_iload_n (pc := 15) dX6_opened_15 rfl rfl ?_
      exact tz_iret (pc := 16) (z := t) dX6_opened_16 rfl (Nat.le_of_ble_eq_true rfl) (Nat.le_of_ble_eq_true rfl) ⟨Nat.le_refl _, Nat.le_add_right _ _⟩ ⟨_, rfl, (by omega), (by first | exact ⟨(WR.rf C hm hL hF), by omega, fun q _ _ => absurd q (by omega), fun _ => by omega⟩ | exact ⟨(WR.rf C hm hL hF), by omega, fun _ N _ => ncg_v N C hm (by omega) (by omega), fun _ => by omega⟩)⟩
    · rw [show (if J 7 t < 0 then 1 else 0 : Int) = 0 from if_neg hw_12]
      refine tz_if_eqT (pc := 12) (tgt := 17) (by decide) dX6_opened_12 (by decide) (by decide) ?_
      refine tz_aload_n (pc := 17) dX6_opened_17 rfl rfl ?_
      refine tz_fR (pc := 18) dX6_opened_18 fl_X6_28 r_158_0 ?_
      refine tz_fR (pc := 21) dX6_opened_21 fl_X6_65 r_5_1 ?_
      refine tz_iload_n (pc := 24) dX6_opened_24 rfl rfl ?_
      refine tz_cV (pc := 25) (c_recalled hl n _ _ (by omega) (by omega)) vl_X6_69 dX6_opened_25 o_18 rfl rfl (Nat.le_of_ble_eq_true rfl) ⟨(Nat.le_of_ble_eq_true rfl), (Nat.le_of_ble_eq_true rfl)⟩ rfl rfl (Nat.le_of_ble_eq_true rfl) (Nat.le_of_ble_eq_true rfl) (fun r9 J_25 hq9 => ?_)
      obtain ⟨z_25, rfl, hz_25, p_25⟩ := hq9
      obtain ⟨g9, h9⟩ := WR.rec (WR.rf C hm hL hF) (by omega) p_25
      have hF9 := g9.2.2.1
      have k25 : J_25 158 7 = J 158 7 := by rcases p_25 with ⟨_, a, _⟩ | ⟨i, a, b, c, d⟩; (rw [← a]); (have f : zOf (zbut [19]) J_25 J := (by rw [← d]; exact zof_aM.tr (zof_dM.tr (zOf.up rfl zOf.rf))); exact congrFun (f 158 rfl) 7)
      have f25 : z_25 = -1 → J = J_25 := fun q => by rcases p_25 with ⟨_, a, _⟩ | ⟨i, a, _, b, _⟩; exact a; (have := (hL.2.2.2.2 i a.1 a.2.1).2; omega)
      refine tz_istore_n (pc := 28) (L2 := [_, _, _]) dX6_opened_28 rfl (by decide) rfl ?_
      refine tz_iload_n (pc := 29) dX6_opened_29 rfl rfl ?_
      refine tz_iconst (pc := 30) dX6_opened_30 ?_
      refine tz_icmp_eq (pc := 31) (tgt := 36) dX6_opened_31 (by decide) (by omega) (by decide) (fun h_31 => ?_) (fun h_31 => ?_)
      · refine tz_aload_n (pc := 36) dX6_opened_36 rfl rfl ?_
        refine tz_fI (pc := 37) (kz := 7) (v := (J_25 158 7)) dX6_opened_37 fl_X6_21 i_158_7 rfl rfl (fun r_37 => ?_)
        refine tz_sipush (pc := 40) dX6_opened_40 (by decide) ?_
        refine tz_icmp_ltT (pc := 43) (tgt := 49) (by omega) dX6_opened_43 (by decide) (by omega) (by decide) ?_
        refine tz_aload_n (pc := 49) dX6_opened_49 rfl rfl ?_
        refine tz_fR (pc := 50) dX6_opened_50 fl_X6_11 r_158_4 ?_
        refine tz_aload_n (pc := 53) dX6_opened_53 rfl rfl ?_
        refine tz_fI (pc := 54) (kz := 7) (v := (J_25 158 7)) dX6_opened_54 fl_X6_21 i_158_7 rfl rfl (fun r_54 => ?_)
        refine tz_iload_n (pc := 57) dX6_opened_57 rfl rfl ?_
        refine tz_aS (pc := 58) (z := (J_25 158 7)) dX6_opened_58 a_159 rfl (by omega) (by omega) ?_
        refine tz_aload_n (pc := 59) dX6_opened_59 rfl rfl ?_
        refine tz_fR (pc := 60) dX6_opened_60 fl_X6_15 r_158_5 ?_
        refine tz_aload_n (pc := 63) dX6_opened_63 rfl rfl ?_
        refine tz_fI (pc := 64) (kz := 7) (v := (J_25 158 7)) dX6_opened_64 fl_X6_21 i_158_7 rfl rfl (fun r_64 => ?_)
        refine tz_iconst (pc := 67) dX6_opened_67 ?_
        refine tz_aS (pc := 68) (z := (J_25 158 7)) dX6_opened_68 a_160 rfl (by omega) (by decide) ?_
        refine tz_aload_n (pc := 69) dX6_opened_69 rfl rfl ?_
        refine tz_dup (pc := 70) dX6_opened_70 rfl ?_
        refine tz_fI (pc := 71) (kz := 7) (v := (J_25 158 7)) dX6_opened_71 fl_X6_21 i_158_7 rfl rfl (fun r_71 => ?_)
        refine tz_iconst (pc := 74) dX6_opened_74 ?_
        refine tz_iadd (pc := 75) (v := (J_25 158 7) + 1) dX6_opened_75 rfl ?_
        refine tz_pI (pc := 76) (kz := 7) dX6_opened_76 fl_X6_21 i_158_7 rfl rfl (by omega) ?_
        refine tz_iconst (pc := 79) dX6_opened_79 ?_
        exact tz_iret (pc := 80) (z := (-1)) dX6_opened_80 rfl (Nat.le_of_ble_eq_true rfl) (Nat.le_of_ble_eq_true rfl) ⟨Nat.le_refl _, Nat.le_add_right _ _⟩ ⟨_, rfl, (by decide), ⟨g9.push (by omega) (by omega), by omega, fun _ N hk => by rw [← f25 (by omega)]; exact ncg_p N C hm (by omega) (by omega) hL (p_25.elim (fun q => q.2.2) (fun ⟨i, a, _, b, _⟩ => absurd (hL.2.2.2.2 i a.1 a.2.1).2 (by omega))) hk, fun _ => by omega⟩⟩
      · refine tz_iload_n (pc := 34) dX6_opened_34 rfl rfl ?_
        exact tz_iret (pc := 35) (z := z_25) dX6_opened_35 rfl (Nat.le_of_ble_eq_true rfl) (Nat.le_of_ble_eq_true rfl) ⟨Nat.le_refl _, Nat.le_add_right _ _⟩ ⟨_, rfl, (by omega), ⟨g9, by omega, fun _ N _ => by rcases p_25 with ⟨a, _⟩ | ⟨i, a, b, c, d⟩; exact absurd a (by omega); exact ncg_m N C hm hL (by omega) (by omega) a b c d, fun _ => by omega⟩⟩

set_option maxHeartbeats 4000000 in
set_option maxRecDepth 100000 in
theorem x_closedWith {l : Launch} {G : tb_G} (hl : l.stackTraces = false) (n : Nat) (J : zJ) (v : Int) (f : Int) (hr_v : -2147483648 ≤ v ∧ v < 2147483648) (hr_f : -2147483648 ≤ f ∧ f < 2147483648) (m : Int) (C : CT J m) (hm : J 6 12 = m) (hL : LI (J 19) m) (hF : FR J m) (hf : 0 ≤ f ∧ f < J 158 7) (hv : 0 ≤ v ∧ v < m) : tz_Ok l G M_X6_closedWith 2 0 0 [.ref 158, zi v, zi f] n J (zqi (fun z J' => WR J' J m m ∧ z = v ∧ zup (zrM J (J 159 f) v) 158 7 f = J')) zN := by
  refine tz_Ok.of hl (by decide +kernel) rfl (tb_c1 rfl) (Nat.le_of_ble_eq_true rfl) ?_
  show tz_At l G M_X6_closedWith (tb_rm 2 0 0) none (tb_ZM G 0 0 (zQ n 0 (zqi (fun z J' => WR J' J m m ∧ z = v ∧ zup (zrM J (J 159 f) v) 158 7 f = J'))) (zX n 0 zN)) 0 0 n J 0 [some (.ref 158), some (zi v), some (zi f)] []
  have h7 := hF.1
  have ha := (hF.2 f hf.1 hf.2).1
  have h6 := hL.1
  refine tz_aload_n (pc := 0) dX6_closedWith_0 rfl rfl ?_
  refine tz_fR (pc := 1) dX6_closedWith_1 fl_X6_28 r_158_0 ?_
  refine tz_fR (pc := 4) dX6_closedWith_4 fl_X6_65 r_5_1 ?_
  refine tz_aload_n (pc := 7) dX6_closedWith_7 rfl rfl ?_
  refine tz_fR (pc := 8) dX6_closedWith_8 fl_X6_11 r_158_4 ?_
  refine tz_iload_n (pc := 11) dX6_closedWith_11 rfl rfl ?_
  refine tz_aL (pc := 12) (z := f) (v := (J 159 f)) dX6_closedWith_12 a_159 rfl (by omega) rfl (fun r_12 => ?_)
  refine tz_iload_n (pc := 13) dX6_closedWith_13 rfl rfl ?_
  refine tz_cV (pc := 14) (c_remember hl n _ _ _ (by omega) (by omega) (by omega) (by omega)) vl_X6_114 dX6_closedWith_14 o_18 rfl rfl (Nat.le_of_ble_eq_true rfl) ⟨(Nat.le_of_ble_eq_true rfl), (Nat.le_of_ble_eq_true rfl)⟩ rfl rfl (Nat.le_of_ble_eq_true rfl) (Nat.le_of_ble_eq_true rfl) (fun r9 J9 hq9 => ?_)
  obtain ⟨rfl, rfl⟩ := hq9
  refine tz_aload_n (pc := 17) dX6_closedWith_17 rfl rfl ?_
  refine tz_iload_n (pc := 18) dX6_closedWith_18 rfl rfl ?_
  refine tz_pI (pc := 19) (kz := 7) dX6_closedWith_19 fl_X6_21 i_158_7 rfl rfl (by omega) ?_
  refine tz_iload_n (pc := 22) dX6_closedWith_22 rfl rfl ?_
  exact tz_iret (pc := 23) (z := v) dX6_closedWith_23 rfl (Nat.le_of_ble_eq_true rfl) (Nat.le_of_ble_eq_true rfl) ⟨Nat.le_refl _, Nat.le_add_right _ _⟩ ⟨_, rfl, (by omega), ⟨⟨((GX.rf C hm).off rfl (zof_rM.mono (fun c hc => by simp [zbut] at hc ⊢; omega))).off rfl (zOf.up rfl zOf.rf), hL.rM ha hv, (hF.of (Int.le_refl _) (fun t _ _ => congrFun (zof_rM 8 rfl) t) (congrFun (zof_rM 158 rfl) 7) (zof_rM 159 rfl) (zof_rM 160 rfl) (zof_rM 161 rfl)).pop (by rw [congrFun (zof_rM 158 rfl) 7]; exact hf)⟩, rfl, rfl⟩⟩

set_option maxHeartbeats 4000000 in
set_option maxRecDepth 100000 in
theorem x_handed {l : Launch} {G : tb_G} (hl : l.stackTraces = false) (n : Nat) (J : zJ) (v : Int) (f : Int) (hr_v : -2147483648 ≤ v ∧ v < 2147483648) (hr_f : -2147483648 ≤ f ∧ f < 2147483648) (m : Int) (S : zJ) (σ : Int) (F : NFr) (K : List NFr) (C : CT J m) (hm : J 6 12 = m) (hL : LI (J 19) m) (hF : FR J m) (hf : 0 ≤ f ∧ f < J 158 7) (hv : 0 ≤ v ∧ v < m) (hfk : f = (K.length : Int)) (N : NSH m J S σ (F :: K)) : tz_Ok l G M_X6_handed 3 0 0 [.ref 158, zi v, zi f] n J (zqi (fun z J' => WR J' J m m ∧ (z = -1 ∨ z = v) ∧ NCG m J' z (nST ((S, σ), F :: K, v)))) zN := by
  refine tz_Ok.of hl (by decide +kernel) rfl (tb_c1 rfl) (Nat.le_of_ble_eq_true rfl) ?_
  show tz_At l G M_X6_handed (tb_rm 3 0 0) none (tb_ZM G 0 0 (zQ n 0 (zqi (fun z J' => WR J' J m m ∧ (z = -1 ∨ z = v) ∧ NCG m J' z (nST ((S, σ), F :: K, v))))) (zX n 0 zN)) 0 0 n J 0 [some (.ref 158), some (zi v), some (zi f), none] []
  have h7 := hF.1
  have ha := hF.2 f hf.1 hf.2
  have ha2 := ha.2.1
  refine tz_aload_n (pc := 0) dX6_handed_0 rfl rfl ?_
  refine tz_fR (pc := 1) dX6_handed_1 fl_X6_15 r_158_5 ?_
  refine tz_iload_n (pc := 4) dX6_handed_4 rfl rfl ?_
  refine tz_aL (pc := 5) (z := f) (v := (J 160 f)) dX6_handed_5 a_160 rfl (by omega) rfl (fun r_5 => ?_)
  refine tz_istore_n (pc := 6) (L2 := [_, _, _, _]) dX6_handed_6 rfl (by decide) rfl ?_
  refine tz_iload_n (pc := 7) dX6_handed_7 rfl rfl ?_
  refine tz_iconst (pc := 8) dX6_handed_8 ?_
  refine tz_icmp_lt (pc := 9) (tgt := 19) dX6_handed_9 (by decide) (by omega) (by decide) (fun h_9 => ?_) (fun h_9 => ?_)
  · refine tz_aload_n (pc := 19) dX6_handed_19 rfl rfl ?_
    refine tz_fR (pc := 20) dX6_handed_20 fl_X6_18 r_158_6 ?_
    refine tz_iload_n (pc := 23) dX6_handed_23 rfl rfl ?_
    refine tz_iconst (pc := 24) dX6_handed_24 ?_
    refine tz_imul (pc := 25) (v := f * 3) dX6_handed_25 rfl ?_
    refine tz_iload_n (pc := 26) dX6_handed_26 rfl rfl ?_
    refine tz_iadd (pc := 27) (v := (f * 3) + (J 160 f)) dX6_handed_27 rfl ?_
    refine tz_iload_n (pc := 28) dX6_handed_28 rfl rfl ?_
    refine tz_aS (pc := 29) (z := ((f * 3) + (J 160 f))) dX6_handed_29 a_161 rfl (by omega) (by omega) ?_
    refine tz_aload_n (pc := 30) dX6_handed_30 rfl rfl ?_
    refine tz_fR (pc := 31) dX6_handed_31 fl_X6_15 r_158_5 ?_
    refine tz_iload_n (pc := 34) dX6_handed_34 rfl rfl ?_
    refine tz_iload_n (pc := 35) dX6_handed_35 rfl rfl ?_
    refine tz_iconst (pc := 36) dX6_handed_36 ?_
    refine tz_iadd (pc := 37) (v := (J 160 f) + 1) dX6_handed_37 rfl ?_
    refine tz_aS (pc := 38) (z := f) dX6_handed_38 a_160 rfl (by omega) (by omega) ?_
    refine tz_iconst (pc := 39) dX6_handed_39 ?_
    exact tz_iret (pc := 40) (z := (-1)) dX6_handed_40 rfl (Nat.le_of_ble_eq_true rfl) (Nat.le_of_ble_eq_true rfl) ⟨Nat.le_refl _, Nat.le_add_right _ _⟩ ⟨_, rfl, (by decide), (by first | exact ⟨g1, Or.inr h1, by rw [← e1, h1]; subst hfk; exact ncg_c N hL hv.1 (by omega)⟩ | exact ⟨⟨(GX.rf C hm).off rfl (zOf.up rfl (zOf.up rfl zOf.rf)), hL, hF.part hf rfl (by omega) hv.2⟩, Or.inl rfl, by subst hfk; exact ncg_h N hv.1 (by omega) (by omega)⟩)⟩
  · refine tz_aload_n (pc := 12) dX6_handed_12 rfl rfl ?_
    refine tz_iload_n (pc := 13) dX6_handed_13 rfl rfl ?_
    refine tz_iload_n (pc := 14) dX6_handed_14 rfl rfl ?_
    refine tz_cV (pc := 15) (x_closedWith hl n _ _ _ (by omega) (by omega) m C hm hL hF hf hv) vl_X6_93 dX6_handed_15 o_158 rfl rfl (Nat.le_of_ble_eq_true rfl) ⟨(Nat.le_of_ble_eq_true rfl), (Nat.le_of_ble_eq_true rfl)⟩ rfl rfl (Nat.le_of_ble_eq_true rfl) (Nat.le_of_ble_eq_true rfl) (fun r9 J_15 hq9 => ?_)
    obtain ⟨z_15, rfl, hz_15, g1, h1, e1⟩ := hq9
    exact tz_iret (pc := 18) (z := z_15) dX6_handed_18 rfl (Nat.le_of_ble_eq_true rfl) (Nat.le_of_ble_eq_true rfl) ⟨Nat.le_refl _, Nat.le_add_right _ _⟩ ⟨_, rfl, (by omega), (by first | exact ⟨g1, Or.inr h1, by rw [← e1, h1]; subst hfk; exact ncg_c N hL hv.1 (by omega)⟩ | exact ⟨⟨(GX.rf C hm).off rfl (zOf.up rfl (zOf.up rfl zOf.rf)), hL, hF.part hf rfl (by omega) hv.2⟩, Or.inl rfl, by subst hfk; exact ncg_h N hv.1 (by omega) (by omega)⟩)⟩

set_option maxHeartbeats 4000000 in
set_option maxRecDepth 100000 in
theorem x_countStep {l : Launch} {G : tb_G} (hl : l.stackTraces = false) (n : Nat) (J : zJ) (f : Int) (hr_f : -2147483648 ≤ f ∧ f < 2147483648) (m : Int) (C : CT J m) (hm : J 6 12 = m) (hL : LI (J 19) m) (hF : FR J m) (hf : 0 ≤ f ∧ f < J 158 7) (hs : J 8 (J 159 f) ≤ J 160 f) (h8 : 0 < J 158 8) : tz_Ok l G M_X6_countStep 0 0 0 [.ref 158, zi f] n J (zqv (fun J' => WR J' J m m ∧ zOf (zbut [19, 158, 160]) J' J ∧ (∀ k, ¬ k = 3 → J' 19 k = J 19 k) ∧ zup (zup (zup J 158 8 (J 158 8 - 1)) 19 3 (zw (J 19 3 + 1))) 160 f 4 = J')) zN := by
  refine tz_Ok.of hl (by decide +kernel) rfl (tb_c1 rfl) (Nat.le_of_ble_eq_true rfl) ?_
  show tz_At l G M_X6_countStep (tb_rm 0 0 0) none (tb_ZM G 0 0 (zQ n 0 (zqv (fun J' => WR J' J m m ∧ zOf (zbut [19, 158, 160]) J' J ∧ (∀ k, ¬ k = 3 → J' 19 k = J 19 k) ∧ zup (zup (zup J 158 8 (J 158 8 - 1)) 19 3 (zw (J 19 3 + 1))) 160 f 4 = J'))) (zX n 0 zN)) 0 0 n J 0 [some (.ref 158), some (zi f)] []
  have h7 := hF.1
  have r8 := h8
  refine tz_aload_n (pc := 0) dX6_countStep_0 rfl rfl ?_
  refine tz_dup (pc := 1) dX6_countStep_1 rfl ?_
  refine tz_fI (pc := 2) (kz := 8) (v := (J 158 8)) dX6_countStep_2 fl_X6_25 i_158_8 rfl rfl (fun r_2 => ?_)
  refine tz_iconst (pc := 5) dX6_countStep_5 ?_
  refine tz_isub (pc := 6) (v := (J 158 8) - 1) dX6_countStep_6 rfl ?_
  refine tz_pI (pc := 7) (kz := 8) dX6_countStep_7 fl_X6_25 i_158_8 rfl rfl (by omega) ?_
  refine tz_aload_n (pc := 10) dX6_countStep_10 rfl rfl ?_
  refine tz_fR (pc := 11) dX6_countStep_11 fl_X6_28 r_158_0 ?_
  refine tz_fR (pc := 14) dX6_countStep_14 fl_X6_65 r_5_1 ?_
  refine tz_fR (pc := 17) dX6_countStep_17 fl_X6_100 r_18_0 ?_
  refine tz_iconst (pc := 20) dX6_countStep_20 ?_
  refine tz_dup2 (pc := 21) dX6_countStep_21 rfl rfl ?_
  refine tz_aL (pc := 22) (z := 3) (v := (J 19 3)) dX6_countStep_22 a_19 rfl (by decide) rfl (fun r_22 => ?_)
  refine tz_iconst (pc := 23) dX6_countStep_23 ?_
  refine tz_iadd (pc := 24) (v := (J 19 3) + 1) dX6_countStep_24 rfl ?_
  refine tz_tw ?_
  have rw_25 := zw_rg ((J 19 3) + 1)
  refine tz_aS (pc := 25) (z := 3) dX6_countStep_25 a_19 rfl (by decide) (zw_rg _) ?_
  refine tz_aload_n (pc := 26) dX6_countStep_26 rfl rfl ?_
  refine tz_fR (pc := 27) dX6_countStep_27 fl_X6_15 r_158_5 ?_
  refine tz_iload_n (pc := 30) dX6_countStep_30 rfl rfl ?_
  refine tz_iconst (pc := 31) dX6_countStep_31 ?_
  refine tz_aS (pc := 32) (z := f) dX6_countStep_32 a_160 rfl (by omega) (by decide) ?_
  exact tz_vret (pc := 33) dX6_countStep_33 rfl (Nat.le_of_ble_eq_true rfl) (Nat.le_of_ble_eq_true rfl) ⟨Nat.le_refl _, Nat.le_add_right _ _⟩ ⟨rfl, ⟨⟨((GX.rf C hm).off rfl (zOf.up rfl (zOf.up rfl (zOf.up rfl zOf.rf)))), hL.steps (J := zup J 158 8 (J 158 8 - 1)), (hF.step (x := J 158 8 - 1) hf hs).of (Int.le_refl _) (fun _ _ _ => rfl) rfl rfl rfl rfl⟩, zOf.up rfl (zOf.up rfl (zOf.up rfl zOf.rf)), fun k hk => show zup (zup J 158 8 (J 158 8 - 1)) 19 3 (zw (J 19 3 + 1)) 19 k = J 19 k from zup_ne hk, rfl⟩⟩

