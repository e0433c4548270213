/-! ===== variable, make of the reference, exact ===== -/
theorem x_tmA {l : Launch} {G : tb_G} (hl : l.stackTraces = false) (n : Nat) (J : zJ) (h x y w : Int) (hr_h : -2147483648 ≤ h ∧ h < 2147483648) (hr_x : -2147483648 ≤ x ∧ x < 2147483648) (hr_y : -2147483648 ≤ y ∧ y < 2147483648) (hr_w : -2147483648 ≤ w ∧ w < 2147483648) (b r d s m : Int) (hM : MS J b r d s m) (hh : -8 ≤ h ∧ h < s) (h21 : J 164 21 = 0) (hg : (0 < arh (fun k => J 170 (d + k)) h → 0 ≤ x ∧ x < m) ∧ (1 < arh (fun k => J 170 (d + k)) h → 0 ≤ y ∧ y < m) ∧ (2 < arh (fun k => J 170 (d + k)) h → 0 ≤ w ∧ w < m)) : tz_Ok l G M_X12_termOf 2 0 0 [.ref 164, zi h, zi x, zi y, zi w] n J (zqi (fun z J' => tmX J J' b r m (arh (fun k => J 170 (d + k)) h) h x y w z)) zN := by
  have hA := arh_rg hM.2.2.2.2.2.1 hh.2
  by_cases h0 : h < 0
  · have e : arh (fun k => J 170 (d + k)) h = 0 := by unfold arh; rw [if_pos h0]
    rw [e] at hg ⊢
    exact x_tmN hl n J h x y w hr_h hr_x hr_y hr_w b r d s m hM hh h0 h21 hg
  · have e : arh (fun k => J 170 (d + k)) h = J 170 (d + h) := by unfold arh; rw [if_neg h0]
    have hA : 0 ≤ J 170 (d + h) ∧ J 170 (d + h) ≤ 3 := by rw [← e]; exact hA
    rcases (show J 170 (d + h) = 0 ∨ J 170 (d + h) = 1 ∨ J 170 (d + h) = 2 ∨ J 170 (d + h) = 3 by omega) with q | q | q | q
    · rw [e, q] at hg ⊢
      exact x_tm0 hl n J h x y w hr_h hr_x hr_y hr_w b r d s m hM hh ⟨by omega, q⟩ h21 hg
    · rw [e, q] at hg ⊢
      exact x_tm1 hl n J h x y w hr_h hr_x hr_y hr_w b r d s m hM hh ⟨by omega, q⟩ h21 hg
    · rw [e, q] at hg ⊢
      exact x_tm2 hl n J h x y w hr_h hr_x hr_y hr_w b r d s m hM hh ⟨by omega, q⟩ h21 hg
    · rw [e, q] at hg ⊢
      exact x_tm3 hl n J h x y w hr_h hr_x hr_y hr_w b r d s m hM hh ⟨by omega, q⟩ h21 hg
set_option maxHeartbeats 4000000 in
set_option maxRecDepth 100000 in
theorem x_tmF {l : Launch} {G : tb_G} (hl : l.stackTraces = false) (n : Nat) (J : zJ) (h : Int) (x : Int) (y : Int) (w : Int) (hr_h : -2147483648 ≤ h ∧ h < 2147483648) (hr_x : -2147483648 ≤ x ∧ x < 2147483648) (hr_y : -2147483648 ≤ y ∧ y < 2147483648) (hr_w : -2147483648 ≤ w ∧ w < 2147483648)  (hf : ¬ J 164 21 = 0) : tz_Ok l G M_X12_termOf 2 0 0 [.ref 164, zi h, zi x, zi y, zi w] n J (zqi (fun z J' => z = 0 ∧ J = J')) zN := by
  refine tz_Ok.of hl (by decide +kernel) rfl (tb_c1 rfl) (Nat.le_of_ble_eq_true rfl) ?_
  show tz_At l G M_X12_termOf (tb_rm 2 0 0) none (tb_ZM G 0 0 (zQ n 0 (zqi (fun z J' => z = 0 ∧ J = J'))) (zX n 0 zN)) 0 0 n J 0 [some (.ref 164), some (zi h), some (zi x), some (zi y), some (zi w), none, none, none] []
  refine tz_aload_n (pc := 0) dX12_termOf_0 rfl rfl ?_
  refine tz_fI (pc := 1) (kz := 21) (v := (J 164 21)) dX12_termOf_1 fl_X12_92 i_164_21 rfl rfl (fun r_1 => ?_)
  refine tz_if_eqF (pc := 4) (tgt := 9) (by omega) dX12_termOf_4 (by decide) (by omega) ?_
  refine tz_iconst (pc := 7) dX12_termOf_7 ?_
  exact tz_iret (pc := 8) (z := 0) dX12_termOf_8 rfl (Nat.le_of_ble_eq_true rfl) (Nat.le_of_ble_eq_true rfl) ⟨Nat.le_refl _, Nat.le_add_right _ _⟩ ⟨_, rfl, (by decide), ⟨rfl, rfl⟩⟩

/-- the term of a head and arguments: as the function says -/
theorem o_termOf {l : Launch} {G : tb_G} (hl : l.stackTraces = false) (n : Nat) (J : zJ) (h x y w : Int) (hr_h : -2147483648 ≤ h ∧ h < 2147483648) (hr_x : -2147483648 ≤ x ∧ x < 2147483648) (hr_y : -2147483648 ≤ y ∧ y < 2147483648) (hr_w : -2147483648 ≤ w ∧ w < 2147483648) (s m : Int) (hM : MS J 0 0 0 s m) (hs : J 164 9 = s) (hh : -8 ≤ h ∧ h < s) (hg : J 164 21 = 0 → (0 < arh (fun k => J 170 (0 + k)) h → 0 ≤ x ∧ x < m) ∧ (1 < arh (fun k => J 170 (0 + k)) h → 0 ≤ y ∧ y < m) ∧ (2 < arh (fun k => J 170 (0 + k)) h → 0 ≤ w ∧ w < m)) : tz_Ok l G M_X12_termOf 2 0 0 [.ref 164, zi h, zi x, zi y, zi w] n J (zqi (fun z J' => (tb0 J' = (tmO (tb0 J) h x y w).1 ∧ z = (tmO (tb0 J) h x y w).2) ∧ ∃ m', MG [] [] (fun _ => false) J' J 0 0 0 s m m' ∧ (J' 164 21 = 0 → 0 ≤ z ∧ z < m'))) zN := by
  by_cases h21 : J 164 21 = 0
  · exact (x_tmA hl n J h x y w hr_h hr_x hr_y hr_w 0 0 0 s m hM hh h21 (hg h21)).mono (fun r J' _ ⟨z, a, b, t⟩ => ⟨z, a, b, o_tm hM hs rfl hh h21 (hg h21) t, by
      obtain ⟨m', q1, q2⟩ := tmX.mg hM rfl hh h21 (hg h21) t
      exact ⟨m', q1, fun _ => q2⟩⟩) (fun _ _ _ h => h)
  · refine (x_tmF hl n J h x y w hr_h hr_x hr_y hr_w h21).mono (fun r J' _ ⟨z, a, b, c, d⟩ => ⟨z, a, b, ?_, m, by rw [← d]; exact MG.rf hM, fun q => absurd (by rw [d]; exact q) h21⟩) (fun _ _ _ h => h)
    subst d
    unfold tmO
    rw [if_neg (show ¬ tb0 J 164 21 = 0 from h21)]
    exact ⟨rfl, c⟩
theorem MOP.mg {Jo Jb : zJ} {s m m' : Int} (g : MG [] [] (fun _ => false) Jo Jb 0 0 0 s m m') : MOP Jo Jb m := by
  obtain ⟨g1, g2, ⟨f1, f2, f3, f4⟩, g4⟩ := g
  refine ⟨⟨fun k a => f2 k (by omega) rfl, fun k a b => f1.1 k (by omega), fun k a b => f1.2 k (by omega), f3 12 rfl, f3 13 rfl⟩, fun k a => f2 k (by omega) rfl, ⟨f3 9 rfl, f3 10 rfl, f3 11 rfl⟩, fun t a b => ?_, fun k a b => ?_, fun k _ _ => ⟨by rw [f4 169 rfl], by rw [f4 170 rfl], by rw [f4 171 rfl]⟩⟩
  · have := (g2 t a b).1
    rw [Int.zero_add] at this
    exact this
  · have := (g2 (k / 3) (by omega) (by omega)).2 (k % 3) (by omega) (by omega)
    rw [show 3 * (0 + k / 3) + k % 3 = k from by omega] at this
    exact this
theorem tbz_z {J0 J : zJ} (z : MZ J0 J) : zup (tb0 J0) 164 21 0 = zup (tb0 J) 164 21 0 := by
  have e : tb0 (zup J0 164 21 0) = tb0 (zup J 164 21 0) := tb0_of (z.2 9 (by decide) (by decide)) rfl (fun k _ _ => by show J0 165 k = J 165 k; rw [z.1 165 rfl]) (fun k _ _ => ⟨by show J0 166 k = J 166 k; rw [z.1 166 rfl], by show J0 168 k = J 168 k; rw [z.1 168 rfl]⟩) (fun k _ _ => by show J0 167 k = J 167 k; rw [z.1 167 rfl]) (fun k _ _ => ⟨by show J0 169 k = J 169 k; rw [z.1 169 rfl], by show J0 170 k = J 170 k; rw [z.1 170 rfl], by show J0 171 k = J 171 k; rw [z.1 171 rfl]⟩)
  have f : ∀ J : zJ, tb0 (zup J 164 21 0) = zup (tb0 J) 164 21 0 := fun J => by
    funext c k
    by_cases h4 : c = 164
    · subst h4
      show (if k = 9 ∨ k = 21 then (if k = 21 then (0 : Int) else J 164 k) else 0) = if k = 21 then 0 else if k = 9 ∨ k = 21 then J 164 k else 0
      (repeat' split) <;> first | rfl | omega
    · rw [zup_nc h4]
      unfold tb0
      rw [if_neg h4, if_neg h4]
      have e : ∀ d, ¬ d = 164 → zup J 164 21 0 d = J d := fun d q => zup_nc q
      rw [e 165 (by decide), e 167 (by decide), e c h4]
  rw [← f, ← f]
  exact e
/-- the reference's state, as an act takes it up -/
def tbz (J : zJ) : zJ := zup (tb0 J) 164 21 0
theorem MBT.z {J' J : zJ} {m : Int} (h : MI J m) (z : MZ J' J) : MBT J' (tbz J) := by
  have t := h.told
  unfold tbz
  rw [← tbz_z z]
  have b := MBT.tb (J := J') rfl (by show J' 165 0 ≤ 400; rw [z.1 165 rfl]; omega)
  exact b
theorem MUr.z {J' J : zJ} {n : Int} {R : Int → Int → Int} (u : MUr J n R) (z : MZ J' J) : MUr J' n R := u.of (z.2 10 (by decide) (by decide)) (z.2 11 (by decide) (by decide)) (fun k _ => by rw [z.1 165 rfl])
theorem mbeg {J0 Jb J : zJ} {m pn : Int} {RR : Int → Int → Int} (hI : MI J m) (z : MZ J0 J) (hj : zbg J0 = Jb) (u : MUr J pn RR) : (tb0 Jb = tbz J ∧ tbz J 165 0 = m ∧ m ≤ 400 ∧ ∀ q, 0 ≤ q → q < 63 → Jb 165 (63 + q) = tbz J 165 q) ∧ MUr Jb pn RR ∧ (0 ≤ pn ∧ pn ≤ 40) ∧ (0 ≤ Jb 164 11 ∧ Jb 164 11 < 40) ∧ MFI Jb J := by
  have t := hI.told
  have e5 : J0 165 = J 165 := z.1 165 rfl
  have e11 : Jb 164 11 = J 164 11 := by rw [← hj, zbg_f (by decide) (by decide) (by decide)]; exact z.2 11 (by decide) (by decide)
  refine ⟨⟨by rw [← hj, tb0_bg]; exact tbz_z z, t.2.2.1, t.2.1.2, fun q a b => ?_⟩, u.of ?_ e11 (fun k a => ?_), by rw [← u.1]; exact t.2.2.2.2.1.1, by rw [e11]; exact t.2.2.2.2.1.2, by rw [← hj]; exact (MFI.z z).tr MFI.bg⟩
  · rw [← hj, zbg_a ⟨a, b⟩, e5]
    show _ = if 0 ≤ q ∧ q < 63 then J 165 q else 0
    rw [if_pos ⟨a, b⟩]
  · rw [← hj, zbg_f (by decide) (by decide) (by decide)]; exact z.2 10 (by decide) (by decide)
  · rw [← hj, zbg_r (by omega), e5]
theorem AE {S J' Jb J : zJ} {F : zJ × Int} {n z : Int} {R : Int → Int → Int} {P Q : Prop} (q : MQr J' J) (b : MFI Jb J) (e : MED S n R F J' z ∧ MFI J' Jb) (p : P) : MQr J' J ∧ MFI J' J ∧ ((P ∧ MED S n R F J' z) ∨ Q) := ⟨q, b.tr e.2, Or.inl ⟨p, e.1⟩⟩
set_option maxHeartbeats 4000000 in
set_option maxRecDepth 100000 in
theorem o_varTerm {l : Launch} {G : tb_G} (hl : l.stackTraces = false) (n : Nat) (J : zJ) (v : Int) (hr_v : -2147483648 ≤ v ∧ v < 2147483648) (s m : Int) (hM : MS J 0 0 0 s m) (hs : J 164 9 = s) (hv : 0 ≤ v ∧ v < 8) : tz_Ok l G M_X12_variableTerm 3 0 0 [.ref 164, zi v] n J (zqi (fun z J' => (tb0 J' = (tmO (tb0 J) (-1 - v) 0 0 0).1 ∧ z = (tmO (tb0 J) (-1 - v) 0 0 0).2) ∧ ∃ m', MG [] [] (fun _ => false) J' J 0 0 0 s m m' ∧ (J' 164 21 = 0 → 0 ≤ z ∧ z < m'))) zN := by
  refine tz_Ok.of hl (by decide +kernel) rfl (tb_c1 rfl) (Nat.le_of_ble_eq_true rfl) ?_
  show tz_At l G M_X12_variableTerm (tb_rm 3 0 0) none (tb_ZM G 0 0 (zQ n 0 (zqi (fun z J' => (tb0 J' = (tmO (tb0 J) (-1 - v) 0 0 0).1 ∧ z = (tmO (tb0 J) (-1 - v) 0 0 0).2) ∧ ∃ m', MG [] [] (fun _ => false) J' J 0 0 0 s m m' ∧ (J' 164 21 = 0 → 0 ≤ z ∧ z < m')))) (zX n 0 zN)) 0 0 n J 0 [some (.ref 164), some (zi v)] []
  have hT := hM.told
  refine tz_aload_n (pc := 0) dX12_variableTerm_0 rfl rfl ?_
  refine tz_iconst (pc := 1) dX12_variableTerm_1 ?_
  refine tz_iload_n (pc := 2) dX12_variableTerm_2 rfl rfl ?_
  refine tz_isub (pc := 3) (v := (-1) - v) dX12_variableTerm_3 rfl ?_
  refine tz_iconst (pc := 4) dX12_variableTerm_4 ?_
  refine tz_iconst (pc := 5) dX12_variableTerm_5 ?_
  refine tz_iconst (pc := 6) dX12_variableTerm_6 ?_
  refine tz_cV (pc := 7) (o_termOf hl n _ _ _ _ _ (by omega) (by decide) (by decide) (by decide) s m hM hs (by omega) (fun _ => by rw [show arh (fun k => J 170 (0 + k)) (-1 - v) = 0 from by unfold arh; rw [if_pos (by omega)]]; exact ⟨fun q => by omega, fun q => by omega, fun q => by omega⟩)) vl_X12_107 dX12_variableTerm_7 o_164 rfl rfl (Nat.le_of_ble_eq_true rfl) ⟨(Nat.le_of_ble_eq_true rfl), (Nat.le_of_ble_eq_true rfl)⟩ rfl rfl (Nat.le_of_ble_eq_true rfl) (Nat.le_of_ble_eq_true rfl) (fun r9 J_7 hq9 => ?_)
  obtain ⟨z_7, rfl, hz_7, e9, m9, g9, h9⟩ := hq9
  exact tz_iret (pc := 10) (z := z_7) dX12_variableTerm_10 rfl (Nat.le_of_ble_eq_true rfl) (Nat.le_of_ble_eq_true rfl) ⟨Nat.le_refl _, Nat.le_add_right _ _⟩ ⟨_, rfl, (by omega), ⟨e9, m9, g9, h9⟩⟩

set_option maxHeartbeats 4000000 in
set_option maxRecDepth 100000 in
theorem v_qvariable {l : Launch} {G : tb_G} (hl : l.stackTraces = false) (n : Nat) (J : zJ) (x : Int) (hr_x : -2147483648 ≤ x ∧ x < 2147483648) (m : Int) (pn : Int) (RR : Int → Int → Int) (hI : MI J m) (u9 : MUr J pn RR) : tz_Ok l G M_X12_variable 4 0 0 [.ref 164, zi x] n J (zqi (fun z J' => MQr J' J ∧ MFI J' J ∧ (((0 ≤ x ∧ x < 8) ∧ MED (tbz J) pn RR (tmO (tbz J) (-1 - x) 0 0 0) J' z) ∨ (¬ (0 ≤ x ∧ x < 8) ∧ z = -1 ∧ MBT J' (tbz J) ∧ MUr J' pn RR)))) zN := by
  refine tz_Ok.of hl (by decide +kernel) rfl (tb_c1 rfl) (Nat.le_of_ble_eq_true rfl) ?_
  show tz_At l G M_X12_variable (tb_rm 4 0 0) none (tb_ZM G 0 0 (zQ n 0 (zqi (fun z J' => MQr J' J ∧ MFI J' J ∧ (((0 ≤ x ∧ x < 8) ∧ MED (tbz J) pn RR (tmO (tbz J) (-1 - x) 0 0 0) J' z) ∨ (¬ (0 ≤ x ∧ x < 8) ∧ z = -1 ∧ MBT J' (tbz J) ∧ MUr J' pn RR))))) (zX n 0 zN)) 0 0 n J 0 [some (.ref 164), some (zi x)] []
  have hT := hI.told
  have hW := hI.row
  have hM := hI.1
  have hL := hI.2.1
  refine tz_aload_n (pc := 0) dX12_variable_0 rfl rfl ?_
  refine tz_iconst (pc := 1) dX12_variable_1 ?_
  refine tz_pI (pc := 2) (kz := 8) dX12_variable_2 fl_X12_68 i_164_8 rfl rfl (by decide) ?_
  refine tz_iload_n (pc := 5) dX12_variable_5 rfl rfl ?_
  refine tz_iconst (pc := 6) dX12_variable_6 ?_
  refine tz_bipush (pc := 7) dX12_variable_7 (by decide) ?_
  refine tz_cS (pc := 9) (m_within hl n _ _ _ _ (by omega) (by decide) (by decide)) sl_X12_283 dX12_variable_9 rfl rfl (Nat.le_of_ble_eq_true rfl) ⟨(Nat.le_of_ble_eq_true rfl), (Nat.le_of_ble_eq_true rfl)⟩ rfl rfl (Nat.le_of_ble_eq_true rfl) (Nat.le_of_ble_eq_true rfl) (fun r9 J_9 hq9 => ?_)
  obtain ⟨z_9, rfl, hz_9, rfl, hw_9⟩ := hq9
  refine tz_if_ne (pc := 12) (tgt := 22) dX12_variable_12 (by decide) (by omega) (fun h_12 => ?_) (fun h_12 => ?_)
  · refine tz_aload_n (pc := 22) dX12_variable_22 rfl rfl ?_
    refine tz_cV (pc := 23) (m_begins hl n _) vl_X12_400 dX12_variable_23 o_164 rfl rfl (Nat.le_of_ble_eq_true rfl) ⟨(Nat.le_of_ble_eq_true rfl), (Nat.le_of_ble_eq_true rfl)⟩ rfl rfl (Nat.le_of_ble_eq_true rfl) (Nat.le_of_ble_eq_true rfl) (fun r9 J_23 hq9 => ?_)
    obtain ⟨rfl, hj_23⟩ := hq9
    have a_23 : AM J_23 J m m := by rw [← hj_23]; exact AM.begin (hI.z (MZ.up (k := 8) MZ.rf (by decide))) ⟨MZ.lo (MZ.up (k := 8) MZ.rf (by decide)), SC.z (MZ.up (k := 8) MZ.rf (by decide))⟩
    have br_23 : ∀ k, (k < 63 ∨ 126 ≤ k) → J_23 165 k = ((zup J 164 8 0) : zJ) 165 k := fun k hk => by rw [← hj_23]; exact zbg_r hk
    have bl_23 : ∀ k, ¬ k = 34 → ¬ k = 33 → ¬ k = 21 → J_23 164 k = ((zup J 164 8 0) : zJ) 164 k := fun k u v w => by rw [← hj_23]; exact zbg_f u v w
    have bo_23 : zOf (zbut [164, 165]) J_23 (zup J 164 8 0) := by rw [← hj_23]; exact zbg_of
    have b3_23 : J_23 164 21 = 0 ∧ J_23 164 33 = 0 ∧ J_23 164 34 = 0 := by rw [← hj_23]; exact ⟨rfl, rfl, rfl⟩
    have s9_23 : J_23 164 9 = J 164 9 := (bl_23 9 (by decide) (by decide) (by decide)).trans ((MZ.up (k := 8) MZ.rf (by decide)).2 9 (by decide) (by decide))
    obtain ⟨⟨bt_23, bs_23, bm_23, ba_23⟩, bu_23, bn_23, bf_23, bi_23⟩ := mbeg hI (MZ.up (k := 8) MZ.rf (by decide)) hj_23 u9
    refine tz_aload_n (pc := 26) dX12_variable_26 rfl rfl ?_
    refine tz_aload_n (pc := 27) dX12_variable_27 rfl rfl ?_
    refine tz_iload_n (pc := 28) dX12_variable_28 rfl rfl ?_
    refine tz_cV (pc := 29) (o_varTerm hl n _ _ (by omega) (J_23 164 9) m (a_23).1.1 rfl (by omega)) vl_X12_180 dX12_variable_29 o_164 rfl rfl (Nat.le_of_ble_eq_true rfl) ⟨(Nat.le_of_ble_eq_true rfl), (Nat.le_of_ble_eq_true rfl)⟩ rfl rfl (Nat.le_of_ble_eq_true rfl) (Nat.le_of_ble_eq_true rfl) (fun r9 J_29 hq9 => ?_)
    obtain ⟨z_29, rfl, hz_29, e_29, m_29, g_29, h_29⟩ := hq9
    have a_29 := AM.grow0 a_23 g_29 (fun c hc => by simp at hc) (fun k x y => by simp; omega) rfl
    have lm_29 := a_29.1.2.2
    rw [bt_23] at e_29
    refine tz_cV (pc := 32) (m_keeps hl n _ _ (by omega) (a_29).2.2.2.1.1.1 (a_29).2.2.2.1.1.2) vl_X12_403 dX12_variable_32 o_164 rfl rfl (Nat.le_of_ble_eq_true rfl) ⟨(Nat.le_of_ble_eq_true rfl), (Nat.le_of_ble_eq_true rfl)⟩ rfl rfl (Nat.le_of_ble_eq_true rfl) (Nat.le_of_ble_eq_true rfl) (fun r9 J_32 hq9 => ?_)
    obtain ⟨z_32, rfl, hz_32, k_32⟩ := hq9
    exact tz_iret (pc := 35) (z := z_32) dX12_variable_35 rfl (Nat.le_of_ble_eq_true rfl) (Nat.le_of_ble_eq_true rfl) ⟨Nat.le_refl _, Nat.le_add_right _ _⟩ ⟨_, rfl, (by omega), (AE (AM.keep a_29 k_32) bi_23 (mact_end bt_23 bs_23 bm_23 ba_23 bu_23 bn_23 bf_23 (MOP.mg g_29) e_29.1 (by rw [← e_29.1]; show J_29 165 0 ≤ 400; have t9 := g_29.1.1.told; have s9 := g_29.1.1.2.2.2.2.1; omega) (fun _ => e_29.2) k_32) (by omega))⟩
  · refine tz_aload_n (pc := 15) dX12_variable_15 rfl rfl ?_
    refine tz_iconst (pc := 16) dX12_variable_16 ?_
    refine tz_iconst (pc := 17) dX12_variable_17 ?_
    refine tz_cV (pc := 18) (m_refuses hl n _ _ _ (by decide) (by decide) (by decide)) vl_X12_391 dX12_variable_18 o_164 rfl rfl (Nat.le_of_ble_eq_true rfl) ⟨(Nat.le_of_ble_eq_true rfl), (Nat.le_of_ble_eq_true rfl)⟩ rfl rfl (Nat.le_of_ble_eq_true rfl) (Nat.le_of_ble_eq_true rfl) (fun r9 J_18 hq9 => ?_)
    obtain ⟨z_18, rfl, hz_18, rfl, f_18⟩ := hq9
    have y_18 : MZ J_18 J := MZ.tr (MZ.up (k := 8) MZ.rf (by decide)) (MZ.c f_18 (by decide))
    exact tz_iret (pc := 21) (z := (-1)) dX12_variable_21 rfl (Nat.le_of_ble_eq_true rfl) (Nat.le_of_ble_eq_true rfl) ⟨Nat.le_refl _, Nat.le_add_right _ _⟩ ⟨_, rfl, (by decide), ⟨MQr.z hI y_18, MFI.z y_18, Or.inr ⟨by omega, rfl, MBT.z hI y_18, u9.z y_18⟩⟩⟩

set_option maxHeartbeats 4000000 in
set_option maxRecDepth 100000 in
theorem v_qmake {l : Launch} {G : tb_G} (hl : l.stackTraces = false) (n : Nat) (J : zJ) (x : Int) (y : Int) (v : Int) (w : Int) (hr_x : -2147483648 ≤ x ∧ x < 2147483648) (hr_y : -2147483648 ≤ y ∧ y < 2147483648) (hr_v : -2147483648 ≤ v ∧ v < 2147483648) (hr_w : -2147483648 ≤ w ∧ w < 2147483648) (m : Int) (pn : Int) (RR : Int → Int → Int) (hI : MI J m) (u9 : MUr J pn RR) : tz_Ok l G M_X12_make 3 0 0 [.ref 164, zi x, zi y, zi v, zi w] n J (zqi (fun z J' => MQr J' J ∧ MFI J' J ∧ ((((0 ≤ x ∧ x < J 164 9) ∧ (0 < J 170 x → 0 ≤ y ∧ y < J 165 0) ∧ (1 < J 170 x → 0 ≤ v ∧ v < J 165 0) ∧ (2 < J 170 x → 0 ≤ w ∧ w < J 165 0)) ∧ MED (tbz J) pn RR (tmO (tbz J) x y v w) J' z) ∨ (¬ ((0 ≤ x ∧ x < J 164 9) ∧ (0 < J 170 x → 0 ≤ y ∧ y < J 165 0) ∧ (1 < J 170 x → 0 ≤ v ∧ v < J 165 0) ∧ (2 < J 170 x → 0 ≤ w ∧ w < J 165 0)) ∧ z = -1 ∧ MBT J' (tbz J) ∧ MUr J' pn RR)))) zN := by
  refine tz_Ok.of hl (by decide +kernel) rfl (tb_c1 rfl) (Nat.le_of_ble_eq_true rfl) ?_
  show tz_At l G M_X12_make (tb_rm 3 0 0) none (tb_ZM G 0 0 (zQ n 0 (zqi (fun z J' => MQr J' J ∧ MFI J' J ∧ ((((0 ≤ x ∧ x < J 164 9) ∧ (0 < J 170 x → 0 ≤ y ∧ y < J 165 0) ∧ (1 < J 170 x → 0 ≤ v ∧ v < J 165 0) ∧ (2 < J 170 x → 0 ≤ w ∧ w < J 165 0)) ∧ MED (tbz J) pn RR (tmO (tbz J) x y v w) J' z) ∨ (¬ ((0 ≤ x ∧ x < J 164 9) ∧ (0 < J 170 x → 0 ≤ y ∧ y < J 165 0) ∧ (1 < J 170 x → 0 ≤ v ∧ v < J 165 0) ∧ (2 < J 170 x → 0 ≤ w ∧ w < J 165 0)) ∧ z = -1 ∧ MBT J' (tbz J) ∧ MUr J' pn RR))))) (zX n 0 zN)) 0 0 n J 0 [some (.ref 164), some (zi x), some (zi y), some (zi v), some (zi w), none] []
  have hT := hI.told
  have hW := hI.row
  have hM := hI.1
  have hL := hI.2.1
  refine tz_aload_n (pc := 0) dX12_make_0 rfl rfl ?_
  refine tz_iconst (pc := 1) dX12_make_1 ?_
  refine tz_pI (pc := 2) (kz := 8) dX12_make_2 fl_X12_68 i_164_8 rfl rfl (by decide) ?_
  refine tz_aload_n (pc := 5) dX12_make_5 rfl rfl ?_
  refine tz_iload_n (pc := 6) dX12_make_6 rfl rfl ?_
  refine tz_cV (pc := 7) (m_isSym hl n _ _ (by omega) (by rw [(show ((zup J 164 8 0) : zJ) 164 9 = (J 164 9) from rfl)]; omega)) vl_X12_369 dX12_make_7 o_164 rfl rfl (Nat.le_of_ble_eq_true rfl) ⟨(Nat.le_of_ble_eq_true rfl), (Nat.le_of_ble_eq_true rfl)⟩ rfl rfl (Nat.le_of_ble_eq_true rfl) (Nat.le_of_ble_eq_true rfl) (fun r9 J_7 hq9 => ?_)
  obtain ⟨z_7, rfl, hz_7, rfl, ht_7⟩ := hq9
  rw [(show ((zup J 164 8 0) : zJ) 164 9 = (J 164 9) from rfl)] at ht_7
  refine tz_if_eq (pc := 10) (tgt := 22) dX12_make_10 (by decide) (by omega) (fun h_10 => ?_) (fun h_10 => ?_)
  · refine tz_iconst (pc := 22) dX12_make_22 ?_
    refine tz_istore (pc := 23) (L2 := [_, _, _, _, _, _]) dX12_make_23 (by decide) rfl ?_
    refine tz_aload_n (pc := 25) dX12_make_25 rfl rfl ?_
    refine tz_iload_n (pc := 26) dX12_make_26 rfl rfl ?_
    refine tz_cV (pc := 27) (m_isSym hl n _ _ (by omega) (by rw [(show ((zup J 164 8 0) : zJ) 164 9 = (J 164 9) from rfl)]; omega)) vl_X12_369 dX12_make_27 o_164 rfl rfl (Nat.le_of_ble_eq_true rfl) ⟨(Nat.le_of_ble_eq_true rfl), (Nat.le_of_ble_eq_true rfl)⟩ rfl rfl (Nat.le_of_ble_eq_true rfl) (Nat.le_of_ble_eq_true rfl) (fun r9 J_27 hq9 => ?_)
    obtain ⟨z_27, rfl, hz_27, rfl, ht_27⟩ := hq9
    rw [(show ((zup J 164 8 0) : zJ) 164 9 = (J 164 9) from rfl)] at ht_27
    refine tz_if_eq (pc := 30) (tgt := 75) dX12_make_30 (by decide) (by omega) (fun h_30 => ?_) (fun h_30 => ?_)
    · refine tz_aload_n (pc := 75) dX12_make_75 rfl rfl ?_
      refine tz_iconst (pc := 76) dX12_make_76 ?_
      refine tz_iconst (pc := 77) dX12_make_77 ?_
      refine tz_cV (pc := 78) (m_refuses hl n _ _ _ (by decide) (by decide) (by decide)) vl_X12_391 dX12_make_78 o_164 rfl rfl (Nat.le_of_ble_eq_true rfl) ⟨(Nat.le_of_ble_eq_true rfl), (Nat.le_of_ble_eq_true rfl)⟩ rfl rfl (Nat.le_of_ble_eq_true rfl) (Nat.le_of_ble_eq_true rfl) (fun r9 J_78 hq9 => ?_)
      obtain ⟨z_78, rfl, hz_78, rfl, f_78⟩ := hq9
      have y_78 : MZ J_78 J := MZ.tr (MZ.up (k := 8) MZ.rf (by decide)) (MZ.c f_78 (by decide))
      exact tz_iret (pc := 81) (z := (-1)) dX12_make_81 rfl (Nat.le_of_ble_eq_true rfl) (Nat.le_of_ble_eq_true rfl) ⟨Nat.le_refl _, Nat.le_add_right _ _⟩ ⟨_, rfl, (by decide), ⟨MQr.z hI y_78, MFI.z y_78, Or.inr ⟨by omega, rfl, MBT.z hI y_78, u9.z y_78⟩⟩⟩
    · refine tz_iload (pc := 33) dX12_make_33 rfl ?_
      refine tz_if_leT (pc := 35) (tgt := 46) (by decide) dX12_make_35 (by decide) (by decide) ?_
      refine tz_iload (pc := 46) dX12_make_46 rfl ?_
      refine tz_iconst (pc := 48) dX12_make_48 ?_
      refine tz_icmp_leT (pc := 49) (tgt := 60) (by decide) dX12_make_49 (by decide) (by decide) (by decide) ?_
      refine tz_iload (pc := 60) dX12_make_60 rfl ?_
      refine tz_iconst (pc := 62) dX12_make_62 ?_
      refine tz_icmp_leT (pc := 63) (tgt := 82) (by decide) dX12_make_63 (by decide) (by decide) (by decide) ?_
      refine tz_aload_n (pc := 82) dX12_make_82 rfl rfl ?_
      refine tz_cV (pc := 83) (m_begins hl n _) vl_X12_400 dX12_make_83 o_164 rfl rfl (Nat.le_of_ble_eq_true rfl) ⟨(Nat.le_of_ble_eq_true rfl), (Nat.le_of_ble_eq_true rfl)⟩ rfl rfl (Nat.le_of_ble_eq_true rfl) (Nat.le_of_ble_eq_true rfl) (fun r9 J_83 hq9 => ?_)
      obtain ⟨rfl, hj_83⟩ := hq9
      have a_83 : AM J_83 J m m := by rw [← hj_83]; exact AM.begin (hI.z (MZ.up (k := 8) MZ.rf (by decide))) ⟨MZ.lo (MZ.up (k := 8) MZ.rf (by decide)), SC.z (MZ.up (k := 8) MZ.rf (by decide))⟩
      have br_83 : ∀ k, (k < 63 ∨ 126 ≤ k) → J_83 165 k = ((zup J 164 8 0) : zJ) 165 k := fun k hk => by rw [← hj_83]; exact zbg_r hk
      have bl_83 : ∀ k, ¬ k = 34 → ¬ k = 33 → ¬ k = 21 → J_83 164 k = ((zup J 164 8 0) : zJ) 164 k := fun k u v w => by rw [← hj_83]; exact zbg_f u v w
      have bo_83 : zOf (zbut [164, 165]) J_83 (zup J 164 8 0) := by rw [← hj_83]; exact zbg_of
      have b3_83 : J_83 164 21 = 0 ∧ J_83 164 33 = 0 ∧ J_83 164 34 = 0 := by rw [← hj_83]; exact ⟨rfl, rfl, rfl⟩
      have s9_83 : J_83 164 9 = J 164 9 := (bl_83 9 (by decide) (by decide) (by decide)).trans ((MZ.up (k := 8) MZ.rf (by decide)).2 9 (by decide) (by decide))
      obtain ⟨⟨bt_83, bs_83, bm_83, ba_83⟩, bu_83, bn_83, bf_83, bi_83⟩ := mbeg hI (MZ.up (k := 8) MZ.rf (by decide)) hj_83 u9
      refine tz_aload_n (pc := 86) dX12_make_86 rfl rfl ?_
      refine tz_aload_n (pc := 87) dX12_make_87 rfl rfl ?_
      refine tz_iload_n (pc := 88) dX12_make_88 rfl rfl ?_
      refine tz_iload_n (pc := 89) dX12_make_89 rfl rfl ?_
      refine tz_iload_n (pc := 90) dX12_make_90 rfl rfl ?_
      refine tz_iload (pc := 91) dX12_make_91 rfl ?_
      have ea_83 : J_83 170 = J 170 := (bo_83 170 rfl)
      refine tz_cV (pc := 93) (o_termOf hl n _ _ _ _ _ (by omega) (by omega) (by omega) (by omega) (J_83 164 9) m (a_83).1.1 rfl (by omega) (fun _ => by rw [arh_pos (by omega)]; simp only [Int.zero_add, ea_83]; omega)) vl_X12_107 dX12_make_93 o_164 rfl rfl (Nat.le_of_ble_eq_true rfl) ⟨(Nat.le_of_ble_eq_true rfl), (Nat.le_of_ble_eq_true rfl)⟩ rfl rfl (Nat.le_of_ble_eq_true rfl) (Nat.le_of_ble_eq_true rfl) (fun r9 J_93 hq9 => ?_)
      obtain ⟨z_93, rfl, hz_93, e_93, m_93, g_93, h_93⟩ := hq9
      have a_93 := AM.grow0 a_83 g_93 (fun c hc => by simp at hc) (fun k x y => by simp; omega) rfl
      have lm_93 := a_93.1.2.2
      rw [bt_83] at e_93
      refine tz_cV (pc := 96) (m_keeps hl n _ _ (by omega) (a_93).2.2.2.1.1.1 (a_93).2.2.2.1.1.2) vl_X12_403 dX12_make_96 o_164 rfl rfl (Nat.le_of_ble_eq_true rfl) ⟨(Nat.le_of_ble_eq_true rfl), (Nat.le_of_ble_eq_true rfl)⟩ rfl rfl (Nat.le_of_ble_eq_true rfl) (Nat.le_of_ble_eq_true rfl) (fun r9 J_96 hq9 => ?_)
      obtain ⟨z_96, rfl, hz_96, k_96⟩ := hq9
      exact tz_iret (pc := 99) (z := z_96) dX12_make_99 rfl (Nat.le_of_ble_eq_true rfl) (Nat.le_of_ble_eq_true rfl) ⟨Nat.le_refl _, Nat.le_add_right _ _⟩ ⟨_, rfl, (by omega), (AE (AM.keep a_93 k_96) bi_83 (mact_end bt_83 bs_83 bm_83 ba_83 bu_83 bn_83 bf_83 (MOP.mg g_93) e_93.1 (by rw [← e_93.1]; show J_93 165 0 ≤ 400; have t9 := g_93.1.1.told; have s9 := g_93.1.1.2.2.2.2.1; omega) (fun _ => e_93.2) k_96) (by omega))⟩
  · refine tz_aload_n (pc := 13) dX12_make_13 rfl rfl ?_
    refine tz_fR (pc := 14) dX12_make_14 fl_X12_25 r_164_5 ?_
    refine tz_iload_n (pc := 17) dX12_make_17 rfl rfl ?_
    refine tz_aL (pc := 18) (z := x) (v := (J 170 x)) dX12_make_18 a_170 rfl (by omega) rfl (fun r_18 => ?_)
    refine tz_goto (pc := 19) (tgt := 23) dX12_make_19 (by decide) ?_
    refine tz_istore (pc := 23) (L2 := [_, _, _, _, _, _]) dX12_make_23 (by decide) rfl ?_
    refine tz_aload_n (pc := 25) dX12_make_25 rfl rfl ?_
    refine tz_iload_n (pc := 26) dX12_make_26 rfl rfl ?_
    refine tz_cV (pc := 27) (m_isSym hl n _ _ (by omega) (by rw [(show ((zup J 164 8 0) : zJ) 164 9 = (J 164 9) from rfl)]; omega)) vl_X12_369 dX12_make_27 o_164 rfl rfl (Nat.le_of_ble_eq_true rfl) ⟨(Nat.le_of_ble_eq_true rfl), (Nat.le_of_ble_eq_true rfl)⟩ rfl rfl (Nat.le_of_ble_eq_true rfl) (Nat.le_of_ble_eq_true rfl) (fun r9 J_27 hq9 => ?_)
    obtain ⟨z_27, rfl, hz_27, rfl, ht_27⟩ := hq9
    rw [(show ((zup J 164 8 0) : zJ) 164 9 = (J 164 9) from rfl)] at ht_27
    refine tz_if_eq (pc := 30) (tgt := 75) dX12_make_30 (by decide) (by omega) (fun h_30 => ?_) (fun h_30 => ?_)
    · refine tz_aload_n (pc := 75) dX12_make_75 rfl rfl ?_
      refine tz_iconst (pc := 76) dX12_make_76 ?_
      refine tz_iconst (pc := 77) dX12_make_77 ?_
      refine tz_cV (pc := 78) (m_refuses hl n _ _ _ (by decide) (by decide) (by decide)) vl_X12_391 dX12_make_78 o_164 rfl rfl (Nat.le_of_ble_eq_true rfl) ⟨(Nat.le_of_ble_eq_true rfl), (Nat.le_of_ble_eq_true rfl)⟩ rfl rfl (Nat.le_of_ble_eq_true rfl) (Nat.le_of_ble_eq_true rfl) (fun r9 J_78 hq9 => ?_)
      obtain ⟨z_78, rfl, hz_78, rfl, f_78⟩ := hq9
      have y_78 : MZ J_78 J := MZ.tr (MZ.up (k := 8) MZ.rf (by decide)) (MZ.c f_78 (by decide))
      exact tz_iret (pc := 81) (z := (-1)) dX12_make_81 rfl (Nat.le_of_ble_eq_true rfl) (Nat.le_of_ble_eq_true rfl) ⟨Nat.le_refl _, Nat.le_add_right _ _⟩ ⟨_, rfl, (by decide), ⟨MQr.z hI y_78, MFI.z y_78, Or.inr ⟨by omega, rfl, MBT.z hI y_78, u9.z y_78⟩⟩⟩
    · refine tz_iload (pc := 33) dX12_make_33 rfl ?_
      refine tz_if_le (pc := 35) (tgt := 46) dX12_make_35 (by decide) (by omega) (fun h_35 => ?_) (fun h_35 => ?_)
      · refine tz_iload (pc := 46) dX12_make_46 rfl ?_
        refine tz_iconst (pc := 48) dX12_make_48 ?_
        refine tz_icmp_le (pc := 49) (tgt := 60) dX12_make_49 (by decide) (by omega) (by decide) (fun h_49 => ?_) (fun h_49 => ?_)
        · refine tz_iload (pc := 60) dX12_make_60 rfl ?_
          refine tz_iconst (pc := 62) dX12_make_62 ?_
          refine tz_icmp_le (pc := 63) (tgt := 82) dX12_make_63 (by decide) (by omega) (by decide) (fun h_63 => ?_) (fun h_63 => ?_)
          · refine tz_aload_n (pc := 82) dX12_make_82 rfl rfl ?_
            refine tz_cV (pc := 83) (m_begins hl n _) vl_X12_400 dX12_make_83 o_164 rfl rfl (Nat.le_of_ble_eq_true rfl) ⟨(Nat.le_of_ble_eq_true rfl), (Nat.le_of_ble_eq_true rfl)⟩ rfl rfl (Nat.le_of_ble_eq_true rfl) (Nat.le_of_ble_eq_true rfl) (fun r9 J_83 hq9 => ?_)
            obtain ⟨rfl, hj_83⟩ := hq9
            have a_83 : AM J_83 J m m := by rw [← hj_83]; exact AM.begin (hI.z (MZ.up (k := 8) MZ.rf (by decide))) ⟨MZ.lo (MZ.up (k := 8) MZ.rf (by decide)), SC.z (MZ.up (k := 8) MZ.rf (by decide))⟩
            have br_83 : ∀ k, (k < 63 ∨ 126 ≤ k) → J_83 165 k = ((zup J 164 8 0) : zJ) 165 k := fun k hk => by rw [← hj_83]; exact zbg_r hk
            have bl_83 : ∀ k, ¬ k = 34 → ¬ k = 33 → ¬ k = 21 → J_83 164 k = ((zup J 164 8 0) : zJ) 164 k := fun k u v w => by rw [← hj_83]; exact zbg_f u v w
            have bo_83 : zOf (zbut [164, 165]) J_83 (zup J 164 8 0) := by rw [← hj_83]; exact zbg_of
            have b3_83 : J_83 164 21 = 0 ∧ J_83 164 33 = 0 ∧ J_83 164 34 = 0 := by rw [← hj_83]; exact ⟨rfl, rfl, rfl⟩
            have s9_83 : J_83 164 9 = J 164 9 := (bl_83 9 (by decide) (by decide) (by decide)).trans ((MZ.up (k := 8) MZ.rf (by decide)).2 9 (by decide) (by decide))
            obtain ⟨⟨bt_83, bs_83, bm_83, ba_83⟩, bu_83, bn_83, bf_83, bi_83⟩ := mbeg hI (MZ.up (k := 8) MZ.rf (by decide)) hj_83 u9
            refine tz_aload_n (pc := 86) dX12_make_86 rfl rfl ?_
            refine tz_aload_n (pc := 87) dX12_make_87 rfl rfl ?_
            refine tz_iload_n (pc := 88) dX12_make_88 rfl rfl ?_
            refine tz_iload_n (pc := 89) dX12_make_89 rfl rfl ?_
            refine tz_iload_n (pc := 90) dX12_make_90 rfl rfl ?_
            refine tz_iload (pc := 91) dX12_make_91 rfl ?_
            have ea_83 : J_83 170 = J 170 := (bo_83 170 rfl)
            refine tz_cV (pc := 93) (o_termOf hl n _ _ _ _ _ (by omega) (by omega) (by omega) (by omega) (J_83 164 9) m (a_83).1.1 rfl (by omega) (fun _ => by rw [arh_pos (by omega)]; simp only [Int.zero_add, ea_83]; omega)) vl_X12_107 dX12_make_93 o_164 rfl rfl (Nat.le_of_ble_eq_true rfl) ⟨(Nat.le_of_ble_eq_true rfl), (Nat.le_of_ble_eq_true rfl)⟩ rfl rfl (Nat.le_of_ble_eq_true rfl) (Nat.le_of_ble_eq_true rfl) (fun r9 J_93 hq9 => ?_)
            obtain ⟨z_93, rfl, hz_93, e_93, m_93, g_93, h_93⟩ := hq9
            have a_93 := AM.grow0 a_83 g_93 (fun c hc => by simp at hc) (fun k x y => by simp; omega) rfl
            have lm_93 := a_93.1.2.2
            rw [bt_83] at e_93
            refine tz_cV (pc := 96) (m_keeps hl n _ _ (by omega) (a_93).2.2.2.1.1.1 (a_93).2.2.2.1.1.2) vl_X12_403 dX12_make_96 o_164 rfl rfl (Nat.le_of_ble_eq_true rfl) ⟨(Nat.le_of_ble_eq_true rfl), (Nat.le_of_ble_eq_true rfl)⟩ rfl rfl (Nat.le_of_ble_eq_true rfl) (Nat.le_of_ble_eq_true rfl) (fun r9 J_96 hq9 => ?_)
            obtain ⟨z_96, rfl, hz_96, k_96⟩ := hq9
            exact tz_iret (pc := 99) (z := z_96) dX12_make_99 rfl (Nat.le_of_ble_eq_true rfl) (Nat.le_of_ble_eq_true rfl) ⟨Nat.le_refl _, Nat.le_add_right _ _⟩ ⟨_, rfl, (by omega), (AE (AM.keep a_93 k_96) bi_83 (mact_end bt_83 bs_83 bm_83 ba_83 bu_83 bn_83 bf_83 (MOP.mg g_93) e_93.1 (by rw [← e_93.1]; show J_93 165 0 ≤ 400; have t9 := g_93.1.1.told; have s9 := g_93.1.1.2.2.2.2.1; omega) (fun _ => e_93.2) k_96) (by omega))⟩
          · refine tz_aload_n (pc := 66) dX12_make_66 rfl rfl ?_
            refine tz_iload (pc := 67) dX12_make_67 rfl ?_
            refine tz_cV (pc := 69) (m_isTerm hl n _ _ (by omega) (by rw [(show ((zup J 164 8 0) : zJ) 165 0 = (J 165 0) from rfl)]; omega)) vl_X12_376 dX12_make_69 o_164 rfl rfl (Nat.le_of_ble_eq_true rfl) ⟨(Nat.le_of_ble_eq_true rfl), (Nat.le_of_ble_eq_true rfl)⟩ rfl rfl (Nat.le_of_ble_eq_true rfl) (Nat.le_of_ble_eq_true rfl) (fun r9 J_69 hq9 => ?_)
            obtain ⟨z_69, rfl, hz_69, rfl, ht_69⟩ := hq9
            rw [(show ((zup J 164 8 0) : zJ) 165 0 = (J 165 0) from rfl)] at ht_69
            refine tz_if_ne (pc := 72) (tgt := 82) dX12_make_72 (by decide) (by omega) (fun h_72 => ?_) (fun h_72 => ?_)
            · refine tz_aload_n (pc := 82) dX12_make_82 rfl rfl ?_
              refine tz_cV (pc := 83) (m_begins hl n _) vl_X12_400 dX12_make_83 o_164 rfl rfl (Nat.le_of_ble_eq_true rfl) ⟨(Nat.le_of_ble_eq_true rfl), (Nat.le_of_ble_eq_true rfl)⟩ rfl rfl (Nat.le_of_ble_eq_true rfl) (Nat.le_of_ble_eq_true rfl) (fun r9 J_83 hq9 => ?_)
              obtain ⟨rfl, hj_83⟩ := hq9
              have a_83 : AM J_83 J m m := by rw [← hj_83]; exact AM.begin (hI.z (MZ.up (k := 8) MZ.rf (by decide))) ⟨MZ.lo (MZ.up (k := 8) MZ.rf (by decide)), SC.z (MZ.up (k := 8) MZ.rf (by decide))⟩
              have br_83 : ∀ k, (k < 63 ∨ 126 ≤ k) → J_83 165 k = ((zup J 164 8 0) : zJ) 165 k := fun k hk => by rw [← hj_83]; exact zbg_r hk
              have bl_83 : ∀ k, ¬ k = 34 → ¬ k = 33 → ¬ k = 21 → J_83 164 k = ((zup J 164 8 0) : zJ) 164 k := fun k u v w => by rw [← hj_83]; exact zbg_f u v w
              have bo_83 : zOf (zbut [164, 165]) J_83 (zup J 164 8 0) := by rw [← hj_83]; exact zbg_of
              have b3_83 : J_83 164 21 = 0 ∧ J_83 164 33 = 0 ∧ J_83 164 34 = 0 := by rw [← hj_83]; exact ⟨rfl, rfl, rfl⟩
              have s9_83 : J_83 164 9 = J 164 9 := (bl_83 9 (by decide) (by decide) (by decide)).trans ((MZ.up (k := 8) MZ.rf (by decide)).2 9 (by decide) (by decide))
              obtain ⟨⟨bt_83, bs_83, bm_83, ba_83⟩, bu_83, bn_83, bf_83, bi_83⟩ := mbeg hI (MZ.up (k := 8) MZ.rf (by decide)) hj_83 u9
              refine tz_aload_n (pc := 86) dX12_make_86 rfl rfl ?_
              refine tz_aload_n (pc := 87) dX12_make_87 rfl rfl ?_
              refine tz_iload_n (pc := 88) dX12_make_88 rfl rfl ?_
              refine tz_iload_n (pc := 89) dX12_make_89 rfl rfl ?_
              refine tz_iload_n (pc := 90) dX12_make_90 rfl rfl ?_
              refine tz_iload (pc := 91) dX12_make_91 rfl ?_
              have ea_83 : J_83 170 = J 170 := (bo_83 170 rfl)
              refine tz_cV (pc := 93) (o_termOf hl n _ _ _ _ _ (by omega) (by omega) (by omega) (by omega) (J_83 164 9) m (a_83).1.1 rfl (by omega) (fun _ => by rw [arh_pos (by omega)]; simp only [Int.zero_add, ea_83]; omega)) vl_X12_107 dX12_make_93 o_164 rfl rfl (Nat.le_of_ble_eq_true rfl) ⟨(Nat.le_of_ble_eq_true rfl), (Nat.le_of_ble_eq_true rfl)⟩ rfl rfl (Nat.le_of_ble_eq_true rfl) (Nat.le_of_ble_eq_true rfl) (fun r9 J_93 hq9 => ?_)
              obtain ⟨z_93, rfl, hz_93, e_93, m_93, g_93, h_93⟩ := hq9
              have a_93 := AM.grow0 a_83 g_93 (fun c hc => by simp at hc) (fun k x y => by simp; omega) rfl
              have lm_93 := a_93.1.2.2
              rw [bt_83] at e_93
              refine tz_cV (pc := 96) (m_keeps hl n _ _ (by omega) (a_93).2.2.2.1.1.1 (a_93).2.2.2.1.1.2) vl_X12_403 dX12_make_96 o_164 rfl rfl (Nat.le_of_ble_eq_true rfl) ⟨(Nat.le_of_ble_eq_true rfl), (Nat.le_of_ble_eq_true rfl)⟩ rfl rfl (Nat.le_of_ble_eq_true rfl) (Nat.le_of_ble_eq_true rfl) (fun r9 J_96 hq9 => ?_)
              obtain ⟨z_96, rfl, hz_96, k_96⟩ := hq9
              exact tz_iret (pc := 99) (z := z_96) dX12_make_99 rfl (Nat.le_of_ble_eq_true rfl) (Nat.le_of_ble_eq_true rfl) ⟨Nat.le_refl _, Nat.le_add_right _ _⟩ ⟨_, rfl, (by omega), (AE (AM.keep a_93 k_96) bi_83 (mact_end bt_83 bs_83 bm_83 ba_83 bu_83 bn_83 bf_83 (MOP.mg g_93) e_93.1 (by rw [← e_93.1]; show J_93 165 0 ≤ 400; have t9 := g_93.1.1.told; have s9 := g_93.1.1.2.2.2.2.1; omega) (fun _ => e_93.2) k_96) (by omega))⟩
            · refine tz_aload_n (pc := 75) dX12_make_75 rfl rfl ?_
              refine tz_iconst (pc := 76) dX12_make_76 ?_
              refine tz_iconst (pc := 77) dX12_make_77 ?_
              refine tz_cV (pc := 78) (m_refuses hl n _ _ _ (by decide) (by decide) (by decide)) vl_X12_391 dX12_make_78 o_164 rfl rfl (Nat.le_of_ble_eq_true rfl) ⟨(Nat.le_of_ble_eq_true rfl), (Nat.le_of_ble_eq_true rfl)⟩ rfl rfl (Nat.le_of_ble_eq_true rfl) (Nat.le_of_ble_eq_true rfl) (fun r9 J_78 hq9 => ?_)
              obtain ⟨z_78, rfl, hz_78, rfl, f_78⟩ := hq9
              have y_78 : MZ J_78 J := MZ.tr (MZ.up (k := 8) MZ.rf (by decide)) (MZ.c f_78 (by decide))
              exact tz_iret (pc := 81) (z := (-1)) dX12_make_81 rfl (Nat.le_of_ble_eq_true rfl) (Nat.le_of_ble_eq_true rfl) ⟨Nat.le_refl _, Nat.le_add_right _ _⟩ ⟨_, rfl, (by decide), ⟨MQr.z hI y_78, MFI.z y_78, Or.inr ⟨by omega, rfl, MBT.z hI y_78, u9.z y_78⟩⟩⟩
        · refine tz_aload_n (pc := 52) dX12_make_52 rfl rfl ?_
          refine tz_iload_n (pc := 53) dX12_make_53 rfl rfl ?_
          refine tz_cV (pc := 54) (m_isTerm hl n _ _ (by omega) (by rw [(show ((zup J 164 8 0) : zJ) 165 0 = (J 165 0) from rfl)]; omega)) vl_X12_376 dX12_make_54 o_164 rfl rfl (Nat.le_of_ble_eq_true rfl) ⟨(Nat.le_of_ble_eq_true rfl), (Nat.le_of_ble_eq_true rfl)⟩ rfl rfl (Nat.le_of_ble_eq_true rfl) (Nat.le_of_ble_eq_true rfl) (fun r9 J_54 hq9 => ?_)
          obtain ⟨z_54, rfl, hz_54, rfl, ht_54⟩ := hq9
          rw [(show ((zup J 164 8 0) : zJ) 165 0 = (J 165 0) from rfl)] at ht_54
          refine tz_if_eq (pc := 57) (tgt := 75) dX12_make_57 (by decide) (by omega) (fun h_57 => ?_) (fun h_57 => ?_)
          · refine tz_aload_n (pc := 75) dX12_make_75 rfl rfl ?_
            refine tz_iconst (pc := 76) dX12_make_76 ?_
            refine tz_iconst (pc := 77) dX12_make_77 ?_
            refine tz_cV (pc := 78) (m_refuses hl n _ _ _ (by decide) (by decide) (by decide)) vl_X12_391 dX12_make_78 o_164 rfl rfl (Nat.le_of_ble_eq_true rfl) ⟨(Nat.le_of_ble_eq_true rfl), (Nat.le_of_ble_eq_true rfl)⟩ rfl rfl (Nat.le_of_ble_eq_true rfl) (Nat.le_of_ble_eq_true rfl) (fun r9 J_78 hq9 => ?_)
            obtain ⟨z_78, rfl, hz_78, rfl, f_78⟩ := hq9
            have y_78 : MZ J_78 J := MZ.tr (MZ.up (k := 8) MZ.rf (by decide)) (MZ.c f_78 (by decide))
            exact tz_iret (pc := 81) (z := (-1)) dX12_make_81 rfl (Nat.le_of_ble_eq_true rfl) (Nat.le_of_ble_eq_true rfl) ⟨Nat.le_refl _, Nat.le_add_right _ _⟩ ⟨_, rfl, (by decide), ⟨MQr.z hI y_78, MFI.z y_78, Or.inr ⟨by omega, rfl, MBT.z hI y_78, u9.z y_78⟩⟩⟩
          · refine tz_iload (pc := 60) dX12_make_60 rfl ?_
            refine tz_iconst (pc := 62) dX12_make_62 ?_
            refine tz_icmp_le (pc := 63) (tgt := 82) dX12_make_63 (by decide) (by omega) (by decide) (fun h_63 => ?_) (fun h_63 => ?_)
            · refine tz_aload_n (pc := 82) dX12_make_82 rfl rfl ?_
              refine tz_cV (pc := 83) (m_begins hl n _) vl_X12_400 dX12_make_83 o_164 rfl rfl (Nat.le_of_ble_eq_true rfl) ⟨(Nat.le_of_ble_eq_true rfl), (Nat.le_of_ble_eq_true rfl)⟩ rfl rfl (Nat.le_of_ble_eq_true rfl) (Nat.le_of_ble_eq_true rfl) (fun r9 J_83 hq9 => ?_)
              obtain ⟨rfl, hj_83⟩ := hq9
              have a_83 : AM J_83 J m m := by rw [← hj_83]; exact AM.begin (hI.z (MZ.up (k := 8) MZ.rf (by decide))) ⟨MZ.lo (MZ.up (k := 8) MZ.rf (by decide)), SC.z (MZ.up (k := 8) MZ.rf (by decide))⟩
              have br_83 : ∀ k, (k < 63 ∨ 126 ≤ k) → J_83 165 k = ((zup J 164 8 0) : zJ) 165 k := fun k hk => by rw [← hj_83]; exact zbg_r hk
              have bl_83 : ∀ k, ¬ k = 34 → ¬ k = 33 → ¬ k = 21 → J_83 164 k = ((zup J 164 8 0) : zJ) 164 k := fun k u v w => by rw [← hj_83]; exact zbg_f u v w
              have bo_83 : zOf (zbut [164, 165]) J_83 (zup J 164 8 0) := by rw [← hj_83]; exact zbg_of
              have b3_83 : J_83 164 21 = 0 ∧ J_83 164 33 = 0 ∧ J_83 164 34 = 0 := by rw [← hj_83]; exact ⟨rfl, rfl, rfl⟩
              have s9_83 : J_83 164 9 = J 164 9 := (bl_83 9 (by decide) (by decide) (by decide)).trans ((MZ.up (k := 8) MZ.rf (by decide)).2 9 (by decide) (by decide))
              obtain ⟨⟨bt_83, bs_83, bm_83, ba_83⟩, bu_83, bn_83, bf_83, bi_83⟩ := mbeg hI (MZ.up (k := 8) MZ.rf (by decide)) hj_83 u9
              refine tz_aload_n (pc := 86) dX12_make_86 rfl rfl ?_
              refine tz_aload_n (pc := 87) dX12_make_87 rfl rfl ?_
              refine tz_iload_n (pc := 88) dX12_make_88 rfl rfl ?_
              refine tz_iload_n (pc := 89) dX12_make_89 rfl rfl ?_
              refine tz_iload_n (pc := 90) dX12_make_90 rfl rfl ?_
              refine tz_iload (pc := 91) dX12_make_91 rfl ?_
              have ea_83 : J_83 170 = J 170 := (bo_83 170 rfl)
              refine tz_cV (pc := 93) (o_termOf hl n _ _ _ _ _ (by omega) (by omega) (by omega) (by omega) (J_83 164 9) m (a_83).1.1 rfl (by omega) (fun _ => by rw [arh_pos (by omega)]; simp only [Int.zero_add, ea_83]; omega)) vl_X12_107 dX12_make_93 o_164 rfl rfl (Nat.le_of_ble_eq_true rfl) ⟨(Nat.le_of_ble_eq_true rfl), (Nat.le_of_ble_eq_true rfl)⟩ rfl rfl (Nat.le_of_ble_eq_true rfl) (Nat.le_of_ble_eq_true rfl) (fun r9 J_93 hq9 => ?_)
              obtain ⟨z_93, rfl, hz_93, e_93, m_93, g_93, h_93⟩ := hq9
              have a_93 := AM.grow0 a_83 g_93 (fun c hc => by simp at hc) (fun k x y => by simp; omega) rfl
              have lm_93 := a_93.1.2.2
              rw [bt_83] at e_93
              refine tz_cV (pc := 96) (m_keeps hl n _ _ (by omega) (a_93).2.2.2.1.1.1 (a_93).2.2.2.1.1.2) vl_X12_403 dX12_make_96 o_164 rfl rfl (Nat.le_of_ble_eq_true rfl) ⟨(Nat.le_of_ble_eq_true rfl), (Nat.le_of_ble_eq_true rfl)⟩ rfl rfl (Nat.le_of_ble_eq_true rfl) (Nat.le_of_ble_eq_true rfl) (fun r9 J_96 hq9 => ?_)
              obtain ⟨z_96, rfl, hz_96, k_96⟩ := hq9
              exact tz_iret (pc := 99) (z := z_96) dX12_make_99 rfl (Nat.le_of_ble_eq_true rfl) (Nat.le_of_ble_eq_true rfl) ⟨Nat.le_refl _, Nat.le_add_right _ _⟩ ⟨_, rfl, (by omega), (AE (AM.keep a_93 k_96) bi_83 (mact_end bt_83 bs_83 bm_83 ba_83 bu_83 bn_83 bf_83 (MOP.mg g_93) e_93.1 (by rw [← e_93.1]; show J_93 165 0 ≤ 400; have t9 := g_93.1.1.told; have s9 := g_93.1.1.2.2.2.2.1; omega) (fun _ => e_93.2) k_96) (by omega))⟩
            · refine tz_aload_n (pc := 66) dX12_make_66 rfl rfl ?_
              refine tz_iload (pc := 67) dX12_make_67 rfl ?_
              refine tz_cV (pc := 69) (m_isTerm hl n _ _ (by omega) (by rw [(show ((zup J 164 8 0) : zJ) 165 0 = (J 165 0) from rfl)]; omega)) vl_X12_376 dX12_make_69 o_164 rfl rfl (Nat.le_of_ble_eq_true rfl) ⟨(Nat.le_of_ble_eq_true rfl), (Nat.le_of_ble_eq_true rfl)⟩ rfl rfl (Nat.le_of_ble_eq_true rfl) (Nat.le_of_ble_eq_true rfl) (fun r9 J_69 hq9 => ?_)
              obtain ⟨z_69, rfl, hz_69, rfl, ht_69⟩ := hq9
              rw [(show ((zup J 164 8 0) : zJ) 165 0 = (J 165 0) from rfl)] at ht_69
              refine tz_if_ne (pc := 72) (tgt := 82) dX12_make_72 (by decide) (by omega) (fun h_72 => ?_) (fun h_72 => ?_)
              · refine tz_aload_n (pc := 82) dX12_make_82 rfl rfl ?_
                refine tz_cV (pc := 83) (m_begins hl n _) vl_X12_400 dX12_make_83 o_164 rfl rfl (Nat.le_of_ble_eq_true rfl) ⟨(Nat.le_of_ble_eq_true rfl), (Nat.le_of_ble_eq_true rfl)⟩ rfl rfl (Nat.le_of_ble_eq_true rfl) (Nat.le_of_ble_eq_true rfl) (fun r9 J_83 hq9 => ?_)
                obtain ⟨rfl, hj_83⟩ := hq9
                have a_83 : AM J_83 J m m := by rw [← hj_83]; exact AM.begin (hI.z (MZ.up (k := 8) MZ.rf (by decide))) ⟨MZ.lo (MZ.up (k := 8) MZ.rf (by decide)), SC.z (MZ.up (k := 8) MZ.rf (by decide))⟩
                have br_83 : ∀ k, (k < 63 ∨ 126 ≤ k) → J_83 165 k = ((zup J 164 8 0) : zJ) 165 k := fun k hk => by rw [← hj_83]; exact zbg_r hk
                have bl_83 : ∀ k, ¬ k = 34 → ¬ k = 33 → ¬ k = 21 → J_83 164 k = ((zup J 164 8 0) : zJ) 164 k := fun k u v w => by rw [← hj_83]; exact zbg_f u v w
                have bo_83 : zOf (zbut [164, 165]) J_83 (zup J 164 8 0) := by rw [← hj_83]; exact zbg_of
                have b3_83 : J_83 164 21 = 0 ∧ J_83 164 33 = 0 ∧ J_83 164 34 = 0 := by rw [← hj_83]; exact ⟨rfl, rfl, rfl⟩
                have s9_83 : J_83 164 9 = J 164 9 := (bl_83 9 (by decide) (by decide) (by decide)).trans ((MZ.up (k := 8) MZ.rf (by decide)).2 9 (by decide) (by decide))
                obtain ⟨⟨bt_83, bs_83, bm_83, ba_83⟩, bu_83, bn_83, bf_83, bi_83⟩ := mbeg hI (MZ.up (k := 8) MZ.rf (by decide)) hj_83 u9
                refine tz_aload_n (pc := 86) dX12_make_86 rfl rfl ?_
                refine tz_aload_n (pc := 87) dX12_make_87 rfl rfl ?_
                refine tz_iload_n (pc := 88) dX12_make_88 rfl rfl ?_
                refine tz_iload_n (pc := 89) dX12_make_89 rfl rfl ?_
                refine tz_iload_n (pc := 90) dX12_make_90 rfl rfl ?_
                refine tz_iload (pc := 91) dX12_make_91 rfl ?_
                have ea_83 : J_83 170 = J 170 := (bo_83 170 rfl)
                refine tz_cV (pc := 93) (o_termOf hl n _ _ _ _ _ (by omega) (by omega) (by omega) (by omega) (J_83 164 9) m (a_83).1.1 rfl (by omega) (fun _ => by rw [arh_pos (by omega)]; simp only [Int.zero_add, ea_83]; omega)) vl_X12_107 dX12_make_93 o_164 rfl rfl (Nat.le_of_ble_eq_true rfl) ⟨(Nat.le_of_ble_eq_true rfl), (Nat.le_of_ble_eq_true rfl)⟩ rfl rfl (Nat.le_of_ble_eq_true rfl) (Nat.le_of_ble_eq_true rfl) (fun r9 J_93 hq9 => ?_)
                obtain ⟨z_93, rfl, hz_93, e_93, m_93, g_93, h_93⟩ := hq9
                have a_93 := AM.grow0 a_83 g_93 (fun c hc => by simp at hc) (fun k x y => by simp; omega) rfl
                have lm_93 := a_93.1.2.2
                rw [bt_83] at e_93
                refine tz_cV (pc := 96) (m_keeps hl n _ _ (by omega) (a_93).2.2.2.1.1.1 (a_93).2.2.2.1.1.2) vl_X12_403 dX12_make_96 o_164 rfl rfl (Nat.le_of_ble_eq_true rfl) ⟨(Nat.le_of_ble_eq_true rfl), (Nat.le_of_ble_eq_true rfl)⟩ rfl rfl (Nat.le_of_ble_eq_true rfl) (Nat.le_of_ble_eq_true rfl) (fun r9 J_96 hq9 => ?_)
                obtain ⟨z_96, rfl, hz_96, k_96⟩ := hq9
                exact tz_iret (pc := 99) (z := z_96) dX12_make_99 rfl (Nat.le_of_ble_eq_true rfl) (Nat.le_of_ble_eq_true rfl) ⟨Nat.le_refl _, Nat.le_add_right _ _⟩ ⟨_, rfl, (by omega), (AE (AM.keep a_93 k_96) bi_83 (mact_end bt_83 bs_83 bm_83 ba_83 bu_83 bn_83 bf_83 (MOP.mg g_93) e_93.1 (by rw [← e_93.1]; show J_93 165 0 ≤ 400; have t9 := g_93.1.1.told; have s9 := g_93.1.1.2.2.2.2.1; omega) (fun _ => e_93.2) k_96) (by omega))⟩
              · refine tz_aload_n (pc := 75) dX12_make_75 rfl rfl ?_
                refine tz_iconst (pc := 76) dX12_make_76 ?_
                refine tz_iconst (pc := 77) dX12_make_77 ?_
                refine tz_cV (pc := 78) (m_refuses hl n _ _ _ (by decide) (by decide) (by decide)) vl_X12_391 dX12_make_78 o_164 rfl rfl (Nat.le_of_ble_eq_true rfl) ⟨(Nat.le_of_ble_eq_true rfl), (Nat.le_of_ble_eq_true rfl)⟩ rfl rfl (Nat.le_of_ble_eq_true rfl) (Nat.le_of_ble_eq_true rfl) (fun r9 J_78 hq9 => ?_)
                obtain ⟨z_78, rfl, hz_78, rfl, f_78⟩ := hq9
                have y_78 : MZ J_78 J := MZ.tr (MZ.up (k := 8) MZ.rf (by decide)) (MZ.c f_78 (by decide))
                exact tz_iret (pc := 81) (z := (-1)) dX12_make_81 rfl (Nat.le_of_ble_eq_true rfl) (Nat.le_of_ble_eq_true rfl) ⟨Nat.le_refl _, Nat.le_add_right _ _⟩ ⟨_, rfl, (by decide), ⟨MQr.z hI y_78, MFI.z y_78, Or.inr ⟨by omega, rfl, MBT.z hI y_78, u9.z y_78⟩⟩⟩
      · refine tz_aload_n (pc := 38) dX12_make_38 rfl rfl ?_
        refine tz_iload_n (pc := 39) dX12_make_39 rfl rfl ?_
        refine tz_cV (pc := 40) (m_isTerm hl n _ _ (by omega) (by rw [(show ((zup J 164 8 0) : zJ) 165 0 = (J 165 0) from rfl)]; omega)) vl_X12_376 dX12_make_40 o_164 rfl rfl (Nat.le_of_ble_eq_true rfl) ⟨(Nat.le_of_ble_eq_true rfl), (Nat.le_of_ble_eq_true rfl)⟩ rfl rfl (Nat.le_of_ble_eq_true rfl) (Nat.le_of_ble_eq_true rfl) (fun r9 J_40 hq9 => ?_)
        obtain ⟨z_40, rfl, hz_40, rfl, ht_40⟩ := hq9
        rw [(show ((zup J 164 8 0) : zJ) 165 0 = (J 165 0) from rfl)] at ht_40
        refine tz_if_eq (pc := 43) (tgt := 75) dX12_make_43 (by decide) (by omega) (fun h_43 => ?_) (fun h_43 => ?_)
        · refine tz_aload_n (pc := 75) dX12_make_75 rfl rfl ?_
          refine tz_iconst (pc := 76) dX12_make_76 ?_
          refine tz_iconst (pc := 77) dX12_make_77 ?_
          refine tz_cV (pc := 78) (m_refuses hl n _ _ _ (by decide) (by decide) (by decide)) vl_X12_391 dX12_make_78 o_164 rfl rfl (Nat.le_of_ble_eq_true rfl) ⟨(Nat.le_of_ble_eq_true rfl), (Nat.le_of_ble_eq_true rfl)⟩ rfl rfl (Nat.le_of_ble_eq_true rfl) (Nat.le_of_ble_eq_true rfl) (fun r9 J_78 hq9 => ?_)
          obtain ⟨z_78, rfl, hz_78, rfl, f_78⟩ := hq9
          have y_78 : MZ J_78 J := MZ.tr (MZ.up (k := 8) MZ.rf (by decide)) (MZ.c f_78 (by decide))
          exact tz_iret (pc := 81) (z := (-1)) dX12_make_81 rfl (Nat.le_of_ble_eq_true rfl) (Nat.le_of_ble_eq_true rfl) ⟨Nat.le_refl _, Nat.le_add_right _ _⟩ ⟨_, rfl, (by decide), ⟨MQr.z hI y_78, MFI.z y_78, Or.inr ⟨by omega, rfl, MBT.z hI y_78, u9.z y_78⟩⟩⟩
        · refine tz_iload (pc := 46) dX12_make_46 rfl ?_
          refine tz_iconst (pc := 48) dX12_make_48 ?_
          refine tz_icmp_le (pc := 49) (tgt := 60) dX12_make_49 (by decide) (by omega) (by decide) (fun h_49 => ?_) (fun h_49 => ?_)
          · refine tz_iload (pc := 60) dX12_make_60 rfl ?_
            refine tz_iconst (pc := 62) dX12_make_62 ?_
            refine tz_icmp_le (pc := 63) (tgt := 82) dX12_make_63 (by decide) (by omega) (by decide) (fun h_63 => ?_) (fun h_63 => ?_)
            · refine tz_aload_n (pc := 82) dX12_make_82 rfl rfl ?_
              refine tz_cV (pc := 83) (m_begins hl n _) vl_X12_400 dX12_make_83 o_164 rfl rfl (Nat.le_of_ble_eq_true rfl) ⟨(Nat.le_of_ble_eq_true rfl), (Nat.le_of_ble_eq_true rfl)⟩ rfl rfl (Nat.le_of_ble_eq_true rfl) (Nat.le_of_ble_eq_true rfl) (fun r9 J_83 hq9 => ?_)
              obtain ⟨rfl, hj_83⟩ := hq9
              have a_83 : AM J_83 J m m := by rw [← hj_83]; exact AM.begin (hI.z (MZ.up (k := 8) MZ.rf (by decide))) ⟨MZ.lo (MZ.up (k := 8) MZ.rf (by decide)), SC.z (MZ.up (k := 8) MZ.rf (by decide))⟩
              have br_83 : ∀ k, (k < 63 ∨ 126 ≤ k) → J_83 165 k = ((zup J 164 8 0) : zJ) 165 k := fun k hk => by rw [← hj_83]; exact zbg_r hk
              have bl_83 : ∀ k, ¬ k = 34 → ¬ k = 33 → ¬ k = 21 → J_83 164 k = ((zup J 164 8 0) : zJ) 164 k := fun k u v w => by rw [← hj_83]; exact zbg_f u v w
              have bo_83 : zOf (zbut [164, 165]) J_83 (zup J 164 8 0) := by rw [← hj_83]; exact zbg_of
              have b3_83 : J_83 164 21 = 0 ∧ J_83 164 33 = 0 ∧ J_83 164 34 = 0 := by rw [← hj_83]; exact ⟨rfl, rfl, rfl⟩
              have s9_83 : J_83 164 9 = J 164 9 := (bl_83 9 (by decide) (by decide) (by decide)).trans ((MZ.up (k := 8) MZ.rf (by decide)).2 9 (by decide) (by decide))
              obtain ⟨⟨bt_83, bs_83, bm_83, ba_83⟩, bu_83, bn_83, bf_83, bi_83⟩ := mbeg hI (MZ.up (k := 8) MZ.rf (by decide)) hj_83 u9
              refine tz_aload_n (pc := 86) dX12_make_86 rfl rfl ?_
              refine tz_aload_n (pc := 87) dX12_make_87 rfl rfl ?_
              refine tz_iload_n (pc := 88) dX12_make_88 rfl rfl ?_
              refine tz_iload_n (pc := 89) dX12_make_89 rfl rfl ?_
              refine tz_iload_n (pc := 90) dX12_make_90 rfl rfl ?_
              refine tz_iload (pc := 91) dX12_make_91 rfl ?_
              have ea_83 : J_83 170 = J 170 := (bo_83 170 rfl)
              refine tz_cV (pc := 93) (o_termOf hl n _ _ _ _ _ (by omega) (by omega) (by omega) (by omega) (J_83 164 9) m (a_83).1.1 rfl (by omega) (fun _ => by rw [arh_pos (by omega)]; simp only [Int.zero_add, ea_83]; omega)) vl_X12_107 dX12_make_93 o_164 rfl rfl (Nat.le_of_ble_eq_true rfl) ⟨(Nat.le_of_ble_eq_true rfl), (Nat.le_of_ble_eq_true rfl)⟩ rfl rfl (Nat.le_of_ble_eq_true rfl) (Nat.le_of_ble_eq_true rfl) (fun r9 J_93 hq9 => ?_)
              obtain ⟨z_93, rfl, hz_93, e_93, m_93, g_93, h_93⟩ := hq9
              have a_93 := AM.grow0 a_83 g_93 (fun c hc => by simp at hc) (fun k x y => by simp; omega) rfl
              have lm_93 := a_93.1.2.2
              rw [bt_83] at e_93
              refine tz_cV (pc := 96) (m_keeps hl n _ _ (by omega) (a_93).2.2.2.1.1.1 (a_93).2.2.2.1.1.2) vl_X12_403 dX12_make_96 o_164 rfl rfl (Nat.le_of_ble_eq_true rfl) ⟨(Nat.le_of_ble_eq_true rfl), (Nat.le_of_ble_eq_true rfl)⟩ rfl rfl (Nat.le_of_ble_eq_true rfl) (Nat.le_of_ble_eq_true rfl) (fun r9 J_96 hq9 => ?_)
              obtain ⟨z_96, rfl, hz_96, k_96⟩ := hq9
              exact tz_iret (pc := 99) (z := z_96) dX12_make_99 rfl (Nat.le_of_ble_eq_true rfl) (Nat.le_of_ble_eq_true rfl) ⟨Nat.le_refl _, Nat.le_add_right _ _⟩ ⟨_, rfl, (by omega), (AE (AM.keep a_93 k_96) bi_83 (mact_end bt_83 bs_83 bm_83 ba_83 bu_83 bn_83 bf_83 (MOP.mg g_93) e_93.1 (by rw [← e_93.1]; show J_93 165 0 ≤ 400; have t9 := g_93.1.1.told; have s9 := g_93.1.1.2.2.2.2.1; omega) (fun _ => e_93.2) k_96) (by omega))⟩
            · refine tz_aload_n (pc := 66) dX12_make_66 rfl rfl ?_
              refine tz_iload (pc := 67) dX12_make_67 rfl ?_
              refine tz_cV (pc := 69) (m_isTerm hl n _ _ (by omega) (by rw [(show ((zup J 164 8 0) : zJ) 165 0 = (J 165 0) from rfl)]; omega)) vl_X12_376 dX12_make_69 o_164 rfl rfl (Nat.le_of_ble_eq_true rfl) ⟨(Nat.le_of_ble_eq_true rfl), (Nat.le_of_ble_eq_true rfl)⟩ rfl rfl (Nat.le_of_ble_eq_true rfl) (Nat.le_of_ble_eq_true rfl) (fun r9 J_69 hq9 => ?_)
              obtain ⟨z_69, rfl, hz_69, rfl, ht_69⟩ := hq9
              rw [(show ((zup J 164 8 0) : zJ) 165 0 = (J 165 0) from rfl)] at ht_69
              refine tz_if_ne (pc := 72) (tgt := 82) dX12_make_72 (by decide) (by omega) (fun h_72 => ?_) (fun h_72 => ?_)
              · refine tz_aload_n (pc := 82) dX12_make_82 rfl rfl ?_
                refine tz_cV (pc := 83) (m_begins hl n _) vl_X12_400 dX12_make_83 o_164 rfl rfl (Nat.le_of_ble_eq_true rfl) ⟨(Nat.le_of_ble_eq_true rfl), (Nat.le_of_ble_eq_true rfl)⟩ rfl rfl (Nat.le_of_ble_eq_true rfl) (Nat.le_of_ble_eq_true rfl) (fun r9 J_83 hq9 => ?_)
                obtain ⟨rfl, hj_83⟩ := hq9
                have a_83 : AM J_83 J m m := by rw [← hj_83]; exact AM.begin (hI.z (MZ.up (k := 8) MZ.rf (by decide))) ⟨MZ.lo (MZ.up (k := 8) MZ.rf (by decide)), SC.z (MZ.up (k := 8) MZ.rf (by decide))⟩
                have br_83 : ∀ k, (k < 63 ∨ 126 ≤ k) → J_83 165 k = ((zup J 164 8 0) : zJ) 165 k := fun k hk => by rw [← hj_83]; exact zbg_r hk
                have bl_83 : ∀ k, ¬ k = 34 → ¬ k = 33 → ¬ k = 21 → J_83 164 k = ((zup J 164 8 0) : zJ) 164 k := fun k u v w => by rw [← hj_83]; exact zbg_f u v w
                have bo_83 : zOf (zbut [164, 165]) J_83 (zup J 164 8 0) := by rw [← hj_83]; exact zbg_of
                have b3_83 : J_83 164 21 = 0 ∧ J_83 164 33 = 0 ∧ J_83 164 34 = 0 := by rw [← hj_83]; exact ⟨rfl, rfl, rfl⟩
                have s9_83 : J_83 164 9 = J 164 9 := (bl_83 9 (by decide) (by decide) (by decide)).trans ((MZ.up (k := 8) MZ.rf (by decide)).2 9 (by decide) (by decide))
                obtain ⟨⟨bt_83, bs_83, bm_83, ba_83⟩, bu_83, bn_83, bf_83, bi_83⟩ := mbeg hI (MZ.up (k := 8) MZ.rf (by decide)) hj_83 u9
                refine tz_aload_n (pc := 86) dX12_make_86 rfl rfl ?_
                refine tz_aload_n (pc := 87) dX12_make_87 rfl rfl ?_
                refine tz_iload_n (pc := 88) dX12_make_88 rfl rfl ?_
                refine tz_iload_n (pc := 89) dX12_make_89 rfl rfl ?_
                refine tz_iload_n (pc := 90) dX12_make_90 rfl rfl ?_
                refine tz_iload (pc := 91) dX12_make_91 rfl ?_
                have ea_83 : J_83 170 = J 170 := (bo_83 170 rfl)
                refine tz_cV (pc := 93) (o_termOf hl n _ _ _ _ _ (by omega) (by omega) (by omega) (by omega) (J_83 164 9) m (a_83).1.1 rfl (by omega) (fun _ => by rw [arh_pos (by omega)]; simp only [Int.zero_add, ea_83]; omega)) vl_X12_107 dX12_make_93 o_164 rfl rfl (Nat.le_of_ble_eq_true rfl) ⟨(Nat.le_of_ble_eq_true rfl), (Nat.le_of_ble_eq_true rfl)⟩ rfl rfl (Nat.le_of_ble_eq_true rfl) (Nat.le_of_ble_eq_true rfl) (fun r9 J_93 hq9 => ?_)
                obtain ⟨z_93, rfl, hz_93, e_93, m_93, g_93, h_93⟩ := hq9
                have a_93 := AM.grow0 a_83 g_93 (fun c hc => by simp at hc) (fun k x y => by simp; omega) rfl
                have lm_93 := a_93.1.2.2
                rw [bt_83] at e_93
                refine tz_cV (pc := 96) (m_keeps hl n _ _ (by omega) (a_93).2.2.2.1.1.1 (a_93).2.2.2.1.1.2) vl_X12_403 dX12_make_96 o_164 rfl rfl (Nat.le_of_ble_eq_true rfl) ⟨(Nat.le_of_ble_eq_true rfl), (Nat.le_of_ble_eq_true rfl)⟩ rfl rfl (Nat.le_of_ble_eq_true rfl) (Nat.le_of_ble_eq_true rfl) (fun r9 J_96 hq9 => ?_)
                obtain ⟨z_96, rfl, hz_96, k_96⟩ := hq9
                exact tz_iret (pc := 99) (z := z_96) dX12_make_99 rfl (Nat.le_of_ble_eq_true rfl) (Nat.le_of_ble_eq_true rfl) ⟨Nat.le_refl _, Nat.le_add_right _ _⟩ ⟨_, rfl, (by omega), (AE (AM.keep a_93 k_96) bi_83 (mact_end bt_83 bs_83 bm_83 ba_83 bu_83 bn_83 bf_83 (MOP.mg g_93) e_93.1 (by rw [← e_93.1]; show J_93 165 0 ≤ 400; have t9 := g_93.1.1.told; have s9 := g_93.1.1.2.2.2.2.1; omega) (fun _ => e_93.2) k_96) (by omega))⟩
              · refine tz_aload_n (pc := 75) dX12_make_75 rfl rfl ?_
                refine tz_iconst (pc := 76) dX12_make_76 ?_
                refine tz_iconst (pc := 77) dX12_make_77 ?_
                refine tz_cV (pc := 78) (m_refuses hl n _ _ _ (by decide) (by decide) (by decide)) vl_X12_391 dX12_make_78 o_164 rfl rfl (Nat.le_of_ble_eq_true rfl) ⟨(Nat.le_of_ble_eq_true rfl), (Nat.le_of_ble_eq_true rfl)⟩ rfl rfl (Nat.le_of_ble_eq_true rfl) (Nat.le_of_ble_eq_true rfl) (fun r9 J_78 hq9 => ?_)
                obtain ⟨z_78, rfl, hz_78, rfl, f_78⟩ := hq9
                have y_78 : MZ J_78 J := MZ.tr (MZ.up (k := 8) MZ.rf (by decide)) (MZ.c f_78 (by decide))
                exact tz_iret (pc := 81) (z := (-1)) dX12_make_81 rfl (Nat.le_of_ble_eq_true rfl) (Nat.le_of_ble_eq_true rfl) ⟨Nat.le_refl _, Nat.le_add_right _ _⟩ ⟨_, rfl, (by decide), ⟨MQr.z hI y_78, MFI.z y_78, Or.inr ⟨by omega, rfl, MBT.z hI y_78, u9.z y_78⟩⟩⟩
          · refine tz_aload_n (pc := 52) dX12_make_52 rfl rfl ?_
            refine tz_iload_n (pc := 53) dX12_make_53 rfl rfl ?_
            refine tz_cV (pc := 54) (m_isTerm hl n _ _ (by omega) (by rw [(show ((zup J 164 8 0) : zJ) 165 0 = (J 165 0) from rfl)]; omega)) vl_X12_376 dX12_make_54 o_164 rfl rfl (Nat.le_of_ble_eq_true rfl) ⟨(Nat.le_of_ble_eq_true rfl), (Nat.le_of_ble_eq_true rfl)⟩ rfl rfl (Nat.le_of_ble_eq_true rfl) (Nat.le_of_ble_eq_true rfl) (fun r9 J_54 hq9 => ?_)
            obtain ⟨z_54, rfl, hz_54, rfl, ht_54⟩ := hq9
            rw [(show ((zup J 164 8 0) : zJ) 165 0 = (J 165 0) from rfl)] at ht_54
            refine tz_if_eq (pc := 57) (tgt := 75) dX12_make_57 (by decide) (by omega) (fun h_57 => ?_) (fun h_57 => ?_)
            · refine tz_aload_n (pc := 75) dX12_make_75 rfl rfl ?_
              refine tz_iconst (pc := 76) dX12_make_76 ?_
              refine tz_iconst (pc := 77) dX12_make_77 ?_
              refine tz_cV (pc := 78) (m_refuses hl n _ _ _ (by decide) (by decide) (by decide)) vl_X12_391 dX12_make_78 o_164 rfl rfl (Nat.le_of_ble_eq_true rfl) ⟨(Nat.le_of_ble_eq_true rfl), (Nat.le_of_ble_eq_true rfl)⟩ rfl rfl (Nat.le_of_ble_eq_true rfl) (Nat.le_of_ble_eq_true rfl) (fun r9 J_78 hq9 => ?_)
              obtain ⟨z_78, rfl, hz_78, rfl, f_78⟩ := hq9
              have y_78 : MZ J_78 J := MZ.tr (MZ.up (k := 8) MZ.rf (by decide)) (MZ.c f_78 (by decide))
              exact tz_iret (pc := 81) (z := (-1)) dX12_make_81 rfl (Nat.le_of_ble_eq_true rfl) (Nat.le_of_ble_eq_true rfl) ⟨Nat.le_refl _, Nat.le_add_right _ _⟩ ⟨_, rfl, (by decide), ⟨MQr.z hI y_78, MFI.z y_78, Or.inr ⟨by omega, rfl, MBT.z hI y_78, u9.z y_78⟩⟩⟩
            · refine tz_iload (pc := 60) dX12_make_60 rfl ?_
              refine tz_iconst (pc := 62) dX12_make_62 ?_
              refine tz_icmp_le (pc := 63) (tgt := 82) dX12_make_63 (by decide) (by omega) (by decide) (fun h_63 => ?_) (fun h_63 => ?_)
              · refine tz_aload_n (pc := 82) dX12_make_82 rfl rfl ?_
                refine tz_cV (pc := 83) (m_begins hl n _) vl_X12_400 dX12_make_83 o_164 rfl rfl (Nat.le_of_ble_eq_true rfl) ⟨(Nat.le_of_ble_eq_true rfl), (Nat.le_of_ble_eq_true rfl)⟩ rfl rfl (Nat.le_of_ble_eq_true rfl) (Nat.le_of_ble_eq_true rfl) (fun r9 J_83 hq9 => ?_)
                obtain ⟨rfl, hj_83⟩ := hq9
                have a_83 : AM J_83 J m m := by rw [← hj_83]; exact AM.begin (hI.z (MZ.up (k := 8) MZ.rf (by decide))) ⟨MZ.lo (MZ.up (k := 8) MZ.rf (by decide)), SC.z (MZ.up (k := 8) MZ.rf (by decide))⟩
                have br_83 : ∀ k, (k < 63 ∨ 126 ≤ k) → J_83 165 k = ((zup J 164 8 0) : zJ) 165 k := fun k hk => by rw [← hj_83]; exact zbg_r hk
                have bl_83 : ∀ k, ¬ k = 34 → ¬ k = 33 → ¬ k = 21 → J_83 164 k = ((zup J 164 8 0) : zJ) 164 k := fun k u v w => by rw [← hj_83]; exact zbg_f u v w
                have bo_83 : zOf (zbut [164, 165]) J_83 (zup J 164 8 0) := by rw [← hj_83]; exact zbg_of
                have b3_83 : J_83 164 21 = 0 ∧ J_83 164 33 = 0 ∧ J_83 164 34 = 0 := by rw [← hj_83]; exact ⟨rfl, rfl, rfl⟩
                have s9_83 : J_83 164 9 = J 164 9 := (bl_83 9 (by decide) (by decide) (by decide)).trans ((MZ.up (k := 8) MZ.rf (by decide)).2 9 (by decide) (by decide))
                obtain ⟨⟨bt_83, bs_83, bm_83, ba_83⟩, bu_83, bn_83, bf_83, bi_83⟩ := mbeg hI (MZ.up (k := 8) MZ.rf (by decide)) hj_83 u9
                refine tz_aload_n (pc := 86) dX12_make_86 rfl rfl ?_
                refine tz_aload_n (pc := 87) dX12_make_87 rfl rfl ?_
                refine tz_iload_n (pc := 88) dX12_make_88 rfl rfl ?_
                refine tz_iload_n (pc := 89) dX12_make_89 rfl rfl ?_
                refine tz_iload_n (pc := 90) dX12_make_90 rfl rfl ?_
                refine tz_iload (pc := 91) dX12_make_91 rfl ?_
                have ea_83 : J_83 170 = J 170 := (bo_83 170 rfl)
                refine tz_cV (pc := 93) (o_termOf hl n _ _ _ _ _ (by omega) (by omega) (by omega) (by omega) (J_83 164 9) m (a_83).1.1 rfl (by omega) (fun _ => by rw [arh_pos (by omega)]; simp only [Int.zero_add, ea_83]; omega)) vl_X12_107 dX12_make_93 o_164 rfl rfl (Nat.le_of_ble_eq_true rfl) ⟨(Nat.le_of_ble_eq_true rfl), (Nat.le_of_ble_eq_true rfl)⟩ rfl rfl (Nat.le_of_ble_eq_true rfl) (Nat.le_of_ble_eq_true rfl) (fun r9 J_93 hq9 => ?_)
                obtain ⟨z_93, rfl, hz_93, e_93, m_93, g_93, h_93⟩ := hq9
                have a_93 := AM.grow0 a_83 g_93 (fun c hc => by simp at hc) (fun k x y => by simp; omega) rfl
                have lm_93 := a_93.1.2.2
                rw [bt_83] at e_93
                refine tz_cV (pc := 96) (m_keeps hl n _ _ (by omega) (a_93).2.2.2.1.1.1 (a_93).2.2.2.1.1.2) vl_X12_403 dX12_make_96 o_164 rfl rfl (Nat.le_of_ble_eq_true rfl) ⟨(Nat.le_of_ble_eq_true rfl), (Nat.le_of_ble_eq_true rfl)⟩ rfl rfl (Nat.le_of_ble_eq_true rfl) (Nat.le_of_ble_eq_true rfl) (fun r9 J_96 hq9 => ?_)
                obtain ⟨z_96, rfl, hz_96, k_96⟩ := hq9
                exact tz_iret (pc := 99) (z := z_96) dX12_make_99 rfl (Nat.le_of_ble_eq_true rfl) (Nat.le_of_ble_eq_true rfl) ⟨Nat.le_refl _, Nat.le_add_right _ _⟩ ⟨_, rfl, (by omega), (AE (AM.keep a_93 k_96) bi_83 (mact_end bt_83 bs_83 bm_83 ba_83 bu_83 bn_83 bf_83 (MOP.mg g_93) e_93.1 (by rw [← e_93.1]; show J_93 165 0 ≤ 400; have t9 := g_93.1.1.told; have s9 := g_93.1.1.2.2.2.2.1; omega) (fun _ => e_93.2) k_96) (by omega))⟩
              · refine tz_aload_n (pc := 66) dX12_make_66 rfl rfl ?_
                refine tz_iload (pc := 67) dX12_make_67 rfl ?_
                refine tz_cV (pc := 69) (m_isTerm hl n _ _ (by omega) (by rw [(show ((zup J 164 8 0) : zJ) 165 0 = (J 165 0) from rfl)]; omega)) vl_X12_376 dX12_make_69 o_164 rfl rfl (Nat.le_of_ble_eq_true rfl) ⟨(Nat.le_of_ble_eq_true rfl), (Nat.le_of_ble_eq_true rfl)⟩ rfl rfl (Nat.le_of_ble_eq_true rfl) (Nat.le_of_ble_eq_true rfl) (fun r9 J_69 hq9 => ?_)
                obtain ⟨z_69, rfl, hz_69, rfl, ht_69⟩ := hq9
                rw [(show ((zup J 164 8 0) : zJ) 165 0 = (J 165 0) from rfl)] at ht_69
                refine tz_if_ne (pc := 72) (tgt := 82) dX12_make_72 (by decide) (by omega) (fun h_72 => ?_) (fun h_72 => ?_)
                · refine tz_aload_n (pc := 82) dX12_make_82 rfl rfl ?_
                  refine tz_cV (pc := 83) (m_begins hl n _) vl_X12_400 dX12_make_83 o_164 rfl rfl (Nat.le_of_ble_eq_true rfl) ⟨(Nat.le_of_ble_eq_true rfl), (Nat.le_of_ble_eq_true rfl)⟩ rfl rfl (Nat.le_of_ble_eq_true rfl) (Nat.le_of_ble_eq_true rfl) (fun r9 J_83 hq9 => ?_)
                  obtain ⟨rfl, hj_83⟩ := hq9
                  have a_83 : AM J_83 J m m := by rw [← hj_83]; exact AM.begin (hI.z (MZ.up (k := 8) MZ.rf (by decide))) ⟨MZ.lo (MZ.up (k := 8) MZ.rf (by decide)), SC.z (MZ.up (k := 8) MZ.rf (by decide))⟩
                  have br_83 : ∀ k, (k < 63 ∨ 126 ≤ k) → J_83 165 k = ((zup J 164 8 0) : zJ) 165 k := fun k hk => by rw [← hj_83]; exact zbg_r hk
                  have bl_83 : ∀ k, ¬ k = 34 → ¬ k = 33 → ¬ k = 21 → J_83 164 k = ((zup J 164 8 0) : zJ) 164 k := fun k u v w => by rw [← hj_83]; exact zbg_f u v w
                  have bo_83 : zOf (zbut [164, 165]) J_83 (zup J 164 8 0) := by rw [← hj_83]; exact zbg_of
                  have b3_83 : J_83 164 21 = 0 ∧ J_83 164 33 = 0 ∧ J_83 164 34 = 0 := by rw [← hj_83]; exact ⟨rfl, rfl, rfl⟩
                  have s9_83 : J_83 164 9 = J 164 9 := (bl_83 9 (by decide) (by decide) (by decide)).trans ((MZ.up (k := 8) MZ.rf (by decide)).2 9 (by decide) (by decide))
                  obtain ⟨⟨bt_83, bs_83, bm_83, ba_83⟩, bu_83, bn_83, bf_83, bi_83⟩ := mbeg hI (MZ.up (k := 8) MZ.rf (by decide)) hj_83 u9
                  refine tz_aload_n (pc := 86) dX12_make_86 rfl rfl ?_
                  refine tz_aload_n (pc := 87) dX12_make_87 rfl rfl ?_
                  refine tz_iload_n (pc := 88) dX12_make_88 rfl rfl ?_
                  refine tz_iload_n (pc := 89) dX12_make_89 rfl rfl ?_
                  refine tz_iload_n (pc := 90) dX12_make_90 rfl rfl ?_
                  refine tz_iload (pc := 91) dX12_make_91 rfl ?_
                  have ea_83 : J_83 170 = J 170 := (bo_83 170 rfl)
                  refine tz_cV (pc := 93) (o_termOf hl n _ _ _ _ _ (by omega) (by omega) (by omega) (by omega) (J_83 164 9) m (a_83).1.1 rfl (by omega) (fun _ => by rw [arh_pos (by omega)]; simp only [Int.zero_add, ea_83]; omega)) vl_X12_107 dX12_make_93 o_164 rfl rfl (Nat.le_of_ble_eq_true rfl) ⟨(Nat.le_of_ble_eq_true rfl), (Nat.le_of_ble_eq_true rfl)⟩ rfl rfl (Nat.le_of_ble_eq_true rfl) (Nat.le_of_ble_eq_true rfl) (fun r9 J_93 hq9 => ?_)
                  obtain ⟨z_93, rfl, hz_93, e_93, m_93, g_93, h_93⟩ := hq9
                  have a_93 := AM.grow0 a_83 g_93 (fun c hc => by simp at hc) (fun k x y => by simp; omega) rfl
                  have lm_93 := a_93.1.2.2
                  rw [bt_83] at e_93
                  refine tz_cV (pc := 96) (m_keeps hl n _ _ (by omega) (a_93).2.2.2.1.1.1 (a_93).2.2.2.1.1.2) vl_X12_403 dX12_make_96 o_164 rfl rfl (Nat.le_of_ble_eq_true rfl) ⟨(Nat.le_of_ble_eq_true rfl), (Nat.le_of_ble_eq_true rfl)⟩ rfl rfl (Nat.le_of_ble_eq_true rfl) (Nat.le_of_ble_eq_true rfl) (fun r9 J_96 hq9 => ?_)
                  obtain ⟨z_96, rfl, hz_96, k_96⟩ := hq9
                  exact tz_iret (pc := 99) (z := z_96) dX12_make_99 rfl (Nat.le_of_ble_eq_true rfl) (Nat.le_of_ble_eq_true rfl) ⟨Nat.le_refl _, Nat.le_add_right _ _⟩ ⟨_, rfl, (by omega), (AE (AM.keep a_93 k_96) bi_83 (mact_end bt_83 bs_83 bm_83 ba_83 bu_83 bn_83 bf_83 (MOP.mg g_93) e_93.1 (by rw [← e_93.1]; show J_93 165 0 ≤ 400; have t9 := g_93.1.1.told; have s9 := g_93.1.1.2.2.2.2.1; omega) (fun _ => e_93.2) k_96) (by omega))⟩
                · refine tz_aload_n (pc := 75) dX12_make_75 rfl rfl ?_
                  refine tz_iconst (pc := 76) dX12_make_76 ?_
                  refine tz_iconst (pc := 77) dX12_make_77 ?_
                  refine tz_cV (pc := 78) (m_refuses hl n _ _ _ (by decide) (by decide) (by decide)) vl_X12_391 dX12_make_78 o_164 rfl rfl (Nat.le_of_ble_eq_true rfl) ⟨(Nat.le_of_ble_eq_true rfl), (Nat.le_of_ble_eq_true rfl)⟩ rfl rfl (Nat.le_of_ble_eq_true rfl) (Nat.le_of_ble_eq_true rfl) (fun r9 J_78 hq9 => ?_)
                  obtain ⟨z_78, rfl, hz_78, rfl, f_78⟩ := hq9
                  have y_78 : MZ J_78 J := MZ.tr (MZ.up (k := 8) MZ.rf (by decide)) (MZ.c f_78 (by decide))
                  exact tz_iret (pc := 81) (z := (-1)) dX12_make_81 rfl (Nat.le_of_ble_eq_true rfl) (Nat.le_of_ble_eq_true rfl) ⟨Nat.le_refl _, Nat.le_add_right _ _⟩ ⟨_, rfl, (by decide), ⟨MQr.z hI y_78, MFI.z y_78, Or.inr ⟨by omega, rfl, MBT.z hI y_78, u9.z y_78⟩⟩⟩

