/-! ===== apply, exact ===== -/
/-- the bindings of a row -/
def bO (S : zJ) : Int → Int := fun v => S 165 (1 + v) - 1
theorem apO_5 {β : Int → Int} : ∀ (k : Nat) (S : zJ) (t q : Int), ¬ q = 0 → (apO β k S t).1 165 q = S 165 q
  | 0, _, _, _, _ => rfl
  | k + 1, S, t, q, h => by
    have a : ∀ G i, (apA (apO β k) G t (oar S (S 166 (0 + t))) i).1 165 q = G 165 q := fun G i => by
      unfold apA
      split
      · exact apO_5 k G _ q h
      · rfl
    rw [apO_s]
    split
    · split
      · rfl
      · show (tmO _ _ _ _ _).1 165 q = _
        rw [tmO_5 h]
        unfold ap2
        rw [a]
        unfold ap1
        rw [a]
        unfold ap0
        rw [a]
    · rfl
theorem EXO.q {F : zJ × Int} {S J' J : zJ} {z m : Int} (e : EXO F z J') (w : RW (J 19) (S 165)) (l : LI (J 19) m) (e19 : J' 19 = J 19) (h5 : ∀ k, ¬ k = 0 → F.1 165 k = S 165 k) : (z = -3 ∧ ¬ F.1 164 21 = 0) ∨ (0 ≤ z ∧ F.1 164 21 = 0 ∧ A0 J' F.1 ∧ z = F.2 ∧ RW (J' 19) (F.1 165)) := by
  rcases e with q | ⟨q1, q2, q3, q4⟩
  · exact Or.inl q
  · refine Or.inr ⟨q1, q2, q3, q4, ?_⟩
    rw [e19]
    exact w.to l (fun k a b => h5 k (by omega))
set_option maxHeartbeats 4000000 in
set_option maxRecDepth 100000 in
theorem x_applied19 {l : Launch} {G : tb_G} (hl : l.stackTraces = false) (n : Nat) (J : zJ) (t : Int) (hr_t : -2147483648 ≤ t ∧ t < 2147483648) (m : Int) (C : CT J m) (hm : J 6 12 = m) (ht : 0 ≤ t ∧ t < m) (hr : rOK J 19 7 m) : tz_Ok l G M_X2_applied 9 0 0 [.ref 141, zi t, .ref 19, zi 7] n J (zqi (fun z J' => ∃ m', GR J' J m m' ∧ (z = -3 ∨ (0 ≤ z ∧ z < m')) ∧ ∀ (S : zJ) (β : Int → Int), (∀ v, 0 ≤ v → v < 8 → β v = J 19 (7 + v)) → S 164 21 = 0 → A0 J S → EXO (apO β 6 S t) z J')) zN := by
  refine tz_Ok.of hl (by decide +kernel) rfl (tb_c1 rfl) (Nat.le_of_ble_eq_true rfl) ?_
  show tz_At l G M_X2_applied (tb_rm 9 0 0) none (tb_ZM G 0 0 (zQ n 0 (zqi (fun z J' => ∃ m', GR J' J m m' ∧ (z = -3 ∨ (0 ≤ z ∧ z < m')) ∧ ∀ (S : zJ) (β : Int → Int), (∀ v, 0 ≤ v → v < 8 → β v = J 19 (7 + v)) → S 164 21 = 0 → A0 J S → EXO (apO β 6 S t) z J'))) (zX n 0 zN)) 0 0 n J 0 [some (.ref 141), some (zi t), some (.ref 19), some (zi 7)] []
  refine tz_aload_n (pc := 0) dX2_applied_0 rfl rfl ?_
  refine tz_iload_n (pc := 1) dX2_applied_1 rfl rfl ?_
  refine tz_aload_n (pc := 2) dX2_applied_2 rfl rfl ?_
  refine tz_iload_n (pc := 3) dX2_applied_3 rfl rfl ?_
  refine tz_iconst (pc := 4) dX2_applied_4 ?_
  refine tz_cV (pc := 5) (x_app19_1 hl n _ _ (by omega) m C hm ht hr) vl_X2_32 dX2_applied_5 o_141 rfl rfl (Nat.le_of_ble_eq_true rfl) ⟨(Nat.le_of_ble_eq_true rfl), (Nat.le_of_ble_eq_true rfl)⟩ rfl rfl (Nat.le_of_ble_eq_true rfl) (Nat.le_of_ble_eq_true rfl) (fun r9 J_5 hq9 => ?_)
  obtain ⟨z_5, rfl, hz_5, m1, g1, h1, x1⟩ := hq9
  exact tz_iret (pc := 8) (z := z_5) dX2_applied_8 rfl (Nat.le_of_ble_eq_true rfl) (Nat.le_of_ble_eq_true rfl) ⟨Nat.le_refl _, Nat.le_add_right _ _⟩ ⟨_, rfl, (by omega), ⟨m1, g1, h1, x1⟩⟩

set_option maxHeartbeats 4000000 in
set_option maxRecDepth 100000 in
theorem x_applied140 {l : Launch} {G : tb_G} (hl : l.stackTraces = false) (n : Nat) (J : zJ) (t : Int) (hr_t : -2147483648 ≤ t ∧ t < 2147483648) (m : Int) (C : CT J m) (hm : J 6 12 = m) (ht : 0 ≤ t ∧ t < m) (hr : rOK J 140 0 m) : tz_Ok l G M_X2_applied 9 0 0 [.ref 141, zi t, .ref 140, zi 0] n J (zqi (fun z J' => ∃ m', GR J' J m m' ∧ (z = -3 ∨ (0 ≤ z ∧ z < m')) ∧ ∀ (S : zJ) (β : Int → Int), (∀ v, 0 ≤ v → v < 8 → β v = J 140 (0 + v)) → S 164 21 = 0 → A0 J S → EXO (apO β 6 S t) z J')) zN := by
  refine tz_Ok.of hl (by decide +kernel) rfl (tb_c1 rfl) (Nat.le_of_ble_eq_true rfl) ?_
  show tz_At l G M_X2_applied (tb_rm 9 0 0) none (tb_ZM G 0 0 (zQ n 0 (zqi (fun z J' => ∃ m', GR J' J m m' ∧ (z = -3 ∨ (0 ≤ z ∧ z < m')) ∧ ∀ (S : zJ) (β : Int → Int), (∀ v, 0 ≤ v → v < 8 → β v = J 140 (0 + v)) → S 164 21 = 0 → A0 J S → EXO (apO β 6 S t) z J'))) (zX n 0 zN)) 0 0 n J 0 [some (.ref 141), some (zi t), some (.ref 140), some (zi 0)] []
  refine tz_aload_n (pc := 0) dX2_applied_0 rfl rfl ?_
  refine tz_iload_n (pc := 1) dX2_applied_1 rfl rfl ?_
  refine tz_aload_n (pc := 2) dX2_applied_2 rfl rfl ?_
  refine tz_iload_n (pc := 3) dX2_applied_3 rfl rfl ?_
  refine tz_iconst (pc := 4) dX2_applied_4 ?_
  refine tz_cV (pc := 5) (x_app140_1 hl n _ _ (by omega) m C hm ht hr) vl_X2_32 dX2_applied_5 o_141 rfl rfl (Nat.le_of_ble_eq_true rfl) ⟨(Nat.le_of_ble_eq_true rfl), (Nat.le_of_ble_eq_true rfl)⟩ rfl rfl (Nat.le_of_ble_eq_true rfl) (Nat.le_of_ble_eq_true rfl) (fun r9 J_5 hq9 => ?_)
  obtain ⟨z_5, rfl, hz_5, m1, g1, h1, x1⟩ := hq9
  exact tz_iret (pc := 8) (z := z_5) dX2_applied_8 rfl (Nat.le_of_ble_eq_true rfl) (Nat.le_of_ble_eq_true rfl) ⟨Nat.le_refl _, Nat.le_add_right _ _⟩ ⟨_, rfl, (by omega), ⟨m1, g1, h1, x1⟩⟩

set_option maxHeartbeats 4000000 in
set_option maxRecDepth 100000 in
theorem v_apply {l : Launch} {G : tb_G} (hl : l.stackTraces = false) (n : Nat) (J : zJ) (t : Int) (hr_t : -2147483648 ≤ t ∧ t < 2147483648) (m : Int) (S : zJ) (pn : Int) (RR : Int → Int → Int) (hI : CI J m) (h9 : J 145 10 < 1000000000) (cc : CAL J S pn RR) (h21 : S 164 21 = 0) : tz_Ok l G M_X11_apply 10 0 0 [.ref 0, zi t] n J (zqi (fun z J' => CQ J' J ∧ (((0 ≤ t ∧ t < J 6 12) ∧ ED S pn RR (apO (bO S) 6 S t) J' z) ∨ (¬ (0 ≤ t ∧ t < J 6 12) ∧ z = -1 ∧ CAL J' S pn RR)))) zN := by
  refine tz_Ok.of hl (by decide +kernel) rfl (tb_c1 rfl) (Nat.le_of_ble_eq_true rfl) ?_
  show tz_At l G M_X11_apply (tb_rm 10 0 0) none (tb_ZM G 0 0 (zQ n 0 (zqi (fun z J' => CQ J' J ∧ (((0 ≤ t ∧ t < J 6 12) ∧ ED S pn RR (apO (bO S) 6 S t) J' z) ∨ (¬ (0 ≤ t ∧ t < J 6 12) ∧ z = -1 ∧ CAL J' S pn RR))))) (zX n 0 zN)) 0 0 n J 0 [some (.ref 0), some (zi t)] []
  have hC := hI.1.1.1
  have hm := hI.1.1.2.1
  have hL := hI.1.1.2.2
  have hb := hC.told
  have wb := cc.2.1.b hL
  refine tz_aload_n (pc := 0) dX11_apply_0 rfl rfl ?_
  refine tz_fR (pc := 1) dX11_apply_1 fl_X11_29 r_0_1 ?_
  refine tz_fR (pc := 4) dX11_apply_4 fl_X11_49 r_5_0 ?_
  refine tz_iload_n (pc := 7) dX11_apply_7 rfl rfl ?_
  refine tz_cV (pc := 8) (c_has hl n _ _ (by omega)) vl_X11_304 dX11_apply_8 o_6 rfl rfl (Nat.le_of_ble_eq_true rfl) ⟨(Nat.le_of_ble_eq_true rfl), (Nat.le_of_ble_eq_true rfl)⟩ rfl rfl (Nat.le_of_ble_eq_true rfl) (Nat.le_of_ble_eq_true rfl) (fun r9 J_8 hq9 => ?_)
  obtain ⟨z_8, rfl, hz_8, rfl, rfl⟩ := hq9
  by_cases hw_11 : 0 ≤ t ∧ t < J 6 12
  · rw [show (if 0 ≤ t ∧ t < J 6 12 then 1 else 0 : Int) = 1 from if_pos hw_11]
    refine tz_if_neT (pc := 11) (tgt := 21) (by decide) dX11_apply_11 (by decide) (by decide) ?_
    refine tz_aload_n (pc := 21) dX11_apply_21 rfl rfl ?_
    refine tz_fR (pc := 22) dX11_apply_22 fl_X11_29 r_0_1 ?_
    refine tz_cV (pc := 25) (c_begin hl n _) vl_X11_287 dX11_apply_25 o_5 rfl rfl (Nat.le_of_ble_eq_true rfl) ⟨(Nat.le_of_ble_eq_true rfl), (Nat.le_of_ble_eq_true rfl)⟩ rfl rfl (Nat.le_of_ble_eq_true rfl) (Nat.le_of_ble_eq_true rfl) (fun r9 Jb hq9 => ?_)
    obtain ⟨rfl, hj⟩ := hq9
    have hb9 : zOf (zbut [19, 61]) Jb J := by rw [← hj]; exact zOf.cp rfl (zOf.up rfl zOf.rf)
    have hb19 : ∀ k, ¬ k = 0 → Jb 19 k = J 19 k := fun k hk => by rw [← hj, zcp_nc (by decide), zup_ne hk]
    have a0 : AC Jb m m := by rw [← hj]; exact hI.begin
    have hb6 := a0.1.1.2.1
    obtain ⟨cb, kb, lb⟩ := cc.begin hI hj
    refine tz_aload_n (pc := 28) dX11_apply_28 rfl rfl ?_
    refine tz_aload_n (pc := 29) dX11_apply_29 rfl rfl ?_
    refine tz_fR (pc := 30) dX11_apply_30 fl_X11_62 r_0_7 ?_
    refine tz_iload_n (pc := 33) dX11_apply_33 rfl rfl ?_
    refine tz_aload_n (pc := 34) dX11_apply_34 rfl rfl ?_
    refine tz_fR (pc := 35) dX11_apply_35 fl_X11_29 r_0_1 ?_
    refine tz_fR (pc := 38) dX11_apply_38 fl_X11_156 r_5_1 ?_
    refine tz_fR (pc := 41) dX11_apply_41 fl_X11_167 r_18_0 ?_
    refine tz_bipush (pc := 44) dX11_apply_44 (by decide) ?_
    refine tz_cV (pc := 46) (x_applied19 hl n _ _ (by omega) m a0.1.1.1 a0.1.1.2.1 (by omega) a0.1.1.2.2.2.1) vl_X11_308 dX11_apply_46 o_141 rfl rfl (Nat.le_of_ble_eq_true rfl) ⟨(Nat.le_of_ble_eq_true rfl), (Nat.le_of_ble_eq_true rfl)⟩ rfl rfl (Nat.le_of_ble_eq_true rfl) (Nat.le_of_ble_eq_true rfl) (fun r9 J_46 hq9 => ?_)
    obtain ⟨z_46, rfl, hz_46, m1, g1, h1, x1⟩ := hq9
    have a1 := a0.gx0 (g1.x (X := [])) rfl
    have o1 := (x1 S (bO S) (fun v a b => by have := cb.2.1.2.2.2.2 v a b; unfold bO; omega) h21 cb.1).q cb.2.1 a0.1.1.2.2 (g1.2.2.2.2 19 rfl) (fun k h => apO_5 6 S t k h)
    refine tz_cV (pc := 49) (x_settled hl n _ _ (by omega) m m1 a1) vl_X11_293 dX11_apply_49 o_0 rfl rfl (Nat.le_of_ble_eq_true rfl) ⟨(Nat.le_of_ble_eq_true rfl), (Nat.le_of_ble_eq_true rfl)⟩ rfl rfl (Nat.le_of_ble_eq_true rfl) (Nat.le_of_ble_eq_true rfl) (fun r9 J_49 hq9 => ?_)
    obtain ⟨z_49, rfl, hz_49, s9, s8⟩ := hq9
    exact tz_iret (pc := 52) (z := z_49) dX11_apply_52 rfl (Nat.le_of_ble_eq_true rfl) (Nat.le_of_ble_eq_true rfl) ⟨Nat.le_refl _, Nat.le_add_right _ _⟩ ⟨_, rfl, (by omega), ⟨(s9.cq (by rw [g1.2.2.2.2 145 rfl, hb9 145 rfl]; omega) ((g1.2.2.2.2 0 rfl).trans (hb9 0 rfl)) ((g1.2.2.2.2.mono (fun c hc => by have := of_decide_eq_true hc; simp [zbut]; omega)).tr (hb9.mono (fun c hc => by have := of_decide_eq_true hc; simp [zbut]; omega)))), Or.inl ⟨by omega, act_end cc hI hj (g1.x (X := [])) rfl o1 s8⟩⟩⟩
  · rw [show (if 0 ≤ t ∧ t < J 6 12 then 1 else 0 : Int) = 0 from if_neg hw_11]
    refine tz_if_neF (pc := 11) (tgt := 21) (by decide) dX11_apply_11 (by decide) (by decide) ?_
    refine tz_aload_n (pc := 14) dX11_apply_14 rfl rfl ?_
    refine tz_iconst (pc := 15) dX11_apply_15 ?_
    refine tz_iconst (pc := 16) dX11_apply_16 ?_
    refine tz_cV (pc := 17) (c_refused hl n _ _ _ (by decide) (by omega) (by decide)) vl_X11_284 dX11_apply_17 o_0 rfl rfl (Nat.le_of_ble_eq_true rfl) ⟨(Nat.le_of_ble_eq_true rfl), (Nat.le_of_ble_eq_true rfl)⟩ rfl rfl (Nat.le_of_ble_eq_true rfl) (Nat.le_of_ble_eq_true rfl) (fun r9 J_17 hq9 => ?_)
    obtain ⟨z_17, rfl, hz_17, f9, rfl⟩ := hq9
    exact tz_iret (pc := 20) (z := (-1)) dX11_apply_20 rfl (Nat.le_of_ble_eq_true rfl) (Nat.le_of_ble_eq_true rfl) ⟨Nat.le_refl _, Nat.le_add_right _ _⟩ ⟨_, rfl, (by decide), ⟨(SQ.cq ⟨⟨m, hI.st f9⟩, f9 145 rfl, f9 0 rfl, (f9.mono (fun c hc => by have := of_decide_eq_true hc; simp [zbut]; omega))⟩ (by omega) rfl zOf.rf), Or.inr ⟨by omega, rfl, cc.st hI f9⟩⟩⟩

set_option maxHeartbeats 4000000 in
set_option maxRecDepth 100000 in
theorem x_laysB {l : Launch} {G : tb_G} (hl : l.stackTraces = false) (n : Nat) (J : zJ)   (m : Int) (hb : ∀ v, 1 ≤ v → v ≤ 8 → 0 ≤ J 165 v ∧ J 165 v ≤ m) (h4 : m ≤ 400) : tz_Ok l G M_X12_laysBound 0 0 0 [.ref 164] n J (zqv (fun J' => (∀ v, 0 ≤ v → v < 8 → J' 175 v = J 165 (1 + v) - 1) ∧ zOf (zbut [175]) J' J)) zN := by
  refine tz_Ok.of hl (by decide +kernel) rfl (tb_c1 rfl) (Nat.le_of_ble_eq_true rfl) ?_
  show tz_At l G M_X12_laysBound (tb_rm 0 0 0) none (tb_ZM G 0 0 (zQ n 0 (zqv (fun J' => (∀ v, 0 ≤ v → v < 8 → J' 175 v = J 165 (1 + v) - 1) ∧ zOf (zbut [175]) J' J))) (zX n 0 zN)) 0 0 n J 0 [some (.ref 164), none] []
  refine tz_iconst (pc := 0) dX12_laysBound_0 ?_
  refine tz_istore_n (pc := 1) (L2 := [_, _]) dX12_laysBound_1 rfl (by decide) rfl ?_
  have loop2 : ∀ (f9 : Nat) (k : Int) (J1 : zJ), ((8 - k).toNat) < f9 → (0 ≤ k ∧ k ≤ 8) → (zOf (zbut [175]) J1 J) → (∀ v, 0 ≤ v → v < k → J1 175 v = J 165 (1 + v) - 1) → tz_At l G M_X12_laysBound (tb_rm 0 0 0) none (tb_ZM G 0 0 (zQ n 0 (zqv (fun J' => (∀ v, 0 ≤ v → v < 8 → J' 175 v = J 165 (1 + v) - 1) ∧ zOf (zbut [175]) J' J))) (zX n 0 zN)) 0 0 n J1 2 [some (.ref 164), some (zi k)] [] := by
    intro f9
    induction f9 with
    | zero => intro k J1 hm9; exact absurd hm9 (Nat.not_lt_zero _)
    | succ f9 ih2 =>
      intro k J1 hm2 hk f1 h1
      refine tz_iload_n (pc := 2) dX12_laysBound_2 rfl rfl ?_
      refine tz_bipush (pc := 3) dX12_laysBound_3 (by decide) ?_
      refine tz_icmp_ge (pc := 5) (tgt := 30) dX12_laysBound_5 (by decide) (by omega) (by decide) (fun h_5 => ?_) (fun h_5 => ?_)
      · exact tz_vret (pc := 30) dX12_laysBound_30 rfl (Nat.le_of_ble_eq_true rfl) (Nat.le_of_ble_eq_true rfl) ⟨Nat.le_refl _, Nat.le_add_right _ _⟩ ⟨rfl, ⟨fun v a c => h1 v a (by omega), f1⟩⟩
      · refine tz_aload_n (pc := 8) dX12_laysBound_8 rfl rfl ?_
        refine tz_fR (pc := 9) dX12_laysBound_9 fl_X12_44 r_164_23 ?_
        refine tz_iload_n (pc := 12) dX12_laysBound_12 rfl rfl ?_
        refine tz_aload_n (pc := 13) dX12_laysBound_13 rfl rfl ?_
        refine tz_fR (pc := 14) dX12_laysBound_14 fl_X12_9 r_164_0 ?_
        refine tz_iconst (pc := 17) dX12_laysBound_17 ?_
        refine tz_iload_n (pc := 18) dX12_laysBound_18 rfl rfl ?_
        refine tz_iadd (pc := 19) (v := 1 + k) dX12_laysBound_19 rfl ?_
        refine tz_aL (pc := 20) (z := (1 + k)) (v := (J 165 (1 + k))) dX12_laysBound_20 a_165 rfl (by omega) (Eq.trans (congrFun (f1 165 rfl) (1 + k)) rfl) (fun r_20 => ?_)
        refine tz_iconst (pc := 21) dX12_laysBound_21 ?_
        refine tz_isub (pc := 22) (v := (J 165 (1 + k)) - 1) dX12_laysBound_22 rfl ?_
        have hb9 := hb (1 + k) (by omega) (by omega)
        refine tz_aS (pc := 23) (z := k) dX12_laysBound_23 a_175 rfl (by omega) (by omega) ?_
        refine tz_iinc (pc := 24) (z := k + 1) (L2 := [_, _]) dX12_laysBound_24 rfl (by omega) rfl ?_
        refine tz_goto (pc := 27) (tgt := 2) dX12_laysBound_27 (by decide) ?_
        exact ih2 (k + 1) _ (by omega) (by omega) (zOf.up rfl f1) (fun v a c => (Decidable.em (v = k)).elim (fun e => by rw [e, zup_at]) (fun e => by rw [zup_ne e]; exact h1 v a (by omega)))
  exact loop2 _ 0 _ (Nat.lt_succ_self _) (by omega) zOf.rf (fun v a c => by omega)

theorem o_appB {l : Launch} {G : tb_G} (hl : l.stackTraces = false) (n : Nat) (J : zJ) (t : Int) (hr_t : -2147483648 ≤ t ∧ t < 2147483648) (s m : Int) (hM : MS J 0 0 0 s m) (hs : J 164 9 = s) (ht : 0 ≤ t ∧ t < m) (hy : gOK (J 175) m) : tz_Ok l G M_X12_appliedBy 11 0 0 [.ref 164, zi t, .ref 175] n J (zqi (fun z J' => ∃ m', MG [] [] (fun _ => false) J' J 0 0 0 s m m' ∧ (J' 164 21 = 0 → 0 ≤ z ∧ z < m') ∧ ∀ (k : Nat) (β : Int → Int), (∀ v, 0 ≤ v → v < 8 → β v = J 175 v) → J 168 (0 + t) ≤ k → (tb0 J', z) = apO β k (tb0 J) t)) zN := o_appBR hl n 7 J t hr_t s m hM hs ht hy (by have := (hM.ar ht).2.2.1; omega)
theorem MOP.c {Jo J1 Jb : zJ} {m : Int} (p : MOP Jo J1 m) (f : zOf (zbut [175]) J1 Jb) : MOP Jo Jb m := by
  unfold MOP MFI at *
  rw [← f 164 rfl, ← f 165 rfl, ← f 166 rfl, ← f 167 rfl, ← f 168 rfl, ← f 169 rfl, ← f 170 rfl, ← f 171 rfl]
  exact p
theorem tb0_c {J1 J : zJ} (f : zOf (zbut [175]) J1 J) : tb0 J1 = tb0 J := tb0_of (by rw [f 164 rfl]) (by rw [f 164 rfl]) (fun k _ _ => by rw [f 165 rfl]) (fun k _ _ => ⟨by rw [f 166 rfl], by rw [f 168 rfl]⟩) (fun k _ _ => by rw [f 167 rfl]) (fun k _ _ => ⟨by rw [f 169 rfl], by rw [f 170 rfl], by rw [f 171 rfl]⟩)
set_option maxHeartbeats 4000000 in
set_option maxRecDepth 100000 in
theorem v_qapply {l : Launch} {G : tb_G} (hl : l.stackTraces = false) (n : Nat) (J : zJ) (x : Int) (hr_x : -2147483648 ≤ x ∧ x < 2147483648) (m : Int) (pn : Int) (RR : Int → Int → Int) (hI : MI J m) (u9 : MUr J pn RR) : tz_Ok l G M_X12_apply 12 0 0 [.ref 164, zi x] n J (zqi (fun z J' => MQr J' J ∧ MFI J' J ∧ (((0 ≤ x ∧ x < J 165 0) ∧ MED (tbz J) pn RR (apO (bO (tbz J)) 6 (tbz J) x) J' z) ∨ (¬ (0 ≤ x ∧ x < J 165 0) ∧ z = -1 ∧ MBT J' (tbz J) ∧ MUr J' pn RR)))) zN := by
  refine tz_Ok.of hl (by decide +kernel) rfl (tb_c1 rfl) (Nat.le_of_ble_eq_true rfl) ?_
  show tz_At l G M_X12_apply (tb_rm 12 0 0) none (tb_ZM G 0 0 (zQ n 0 (zqi (fun z J' => MQr J' J ∧ MFI J' J ∧ (((0 ≤ x ∧ x < J 165 0) ∧ MED (tbz J) pn RR (apO (bO (tbz J)) 6 (tbz J) x) J' z) ∨ (¬ (0 ≤ x ∧ x < J 165 0) ∧ z = -1 ∧ MBT J' (tbz J) ∧ MUr J' pn RR))))) (zX n 0 zN)) 0 0 n J 0 [some (.ref 164), some (zi x)] []
  have hT := hI.told
  have hW := hI.row
  have hM := hI.1
  have hL := hI.2.1
  refine tz_aload_n (pc := 0) dX12_apply_0 rfl rfl ?_
  refine tz_iconst (pc := 1) dX12_apply_1 ?_
  refine tz_pI (pc := 2) (kz := 8) dX12_apply_2 fl_X12_68 i_164_8 rfl rfl (by decide) ?_
  refine tz_aload_n (pc := 5) dX12_apply_5 rfl rfl ?_
  refine tz_iload_n (pc := 6) dX12_apply_6 rfl rfl ?_
  refine tz_cV (pc := 7) (m_isTerm hl n _ _ (by omega) (by rw [(show ((zup J 164 8 0) : zJ) 165 0 = (J 165 0) from rfl)]; omega)) vl_X12_376 dX12_apply_7 o_164 rfl rfl (Nat.le_of_ble_eq_true rfl) ⟨(Nat.le_of_ble_eq_true rfl), (Nat.le_of_ble_eq_true rfl)⟩ rfl rfl (Nat.le_of_ble_eq_true rfl) (Nat.le_of_ble_eq_true rfl) (fun r9 J_7 hq9 => ?_)
  obtain ⟨z_7, rfl, hz_7, rfl, ht_7⟩ := hq9
  rw [(show ((zup J 164 8 0) : zJ) 165 0 = (J 165 0) from rfl)] at ht_7
  refine tz_if_ne (pc := 10) (tgt := 20) dX12_apply_10 (by decide) (by omega) (fun h_10 => ?_) (fun h_10 => ?_)
  · refine tz_aload_n (pc := 20) dX12_apply_20 rfl rfl ?_
    refine tz_cV (pc := 21) (m_begins hl n _) vl_X12_400 dX12_apply_21 o_164 rfl rfl (Nat.le_of_ble_eq_true rfl) ⟨(Nat.le_of_ble_eq_true rfl), (Nat.le_of_ble_eq_true rfl)⟩ rfl rfl (Nat.le_of_ble_eq_true rfl) (Nat.le_of_ble_eq_true rfl) (fun r9 J_21 hq9 => ?_)
    obtain ⟨rfl, hj_21⟩ := hq9
    have a_21 : AM J_21 J m m := by rw [← hj_21]; exact AM.begin (hI.z (MZ.up (k := 8) MZ.rf (by decide))) ⟨MZ.lo (MZ.up (k := 8) MZ.rf (by decide)), SC.z (MZ.up (k := 8) MZ.rf (by decide))⟩
    have br_21 : ∀ k, (k < 63 ∨ 126 ≤ k) → J_21 165 k = ((zup J 164 8 0) : zJ) 165 k := fun k hk => by rw [← hj_21]; exact zbg_r hk
    have bl_21 : ∀ k, ¬ k = 34 → ¬ k = 33 → ¬ k = 21 → J_21 164 k = ((zup J 164 8 0) : zJ) 164 k := fun k u v w => by rw [← hj_21]; exact zbg_f u v w
    have bo_21 : zOf (zbut [164, 165]) J_21 (zup J 164 8 0) := by rw [← hj_21]; exact zbg_of
    have b3_21 : J_21 164 21 = 0 ∧ J_21 164 33 = 0 ∧ J_21 164 34 = 0 := by rw [← hj_21]; exact ⟨rfl, rfl, rfl⟩
    have s9_21 : J_21 164 9 = J 164 9 := (bl_21 9 (by decide) (by decide) (by decide)).trans ((MZ.up (k := 8) MZ.rf (by decide)).2 9 (by decide) (by decide))
    obtain ⟨⟨bt_21, bs_21, bm_21, ba_21⟩, bu_21, bn_21, bf_21, bi_21⟩ := mbeg hI (MZ.up (k := 8) MZ.rf (by decide)) hj_21 u9
    refine tz_aload_n (pc := 24) dX12_apply_24 rfl rfl ?_
    refine tz_cV (pc := 25) (x_laysB hl n _ m ((a_21).2.1 b3_21.1).2.2.2 (by omega)) vl_X12_406 dX12_apply_25 o_164 rfl rfl (Nat.le_of_ble_eq_true rfl) ⟨(Nat.le_of_ble_eq_true rfl), (Nat.le_of_ble_eq_true rfl)⟩ rfl rfl (Nat.le_of_ble_eq_true rfl) (Nat.le_of_ble_eq_true rfl) (fun r9 J_25 hq9 => ?_)
    obtain ⟨rfl, l_25, f_25⟩ := hq9
    have a_25 := AM.z a_21 (MZ.c f_25 (by decide)) (by rw [f_25 164 rfl]; exact id)
    have gk_25 : gOK (J_25 175) m := fun v a c => by have q9 := ((a_21).2.1 b3_21.1).2.2.2 (1 + v) (by omega) (by omega); rw [l_25 v a c]; omega
    refine tz_aload_n (pc := 28) dX12_apply_28 rfl rfl ?_
    refine tz_aload_n (pc := 29) dX12_apply_29 rfl rfl ?_
    refine tz_iload_n (pc := 30) dX12_apply_30 rfl rfl ?_
    refine tz_aload_n (pc := 31) dX12_apply_31 rfl rfl ?_
    refine tz_fR (pc := 32) dX12_apply_32 fl_X12_44 r_164_23 ?_
    refine tz_cV (pc := 35) (o_appB hl n _ _ (by omega) (J_25 164 9) m (a_25).1.1 rfl (by omega) gk_25) vl_X12_148 dX12_apply_35 o_164 rfl rfl (Nat.le_of_ble_eq_true rfl) ⟨(Nat.le_of_ble_eq_true rfl), (Nat.le_of_ble_eq_true rfl)⟩ rfl rfl (Nat.le_of_ble_eq_true rfl) (Nat.le_of_ble_eq_true rfl) (fun r9 J_35 hq9 => ?_)
    obtain ⟨z_35, rfl, hz_35, m_35, g_35, h_35, x_35⟩ := hq9
    have a_35 := AM.grow0 a_25 g_35 (fun c hc => by simp at hc) (fun k x y => by simp; omega) rfl
    have lm_35 := a_35.1.2.2
    have d9 := ((a_25).1.1.ar (t := x) (by omega)).2.2.1
    have e_35 := x_35 6 (bO (tbz J)) (fun v a c => by rw [l_25 v a c, ← bt_21]; unfold bO; rw [tb0_5, if_pos (by omega)]) d9.2
    rw [tb0_c f_25, bt_21] at e_35
    refine tz_cV (pc := 38) (m_keeps hl n _ _ (by omega) (a_35).2.2.2.1.1.1 (a_35).2.2.2.1.1.2) vl_X12_403 dX12_apply_38 o_164 rfl rfl (Nat.le_of_ble_eq_true rfl) ⟨(Nat.le_of_ble_eq_true rfl), (Nat.le_of_ble_eq_true rfl)⟩ rfl rfl (Nat.le_of_ble_eq_true rfl) (Nat.le_of_ble_eq_true rfl) (fun r9 J_38 hq9 => ?_)
    obtain ⟨z_38, rfl, hz_38, k_38⟩ := hq9
    exact tz_iret (pc := 41) (z := z_38) dX12_apply_41 rfl (Nat.le_of_ble_eq_true rfl) (Nat.le_of_ble_eq_true rfl) ⟨Nat.le_refl _, Nat.le_add_right _ _⟩ ⟨_, rfl, (by omega), (AE (AM.keep a_35 k_38) bi_21 (mact_end (F := apO (bO (tbz J)) 6 (tbz J) x) bt_21 bs_21 bm_21 ba_21 bu_21 bn_21 bf_21 ((MOP.mg g_35).c f_25) (congrArg Prod.fst e_35) (by rw [← congrArg Prod.fst e_35]; show J_35 165 0 ≤ 400; have t9 := g_35.1.1.told; have s9 := g_35.1.1.2.2.2.2.1; omega) (fun _ => congrArg Prod.snd e_35) k_38) (by omega))⟩
  · refine tz_aload_n (pc := 13) dX12_apply_13 rfl rfl ?_
    refine tz_iconst (pc := 14) dX12_apply_14 ?_
    refine tz_iconst (pc := 15) dX12_apply_15 ?_
    refine tz_cV (pc := 16) (m_refuses hl n _ _ _ (by decide) (by decide) (by decide)) vl_X12_391 dX12_apply_16 o_164 rfl rfl (Nat.le_of_ble_eq_true rfl) ⟨(Nat.le_of_ble_eq_true rfl), (Nat.le_of_ble_eq_true rfl)⟩ rfl rfl (Nat.le_of_ble_eq_true rfl) (Nat.le_of_ble_eq_true rfl) (fun r9 J_16 hq9 => ?_)
    obtain ⟨z_16, rfl, hz_16, rfl, f_16⟩ := hq9
    have y_16 : MZ J_16 J := MZ.tr (MZ.up (k := 8) MZ.rf (by decide)) (MZ.c f_16 (by decide))
    exact tz_iret (pc := 19) (z := (-1)) dX12_apply_19 rfl (Nat.le_of_ble_eq_true rfl) (Nat.le_of_ble_eq_true rfl) ⟨Nat.le_refl _, Nat.le_add_right _ _⟩ ⟨_, rfl, (by decide), ⟨MQr.z hI y_16, MFI.z y_16, Or.inr ⟨by omega, rfl, MBT.z hI y_16, u9.z y_16⟩⟩⟩

