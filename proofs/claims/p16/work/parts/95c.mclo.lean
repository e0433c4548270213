/-! ===== closedOf of the reference, exact ===== -/
theorem gm_st {T : zJ → Int → zJ × Int} {G G1 : zJ} {A i z : Int} (a : (i < A ∧ (G1, z) = T G i) ∨ (¬ i < A ∧ G1 = G ∧ z = 0)) : gA T G A i = (G1, z) := by
  unfold gA
  rcases a with ⟨p, q⟩ | ⟨p, q, r⟩
  · rw [if_pos p, q]
  · rw [if_neg p, q, r]
/-- the reference's arguments, one after the other -/
theorem gm_end {T : zJ → Int → zJ × Int} {G G0 G1 G2 G' : zJ} {h A z0 z1 z2 z : Int} (hA : oar G h = A) (a0 : (0 < A ∧ (G0, z0) = T G 0) ∨ (¬ 0 < A ∧ G0 = G ∧ z0 = 0)) (a1 : (1 < A ∧ (G1, z1) = T G0 1) ∨ (¬ 1 < A ∧ G1 = G0 ∧ z1 = 0)) (a2 : (2 < A ∧ (G2, z2) = T G1 2) ∨ (¬ 2 < A ∧ G2 = G1 ∧ z2 = 0)) (p : (G', z) = tmO G2 h z0 z1 z2) : (G', z) = gR T G h := by
  have s1 : gst T G A 1 = (G0, z0) := gm_st a0
  have s2 : gst T G A 2 = (G1, z1) := by rw [gst_s, s1]; exact gm_st a1
  have s3 : gst T G A 3 = (G2, z2) := by rw [gst_s, s2]; exact gm_st a2
  unfold gR
  rw [hA, s1, s2, s3]
  exact p
theorem tb0_2z {J J1 : zJ} {z : Int} (e : zup J 164 21 z = J1) (h : J 164 21 = z) : tb0 J1 = tb0 J := by
  subst e
  exact tb0_of rfl (by rw [zup_at]; exact h.symm) (fun _ _ _ => rfl) (fun _ _ _ => ⟨rfl, rfl⟩) (fun _ _ _ => rfl) (fun _ _ _ => ⟨rfl, rfl, rfl⟩)
theorem tb0_2o {J J1 : zJ} (e : zup J 164 21 1 = J1) : tb0 J1 = zup (tb0 J) 164 21 1 := by rw [← e]; exact tb0_fu
/-- what the closing of the reference goes by -/
def CRm (O : Int → Int → Prop) (rk : Int → Nat) (P : Int → Prop) (ρ : Int → Int) (J : zJ) (m0 : Int) : Prop := CR O rk P J 0 0 m0 ∧ ∀ t, 0 ≤ t → t < m0 → (∀ v, O t v → P v) → (J 166 (0 + t) < 0 → ¬ J 175 (-1 - J 166 (0 + t)) = -1 → ρ t = ρ (J 175 (-1 - J 166 (0 + t)))) ∧ ((0 ≤ J 166 (0 + t) ∨ J 175 (-1 - J 166 (0 + t)) = -1) → ρ t = t)
theorem CRm.mg {O : Int → Int → Prop} {rk : Int → Nat} {P : Int → Prop} {ρ : Int → Int} {J' J : zJ} {s m m' m0 : Int} (h : CRm O rk P ρ J m0) (hm : m0 ≤ m) (g : MG [] [] (fun _ => false) J' J 0 0 0 s m m') : CRm O rk P ρ J' m0 := ⟨h.1.mg hm g, fun t a b => by
  rw [(g.2.1 t a (by omega)).1.1, g.2.2.1.2.2.2 175 rfl]
  exact h.2 t a b⟩
theorem gr_f {ρ : Int → Int} {J : zJ} {k : Nat} {t : Int} (h : ¬ J 164 21 = 0) : (tb0 J, 0) = grO ρ k (tb0 J) t := (grO_F (show ¬ tb0 J 164 21 = 0 from h)).symm
theorem gr_u {ρ : Int → Int} {J J1 : zJ} {k : Nat} {t : Int} (h : J 164 21 = 0) (e : zup J 164 21 1 = J1) (hk : k = 0) : (tb0 J1, 0) = grO ρ k (tb0 J) t := by
  subst hk
  rw [grO_0 (show tb0 J 164 21 = 0 from h), tb0_2o e]
theorem gr_v {ρ : Int → Int} {J J1 : zJ} {s m t : Int} {k : Nat} (hM : MS J 0 0 0 s m) (ht : 0 ≤ t ∧ t < m) (h : J 164 21 = 0) (e : zup J 164 21 0 = J1) (hk : ¬ k = 0) (hv : J 166 (0 + t) < 0) (er : ρ t = t) : (tb0 J1, t) = grO ρ k (tb0 J) t := by
  obtain ⟨k, rfl⟩ : ∃ k', k = k' + 1 := ⟨k - 1, by omega⟩
  rw [grO_s, if_pos (show tb0 J 164 21 = 0 from h), er, (hM.oa ht).1, if_pos hv, tb0_2z e h]
theorem gr_c {ρ : Int → Int} {J Jd J0 J1 J2 J' : zJ} {s m t z0 z1 z2 z : Int} {k : Nat} (hM : MS J 0 0 0 s m) (ht : 0 ≤ t ∧ t < m) (h : J 164 21 = 0) (e : zup J 164 21 0 = Jd) (hk : ¬ k = 0) (hv : ¬ J 166 (0 + t) < 0) (er : ρ t = t) (a0 : (0 < mar J 0 0 t ∧ (tb0 J0, z0) = grO ρ (k - 1) (tb0 Jd) (Jd 167 (3 * (0 + t) + 0))) ∨ (¬ 0 < mar J 0 0 t ∧ J0 = Jd ∧ z0 = 0)) (a1 : (1 < mar J 0 0 t ∧ (tb0 J1, z1) = grO ρ (k - 1) (tb0 J0) (J0 167 (3 * (0 + t) + 1))) ∨ (¬ 1 < mar J 0 0 t ∧ J1 = J0 ∧ z1 = 0)) (a2 : (2 < mar J 0 0 t ∧ (tb0 J2, z2) = grO ρ (k - 1) (tb0 J1) (J1 167 (3 * (0 + t) + 2))) ∨ (¬ 2 < mar J 0 0 t ∧ J2 = J1 ∧ z2 = 0)) (p : (tb0 J', z) = tmO (tb0 J2) (J 166 (0 + t)) z0 z1 z2) : (tb0 J', z) = grO ρ k (tb0 J) t := by
  have hT := hM.told
  have ed := tb0_2z e h
  obtain ⟨k, rfl⟩ : ∃ k', k = k' + 1 := ⟨k - 1, by omega⟩
  rw [show k + 1 - 1 = k from rfl] at a0 a1 a2
  rw [grO_s, if_pos (show tb0 J 164 21 = 0 from h), er, (hM.oa ht).1, if_neg hv]
  have w : ∀ (Q : zJ) (i : Int), 0 ≤ i → i < 3 → tb0 Q 167 (3 * (0 + t) + i) = Q 167 (3 * (0 + t) + i) := fun Q i a b => by rw [tb0_7, if_pos (by omega)]
  refine gm_end (A := mar J 0 0 t) (G0 := tb0 J0) (G1 := tb0 J1) (G2 := tb0 J2) (z0 := z0) (z1 := z1) (z2 := z2) ?_ ?_ ?_ ?_ p
  · have := (hM.oa ht).2
    rw [(hM.oa ht).1] at this
    exact this
  · rcases a0 with ⟨a, b⟩ | ⟨a, b, c⟩
    · refine Or.inl ⟨a, ?_⟩
      (try dsimp only)
      rw [← ed, w Jd 0 (by decide) (by decide)]
      exact b
    · exact Or.inr ⟨a, by rw [b, ed], c⟩
  · rcases a1 with ⟨a, b⟩ | ⟨a, b, c⟩
    · refine Or.inl ⟨a, ?_⟩
      (try dsimp only)
      rw [w J0 1 (by decide) (by decide)]
      exact b
    · exact Or.inr ⟨a, by rw [b], c⟩
  · rcases a2 with ⟨a, b⟩ | ⟨a, b, c⟩
    · refine Or.inl ⟨a, ?_⟩
      (try dsimp only)
      rw [w J1 2 (by decide) (by decide)]
      exact b
    · exact Or.inr ⟨a, by rw [b], c⟩
set_option maxHeartbeats 4000000 in
set_option maxRecDepth 100000 in
theorem o_deep {l : Launch} {G : tb_G} (hl : l.stackTraces = false) (n : Nat) (J : zJ) (x : Int) (hr_x : -2147483648 ≤ x ∧ x < 2147483648)   : tz_Ok l G M_X12_isTooDeep 0 0 0 [.ref 164, zi x] n J (zqi (fun z J' => zup J 164 21 z = J' ∧ ((z = 0 ∧ J 164 21 = 0 ∧ x ≤ 6) ∨ (z = 1 ∧ (¬ J 164 21 = 0 ∨ 6 < x))))) zN := by
  refine tz_Ok.of hl (by decide +kernel) rfl (tb_c1 rfl) (Nat.le_of_ble_eq_true rfl) ?_
  show tz_At l G M_X12_isTooDeep (tb_rm 0 0 0) none (tb_ZM G 0 0 (zQ n 0 (zqi (fun z J' => zup J 164 21 z = J' ∧ ((z = 0 ∧ J 164 21 = 0 ∧ x ≤ 6) ∨ (z = 1 ∧ (¬ J 164 21 = 0 ∨ 6 < x)))))) (zX n 0 zN)) 0 0 n J 0 [some (.ref 164), some (zi x)] []
  refine tz_aload_n (pc := 0) dX12_isTooDeep_0 rfl rfl ?_
  refine tz_aload_n (pc := 1) dX12_isTooDeep_1 rfl rfl ?_
  refine tz_fI (pc := 2) (kz := 21) (v := (J 164 21)) dX12_isTooDeep_2 fl_X12_92 i_164_21 rfl rfl (fun r_2 => ?_)
  refine tz_if_ne (pc := 5) (tgt := 14) dX12_isTooDeep_5 (by decide) (by omega) (fun h_5 => ?_) (fun h_5 => ?_)
  · refine tz_iconst (pc := 14) dX12_isTooDeep_14 ?_
    refine tz_goto (pc := 15) (tgt := 19) dX12_isTooDeep_15 (by decide) ?_
    refine tz_pZ (pc := 19) (kz := 21) dX12_isTooDeep_19 fl_X12_92 i_164_21 rfl rfl (Or.inr rfl) ?_
    refine tz_aload_n (pc := 22) dX12_isTooDeep_22 rfl rfl ?_
    refine tz_fI (pc := 23) (kz := 21) (v := 1) dX12_isTooDeep_23 fl_X12_92 i_164_21 rfl rfl (fun _ => ?_)
    exact tz_zret (pc := 26) (z := 1) dX12_isTooDeep_26 rfl (Or.inr rfl) (Nat.le_of_ble_eq_true rfl) (Nat.le_of_ble_eq_true rfl) ⟨Nat.le_refl _, Nat.le_add_right _ _⟩ ⟨_, rfl, (by decide), ⟨rfl, by omega⟩⟩
  · refine tz_iload_n (pc := 8) dX12_isTooDeep_8 rfl rfl ?_
    refine tz_bipush (pc := 9) dX12_isTooDeep_9 (by decide) ?_
    refine tz_icmp_le (pc := 11) (tgt := 18) dX12_isTooDeep_11 (by decide) (by omega) (by decide) (fun h_11 => ?_) (fun h_11 => ?_)
    · refine tz_iconst (pc := 18) dX12_isTooDeep_18 ?_
      refine tz_pZ (pc := 19) (kz := 21) dX12_isTooDeep_19 fl_X12_92 i_164_21 rfl rfl (Or.inl rfl) ?_
      refine tz_aload_n (pc := 22) dX12_isTooDeep_22 rfl rfl ?_
      refine tz_fI (pc := 23) (kz := 21) (v := 0) dX12_isTooDeep_23 fl_X12_92 i_164_21 rfl rfl (fun _ => ?_)
      exact tz_zret (pc := 26) (z := 0) dX12_isTooDeep_26 rfl (Or.inl rfl) (Nat.le_of_ble_eq_true rfl) (Nat.le_of_ble_eq_true rfl) ⟨Nat.le_refl _, Nat.le_add_right _ _⟩ ⟨_, rfl, (by decide), ⟨rfl, by omega⟩⟩
    · refine tz_iconst (pc := 14) dX12_isTooDeep_14 ?_
      refine tz_goto (pc := 15) (tgt := 19) dX12_isTooDeep_15 (by decide) ?_
      refine tz_pZ (pc := 19) (kz := 21) dX12_isTooDeep_19 fl_X12_92 i_164_21 rfl rfl (Or.inr rfl) ?_
      refine tz_aload_n (pc := 22) dX12_isTooDeep_22 rfl rfl ?_
      refine tz_fI (pc := 23) (kz := 21) (v := 1) dX12_isTooDeep_23 fl_X12_92 i_164_21 rfl rfl (fun _ => ?_)
      exact tz_zret (pc := 26) (z := 1) dX12_isTooDeep_26 rfl (Or.inr rfl) (Nat.le_of_ble_eq_true rfl) (Nat.le_of_ble_eq_true rfl) ⟨Nat.le_refl _, Nat.le_add_right _ _⟩ ⟨_, rfl, (by decide), ⟨rfl, by omega⟩⟩

set_option maxHeartbeats 4000000 in
set_option maxRecDepth 100000 in
theorem o_closedR {l : Launch} {G : tb_G} (hl : l.stackTraces = false) (n : Nat) : ∀ (r9 : Nat) (J : zJ) (t : Int) (y : Int) (hr_t : -2147483648 ≤ t ∧ t < 2147483648) (hr_y : -2147483648 ≤ y ∧ y < 2147483648) (s m : Int) (m0 : Int) (q : Nat) (ρ : Int → Int) (O : Int → Int → Prop) (rk : Int → Nat) (P : Int → Prop) (hM : MS J 0 0 0 s m) (hs : J 164 9 = s) (hm : m0 ≤ m) (ht : 0 ≤ t ∧ t < m0) (hC : CRm O rk P ρ J m0) (hq : ∀ v, O t v → P v ∧ (¬ J 175 v = -1 → rk v < q)) (hy : 0 ≤ y ∧ y ≤ 7), (q + (7 - y).toNat) < r9 → tz_Ok l G M_X12_closedOf (5 + 1 * r9) 0 0 [.ref 164, zi t, zi y] n J (zqi (fun z J' => ∃ m', MG [] [] (fun _ => false) J' J 0 0 0 s m m' ∧ (J' 164 21 = 0 → 0 ≤ z ∧ z < m') ∧ (tb0 J', z) = grO ρ (7 - y).toNat (tb0 J) t)) zN := by
  intro r9
  induction r9 with
  | zero => intro J t y hr_t hr_y s m m0 q ρ O rk P hM hs hm ht hC hq hy hm9; exact absurd hm9 (Nat.not_lt_zero _)
  | succ r9 ih =>
    intro J t y hr_t hr_y s m m0 q ρ O rk P hM hs hm ht hC hq hy hm9
    refine tz_Ok.of hl (by decide +kernel) rfl (tb_c1 rfl) (Nat.le_of_ble_eq_true rfl) ?_
    show tz_At l G M_X12_closedOf (tb_rm (5 + 1 * (r9 + 1)) 0 0) none (tb_ZM G 0 0 (zQ n 0 (zqi (fun z J' => ∃ m', MG [] [] (fun _ => false) J' J 0 0 0 s m m' ∧ (J' 164 21 = 0 → 0 ≤ z ∧ z < m') ∧ (tb0 J', z) = grO ρ (7 - y).toNat (tb0 J) t))) (zX n 0 zN)) 0 0 n J 0 [some (.ref 164), some (zi t), some (zi y), none, none, none, none] []
    have hT := hM.told
    have ht9 : 0 ≤ t ∧ t < m := by omega
    have ha := hM.ar ht9
    have g0 : MG [] [] (fun _ => false) J J 0 0 0 s m m := MG.rf hM
    refine tz_aload_n (pc := 0) dX12_closedOf_0 rfl rfl ?_
    refine tz_fI (pc := 1) (kz := 21) (v := (J 164 21)) dX12_closedOf_1 fl_X12_92 i_164_21 rfl rfl (fun r_1 => ?_)
    refine tz_if_eq (pc := 4) (tgt := 9) dX12_closedOf_4 (by decide) (by omega) (fun h_4 => ?_) (fun h_4 => ?_)
    · refine tz_aload_n (pc := 9) dX12_closedOf_9 rfl rfl ?_
      refine tz_iload_n (pc := 10) dX12_closedOf_10 rfl rfl ?_
      refine tz_cV (pc := 11) (m_isVar hl n _ _ (by omega) 0 0 0 s m hM (by omega)) vl_X12_78 dX12_closedOf_11 o_164 rfl rfl (Nat.le_of_ble_eq_true rfl) ⟨(show 1 + 1 ≤ 5 + 1 * (r9 + 1) by omega), (show 8 + (2 + 11) + 40 * (1) ≤ 40 * (5 + 1 * (r9 + 1)) by omega)⟩ rfl rfl (Nat.le_of_ble_eq_true rfl) (Nat.le_of_ble_eq_true rfl) (fun r9 J_11 hq9 => ?_)
      obtain ⟨z_11, rfl, hz_11, rfl, rfl⟩ := hq9
      by_cases hw_14 : J 166 (0 + t) < 0
      · rw [show (if J 166 (0 + t) < 0 then 1 else 0 : Int) = 1 from if_pos hw_14]
        refine tz_if_eqF (pc := 14) (tgt := 63) (by decide) dX12_closedOf_14 (by decide) (by decide) ?_
        refine tz_aload_n (pc := 17) dX12_closedOf_17 rfl rfl ?_
        refine tz_fR (pc := 18) dX12_closedOf_18 fl_X12_44 r_164_23 ?_
        refine tz_aload_n (pc := 21) dX12_closedOf_21 rfl rfl ?_
        refine tz_iload_n (pc := 22) dX12_closedOf_22 rfl rfl ?_
        refine tz_cV (pc := 23) (m_varOf hl n _ _ (by omega) 0 0 0 s m hM (by omega)) vl_X12_123 dX12_closedOf_23 o_164 rfl rfl (Nat.le_of_ble_eq_true rfl) ⟨(show 1 + 1 ≤ 5 + 1 * (r9 + 1) by omega), (show 8 + (2 + 11) + 40 * (1) ≤ 40 * (5 + 1 * (r9 + 1)) by omega)⟩ rfl rfl (Nat.le_of_ble_eq_true rfl) (Nat.le_of_ble_eq_true rfl) (fun r9 J_23 hq9 => ?_)
        obtain ⟨z_23, rfl, hz_23, rfl, rfl⟩ := hq9
        have hv9 := hC.1.2.1 (-1 - J 166 (0 + t)) (by omega) (by omega)
        refine tz_aL (pc := 26) (z := (-1 - J 166 (0 + t))) (v := (J 175 (-1 - J 166 (0 + t)))) dX12_closedOf_26 a_175 rfl (by omega) rfl (fun r_26 => ?_)
        refine tz_iconst (pc := 27) dX12_closedOf_27 ?_
        refine tz_icmp_ne (pc := 28) (tgt := 47) dX12_closedOf_28 (by decide) (by omega) (by decide) (fun h_28 => ?_) (fun h_28 => ?_)
        · refine tz_aload_n (pc := 47) dX12_closedOf_47 rfl rfl ?_
          refine tz_aload_n (pc := 48) dX12_closedOf_48 rfl rfl ?_
          refine tz_fR (pc := 49) dX12_closedOf_49 fl_X12_44 r_164_23 ?_
          refine tz_aload_n (pc := 52) dX12_closedOf_52 rfl rfl ?_
          refine tz_iload_n (pc := 53) dX12_closedOf_53 rfl rfl ?_
          refine tz_cV (pc := 54) (m_varOf hl n _ _ (by omega) 0 0 0 s m hM (by omega)) vl_X12_123 dX12_closedOf_54 o_164 rfl rfl (Nat.le_of_ble_eq_true rfl) ⟨(show 1 + 1 ≤ 5 + 1 * (r9 + 1) by omega), (show 8 + (2 + 11) + 40 * (1) ≤ 40 * (5 + 1 * (r9 + 1)) by omega)⟩ rfl rfl (Nat.le_of_ble_eq_true rfl) (Nat.le_of_ble_eq_true rfl) (fun r9 J_54 hq9 => ?_)
          obtain ⟨z_54, rfl, hz_54, rfl, rfl⟩ := hq9
          refine tz_aL (pc := 57) (z := (-1 - J 166 (0 + t))) (v := (J 175 (-1 - J 166 (0 + t)))) dX12_closedOf_57 a_175 rfl (by omega) rfl (fun r_57 => ?_)
          refine tz_iload_n (pc := 58) dX12_closedOf_58 rfl rfl ?_
          have l0_59 := (g0).1.2
          have t0_59 := (g0).1.1.told
          have oo := hq _ ((hC.1.1 t ht.1 ht.2).1 (by omega))
          have orr := oo.2 (by omega)
          refine tz_cV (pc := 59) (ih _ _ _ (by omega) (by omega) s m m0 (rk (-1 - J 166 (0 + t))) ρ O rk P (g0).1.1 hs hm (by omega) hC (hC.1.2.2 _ (by omega) oo.1 (by omega)) hy (by omega)) vl_X12_158 dX12_closedOf_59 o_164 rfl rfl (Nat.le_of_ble_eq_true rfl) ⟨(show (5 + 1 * r9) + 1 ≤ 5 + 1 * (r9 + 1) by omega), (show 8 + (7 + 11) + 40 * ((5 + 1 * r9)) ≤ 40 * (5 + 1 * (r9 + 1)) by omega)⟩ rfl rfl (Nat.le_of_ble_eq_true rfl) (Nat.le_of_ble_eq_true rfl) (fun r9 J_59 hq9 => ?_)
          obtain ⟨z_59, rfl, hz_59, m_59, g_59, h_59, x_59⟩ := hq9
          have q_59 := MG.tr g0 g_59
          have f_59 := g_59.2.2.2
          have l_59 := g_59.1.2
          exact tz_iret (pc := 62) (z := z_59) dX12_closedOf_62 rfl (Nat.le_of_ble_eq_true rfl) (Nat.le_of_ble_eq_true rfl) ⟨Nat.le_refl _, Nat.le_add_right _ _⟩ ⟨_, rfl, (by omega), ⟨m_59, q_59, h_59, by rw [x_59]; exact (grO_r ((hC.2 t ht.1 ht.2 (fun v o9 => (hq v o9).1)).1 (by omega) (by omega))).symm⟩⟩
        · refine tz_aload_n (pc := 31) dX12_closedOf_31 rfl rfl ?_
          refine tz_iload_n (pc := 32) dX12_closedOf_32 rfl rfl ?_
          refine tz_cV (pc := 33) (o_deep hl n _ _ (by omega)) vl_X12_155 dX12_closedOf_33 o_164 rfl rfl (Nat.le_of_ble_eq_true rfl) ⟨(show 0 + 1 ≤ 5 + 1 * (r9 + 1) by omega), (show 8 + (2 + 11) + 40 * (0) ≤ 40 * (5 + 1 * (r9 + 1)) by omega)⟩ rfl rfl (Nat.le_of_ble_eq_true rfl) (Nat.le_of_ble_eq_true rfl) (fun r9 J_33 hq9 => ?_)
          obtain ⟨z_33, rfl, hz_33, d1, d2⟩ := hq9
          have dd_33 : zOf (zbut [164]) J_33 J ∧ ∀ k, ¬ k = 21 → J_33 164 k = J 164 k := by rw [← d1]; exact ⟨zOf.up rfl zOf.rf, fun k hk => zup_ne hk⟩
          have z21_33 : J_33 164 21 = z_33 := by rw [← d1]; exact zup_at
          have q_33 := MG.deep hM dd_33 (by omega)
          have l_33 := q_33.1.2
          rcases d2 with ⟨rfl, d2⟩ | ⟨rfl, d2⟩
          · refine tz_if_eqT (pc := 36) (tgt := 43) (by decide) dX12_closedOf_36 (by decide) (by decide) ?_
            refine tz_iload_n (pc := 43) dX12_closedOf_43 rfl rfl ?_
            refine tz_goto (pc := 44) (tgt := 62) dX12_closedOf_44 (by decide) ?_
            exact tz_iret (pc := 62) (z := t) dX12_closedOf_62 rfl (Nat.le_of_ble_eq_true rfl) (Nat.le_of_ble_eq_true rfl) ⟨Nat.le_refl _, Nat.le_add_right _ _⟩ ⟨_, rfl, (by omega), ⟨m, q_33, fun q9 => by omega, gr_v hM ht9 (by omega) d1 (by omega) (by omega) ((hC.2 t ht.1 ht.2 (fun v o9 => (hq v o9).1)).2 (Or.inr (by omega)))⟩⟩
          · refine tz_if_eqF (pc := 36) (tgt := 43) (by decide) dX12_closedOf_36 (by decide) (by decide) ?_
            refine tz_iconst (pc := 39) dX12_closedOf_39 ?_
            refine tz_goto (pc := 40) (tgt := 62) dX12_closedOf_40 (by decide) ?_
            exact tz_iret (pc := 62) (z := 0) dX12_closedOf_62 rfl (Nat.le_of_ble_eq_true rfl) (Nat.le_of_ble_eq_true rfl) ⟨Nat.le_refl _, Nat.le_add_right _ _⟩ ⟨_, rfl, (by decide), ⟨m, q_33, fun q9 => by omega, gr_u (by omega) d1 (by omega)⟩⟩
      · rw [show (if J 166 (0 + t) < 0 then 1 else 0 : Int) = 0 from if_neg hw_14]
        refine tz_if_eqT (pc := 14) (tgt := 63) (by decide) dX12_closedOf_14 (by decide) (by decide) ?_
        refine tz_aload_n (pc := 63) dX12_closedOf_63 rfl rfl ?_
        refine tz_iload_n (pc := 64) dX12_closedOf_64 rfl rfl ?_
        refine tz_cV (pc := 65) (o_deep hl n _ _ (by omega)) vl_X12_155 dX12_closedOf_65 o_164 rfl rfl (Nat.le_of_ble_eq_true rfl) ⟨(show 0 + 1 ≤ 5 + 1 * (r9 + 1) by omega), (show 8 + (2 + 11) + 40 * (0) ≤ 40 * (5 + 1 * (r9 + 1)) by omega)⟩ rfl rfl (Nat.le_of_ble_eq_true rfl) (Nat.le_of_ble_eq_true rfl) (fun r9 J_65 hq9 => ?_)
        obtain ⟨z_65, rfl, hz_65, d1, d2⟩ := hq9
        have dd_65 : zOf (zbut [164]) J_65 J ∧ ∀ k, ¬ k = 21 → J_65 164 k = J 164 k := by rw [← d1]; exact ⟨zOf.up rfl zOf.rf, fun k hk => zup_ne hk⟩
        have z21_65 : J_65 164 21 = z_65 := by rw [← d1]; exact zup_at
        have q_65 := MG.deep hM dd_65 (by omega)
        have l_65 := q_65.1.2
        rcases d2 with ⟨rfl, d2⟩ | ⟨rfl, d2⟩
        · refine tz_if_eqT (pc := 68) (tgt := 73) (by decide) dX12_closedOf_68 (by decide) (by decide) ?_
          refine tz_aload_n (pc := 73) dX12_closedOf_73 rfl rfl ?_
          refine tz_iload_n (pc := 74) dX12_closedOf_74 rfl rfl ?_
          have l_75 := (q_65).1.2
          have tt_75 := (q_65).1.1.told
          refine tz_cV (pc := 75) (m_arity hl n _ _ (by omega) 0 0 0 s m (q_65).1.1 (by omega)) vl_X12_111 dX12_closedOf_75 o_164 rfl rfl (Nat.le_of_ble_eq_true rfl) ⟨(show 2 + 1 ≤ 5 + 1 * (r9 + 1) by omega), (show 8 + (2 + 11) + 40 * (2) ≤ 40 * (5 + 1 * (r9 + 1)) by omega)⟩ rfl rfl (Nat.le_of_ble_eq_true rfl) (Nat.le_of_ble_eq_true rfl) (fun r9 J_75 hq9 => ?_)
          obtain ⟨z_75, rfl, hz_75, rfl, hv_75⟩ := hq9
          have he_75 : mar J_65 0 0 t = mar J 0 0 t := (q_65).ar ht9 ((q_65).2.2.1.2.2.2 170 rfl)
          rw [he_75] at hv_75
          obtain rfl : mar J 0 0 t = z_75 := hv_75
          refine tz_istore_n (pc := 78) (L2 := [_, _, _, _, _, _, _]) dX12_closedOf_78 rfl (by decide) rfl ?_
          refine tz_iload_n (pc := 79) dX12_closedOf_79 rfl rfl ?_
          refine tz_if_le (pc := 80) (tgt := 99) dX12_closedOf_80 (by decide) (by omega) (fun h_80 => ?_) (fun h_80 => ?_)
          · refine tz_iconst (pc := 99) dX12_closedOf_99 ?_
            refine tz_istore (pc := 100) (L2 := [_, _, _, _, _, _, _]) dX12_closedOf_100 (by decide) rfl ?_
            refine tz_iload_n (pc := 102) dX12_closedOf_102 rfl rfl ?_
            refine tz_iconst (pc := 103) dX12_closedOf_103 ?_
            refine tz_icmp_le (pc := 104) (tgt := 123) dX12_closedOf_104 (by decide) (by omega) (by decide) (fun h_104 => ?_) (fun h_104 => ?_)
            · refine tz_iconst (pc := 123) dX12_closedOf_123 ?_
              refine tz_istore (pc := 124) (L2 := [_, _, _, _, _, _, _]) dX12_closedOf_124 (by decide) rfl ?_
              refine tz_iload_n (pc := 126) dX12_closedOf_126 rfl rfl ?_
              refine tz_iconst (pc := 127) dX12_closedOf_127 ?_
              refine tz_icmp_le (pc := 128) (tgt := 147) dX12_closedOf_128 (by decide) (by omega) (by decide) (fun h_128 => ?_) (fun h_128 => ?_)
              · refine tz_iconst (pc := 147) dX12_closedOf_147 ?_
                refine tz_istore (pc := 148) (L2 := [_, _, _, _, _, _, _]) dX12_closedOf_148 (by decide) rfl ?_
                refine tz_aload_n (pc := 150) dX12_closedOf_150 rfl rfl ?_
                refine tz_iload_n (pc := 151) dX12_closedOf_151 rfl rfl ?_
                refine tz_iload (pc := 152) dX12_closedOf_152 rfl ?_
                refine tz_iload (pc := 154) dX12_closedOf_154 rfl ?_
                refine tz_iload (pc := 156) dX12_closedOf_156 rfl ?_
                have l0_158 := (q_65).1.2
                have t0_158 := (q_65).1.1.told
                refine tz_cV (pc := 158) (o_remade hl n _ _ _ _ _ (by omega) (by omega) (by omega) (by omega) s m (q_65).1.1 (((q_65).2.2.1.2.2.1 9 rfl).trans hs) (by omega) (fun q9 => by have e9 := (q_65).ar ht9 ((q_65).2.2.1.2.2.2 170 rfl); rw [e9]; omega)) vl_X12_152 dX12_closedOf_158 o_164 rfl rfl (Nat.le_of_ble_eq_true rfl) ⟨(show 3 + 1 ≤ 5 + 1 * (r9 + 1) by omega), (show 8 + (5 + 11) + 40 * (3) ≤ 40 * (5 + 1 * (r9 + 1)) by omega)⟩ rfl rfl (Nat.le_of_ble_eq_true rfl) (Nat.le_of_ble_eq_true rfl) (fun r9 J_158 hq9 => ?_)
                obtain ⟨z_158, rfl, hz_158, m_158, g_158, h_158, x_158⟩ := hq9
                have q_158 := MG.tr q_65 g_158
                have f_158 := g_158.2.2.2
                have l_158 := g_158.1.2
                exact tz_iret (pc := 161) (z := z_158) dX12_closedOf_161 rfl (Nat.le_of_ble_eq_true rfl) (Nat.le_of_ble_eq_true rfl) ⟨Nat.le_refl _, Nat.le_add_right _ _⟩ ⟨_, rfl, (by omega), ⟨m_158, q_158, h_158, gr_c hM ht9 (by omega) d1 (by omega) (by omega) ((hC.2 t ht.1 ht.2 (fun v o9 => (hq v o9).1)).2 (Or.inl (by omega))) (Or.inr ⟨by omega, rfl, rfl⟩) (Or.inr ⟨by omega, rfl, rfl⟩) (Or.inr ⟨by omega, rfl, rfl⟩) (by have e7 := x_158; rw [show J_65 166 (0 + t) = J 166 (0 + t) from ((q_65).2.1 t ht9.1 ht9.2).1.1] at e7; exact e7)⟩⟩
              · refine tz_aload_n (pc := 131) dX12_closedOf_131 rfl rfl ?_
                refine tz_aload_n (pc := 132) dX12_closedOf_132 rfl rfl ?_
                refine tz_iload_n (pc := 133) dX12_closedOf_133 rfl rfl ?_
                refine tz_iconst (pc := 134) dX12_closedOf_134 ?_
                have l_135 := (q_65).1.2
                have tt_135 := (q_65).1.1.told
                refine tz_cV (pc := 135) (m_arg hl n _ _ _ (by omega) (by decide) 0 0 0 s m (q_65).1.1 (by omega) (by omega)) vl_X12_88 dX12_closedOf_135 o_164 rfl rfl (Nat.le_of_ble_eq_true rfl) ⟨(show 0 + 1 ≤ 5 + 1 * (r9 + 1) by omega), (show 8 + (3 + 11) + 40 * (0) ≤ 40 * (5 + 1 * (r9 + 1)) by omega)⟩ rfl rfl (Nat.le_of_ble_eq_true rfl) (Nat.le_of_ble_eq_true rfl) (fun r9 J_135 hq9 => ?_)
                obtain ⟨z_135, rfl, hz_135, rfl, hv_135⟩ := hq9
                have he_135 : J_65 167 (3 * (0 + t) + 2) = J 167 (3 * (0 + t) + 2) := ((q_65).2.1 t ht9.1 ht9.2).2 2 (by omega) (by omega)
                rw [he_135] at hv_135
                obtain rfl : J 167 (3 * (0 + t) + 2) = z_135 := hv_135
                refine tz_iload_n (pc := 138) dX12_closedOf_138 rfl rfl ?_
                refine tz_iconst (pc := 139) dX12_closedOf_139 ?_
                refine tz_iadd (pc := 140) (v := y + 1) dX12_closedOf_140 rfl ?_
                have l0_141 := (q_65).1.2
                have t0_141 := (q_65).1.1.told
                have a_141 := hM.arg (t := t) (i := 2) ht9 (by omega)
                refine tz_cV (pc := 141) (ih _ _ _ (by omega) (by omega) s m m0 q ρ O rk P (q_65).1.1 (((q_65).2.2.1.2.2.1 9 rfl).trans hs) (by omega) (by omega) (hC.mg hm (q_65)) (fun v o9 => by rw [(q_65).2.2.1.2.2.2 175 rfl]; exact hq v ((hC.1.1 t ht.1 ht.2).2 2 v (by omega) o9)) (by omega) (by omega)) vl_X12_158 dX12_closedOf_141 o_164 rfl rfl (Nat.le_of_ble_eq_true rfl) ⟨(show (5 + 1 * r9) + 1 ≤ 5 + 1 * (r9 + 1) by omega), (show 8 + (7 + 11) + 40 * ((5 + 1 * r9)) ≤ 40 * (5 + 1 * (r9 + 1)) by omega)⟩ rfl rfl (Nat.le_of_ble_eq_true rfl) (Nat.le_of_ble_eq_true rfl) (fun r9 J_141 hq9 => ?_)
                obtain ⟨z_141, rfl, hz_141, m_141, g_141, h_141, x_141⟩ := hq9
                have q_141 := MG.tr q_65 g_141
                have f_141 := g_141.2.2.2
                have l_141 := g_141.1.2
                have w_141 : J_65 167 (3 * (0 + t) + 2) = J 167 (3 * (0 + t) + 2) := ((q_65).2.1 t ht9.1 ht9.2).2 2 (by decide) (by decide)
                rw [show (7 - (y + 1)).toNat = (7 - y).toNat - 1 from by omega, ← w_141] at x_141
                refine tz_goto (pc := 144) (tgt := 148) dX12_closedOf_144 (by decide) ?_
                refine tz_istore (pc := 148) (L2 := [_, _, _, _, _, _, _]) dX12_closedOf_148 (by decide) rfl ?_
                refine tz_aload_n (pc := 150) dX12_closedOf_150 rfl rfl ?_
                refine tz_iload_n (pc := 151) dX12_closedOf_151 rfl rfl ?_
                refine tz_iload (pc := 152) dX12_closedOf_152 rfl ?_
                refine tz_iload (pc := 154) dX12_closedOf_154 rfl ?_
                refine tz_iload (pc := 156) dX12_closedOf_156 rfl ?_
                have l0_158 := (q_141).1.2
                have t0_158 := (q_141).1.1.told
                refine tz_cV (pc := 158) (o_remade hl n _ _ _ _ _ (by omega) (by omega) (by omega) (by omega) s m_141 (q_141).1.1 (((q_141).2.2.1.2.2.1 9 rfl).trans hs) (by omega) (fun q9 => by have e9 := (q_141).ar ht9 ((q_141).2.2.1.2.2.2 170 rfl); rw [e9]; omega)) vl_X12_152 dX12_closedOf_158 o_164 rfl rfl (Nat.le_of_ble_eq_true rfl) ⟨(show 3 + 1 ≤ 5 + 1 * (r9 + 1) by omega), (show 8 + (5 + 11) + 40 * (3) ≤ 40 * (5 + 1 * (r9 + 1)) by omega)⟩ rfl rfl (Nat.le_of_ble_eq_true rfl) (Nat.le_of_ble_eq_true rfl) (fun r9 J_158 hq9 => ?_)
                obtain ⟨z_158, rfl, hz_158, m_158, g_158, h_158, x_158⟩ := hq9
                have q_158 := MG.tr q_141 g_158
                have f_158 := g_158.2.2.2
                have l_158 := g_158.1.2
                exact tz_iret (pc := 161) (z := z_158) dX12_closedOf_161 rfl (Nat.le_of_ble_eq_true rfl) (Nat.le_of_ble_eq_true rfl) ⟨Nat.le_refl _, Nat.le_add_right _ _⟩ ⟨_, rfl, (by omega), ⟨m_158, q_158, h_158, gr_c hM ht9 (by omega) d1 (by omega) (by omega) ((hC.2 t ht.1 ht.2 (fun v o9 => (hq v o9).1)).2 (Or.inl (by omega))) (Or.inr ⟨by omega, rfl, rfl⟩) (Or.inr ⟨by omega, rfl, rfl⟩) (Or.inl ⟨by omega, x_141⟩) (by have e7 := x_158; rw [show J_141 166 (0 + t) = J 166 (0 + t) from ((q_141).2.1 t ht9.1 ht9.2).1.1] at e7; exact e7)⟩⟩
            · refine tz_aload_n (pc := 107) dX12_closedOf_107 rfl rfl ?_
              refine tz_aload_n (pc := 108) dX12_closedOf_108 rfl rfl ?_
              refine tz_iload_n (pc := 109) dX12_closedOf_109 rfl rfl ?_
              refine tz_iconst (pc := 110) dX12_closedOf_110 ?_
              have l_111 := (q_65).1.2
              have tt_111 := (q_65).1.1.told
              refine tz_cV (pc := 111) (m_arg hl n _ _ _ (by omega) (by decide) 0 0 0 s m (q_65).1.1 (by omega) (by omega)) vl_X12_88 dX12_closedOf_111 o_164 rfl rfl (Nat.le_of_ble_eq_true rfl) ⟨(show 0 + 1 ≤ 5 + 1 * (r9 + 1) by omega), (show 8 + (3 + 11) + 40 * (0) ≤ 40 * (5 + 1 * (r9 + 1)) by omega)⟩ rfl rfl (Nat.le_of_ble_eq_true rfl) (Nat.le_of_ble_eq_true rfl) (fun r9 J_111 hq9 => ?_)
              obtain ⟨z_111, rfl, hz_111, rfl, hv_111⟩ := hq9
              have he_111 : J_65 167 (3 * (0 + t) + 1) = J 167 (3 * (0 + t) + 1) := ((q_65).2.1 t ht9.1 ht9.2).2 1 (by omega) (by omega)
              rw [he_111] at hv_111
              obtain rfl : J 167 (3 * (0 + t) + 1) = z_111 := hv_111
              refine tz_iload_n (pc := 114) dX12_closedOf_114 rfl rfl ?_
              refine tz_iconst (pc := 115) dX12_closedOf_115 ?_
              refine tz_iadd (pc := 116) (v := y + 1) dX12_closedOf_116 rfl ?_
              have l0_117 := (q_65).1.2
              have t0_117 := (q_65).1.1.told
              have a_117 := hM.arg (t := t) (i := 1) ht9 (by omega)
              refine tz_cV (pc := 117) (ih _ _ _ (by omega) (by omega) s m m0 q ρ O rk P (q_65).1.1 (((q_65).2.2.1.2.2.1 9 rfl).trans hs) (by omega) (by omega) (hC.mg hm (q_65)) (fun v o9 => by rw [(q_65).2.2.1.2.2.2 175 rfl]; exact hq v ((hC.1.1 t ht.1 ht.2).2 1 v (by omega) o9)) (by omega) (by omega)) vl_X12_158 dX12_closedOf_117 o_164 rfl rfl (Nat.le_of_ble_eq_true rfl) ⟨(show (5 + 1 * r9) + 1 ≤ 5 + 1 * (r9 + 1) by omega), (show 8 + (7 + 11) + 40 * ((5 + 1 * r9)) ≤ 40 * (5 + 1 * (r9 + 1)) by omega)⟩ rfl rfl (Nat.le_of_ble_eq_true rfl) (Nat.le_of_ble_eq_true rfl) (fun r9 J_117 hq9 => ?_)
              obtain ⟨z_117, rfl, hz_117, m_117, g_117, h_117, x_117⟩ := hq9
              have q_117 := MG.tr q_65 g_117
              have f_117 := g_117.2.2.2
              have l_117 := g_117.1.2
              have w_117 : J_65 167 (3 * (0 + t) + 1) = J 167 (3 * (0 + t) + 1) := ((q_65).2.1 t ht9.1 ht9.2).2 1 (by decide) (by decide)
              rw [show (7 - (y + 1)).toNat = (7 - y).toNat - 1 from by omega, ← w_117] at x_117
              refine tz_goto (pc := 120) (tgt := 124) dX12_closedOf_120 (by decide) ?_
              refine tz_istore (pc := 124) (L2 := [_, _, _, _, _, _, _]) dX12_closedOf_124 (by decide) rfl ?_
              refine tz_iload_n (pc := 126) dX12_closedOf_126 rfl rfl ?_
              refine tz_iconst (pc := 127) dX12_closedOf_127 ?_
              refine tz_icmp_le (pc := 128) (tgt := 147) dX12_closedOf_128 (by decide) (by omega) (by decide) (fun h_128 => ?_) (fun h_128 => ?_)
              · refine tz_iconst (pc := 147) dX12_closedOf_147 ?_
                refine tz_istore (pc := 148) (L2 := [_, _, _, _, _, _, _]) dX12_closedOf_148 (by decide) rfl ?_
                refine tz_aload_n (pc := 150) dX12_closedOf_150 rfl rfl ?_
                refine tz_iload_n (pc := 151) dX12_closedOf_151 rfl rfl ?_
                refine tz_iload (pc := 152) dX12_closedOf_152 rfl ?_
                refine tz_iload (pc := 154) dX12_closedOf_154 rfl ?_
                refine tz_iload (pc := 156) dX12_closedOf_156 rfl ?_
                have l0_158 := (q_117).1.2
                have t0_158 := (q_117).1.1.told
                refine tz_cV (pc := 158) (o_remade hl n _ _ _ _ _ (by omega) (by omega) (by omega) (by omega) s m_117 (q_117).1.1 (((q_117).2.2.1.2.2.1 9 rfl).trans hs) (by omega) (fun q9 => by have e9 := (q_117).ar ht9 ((q_117).2.2.1.2.2.2 170 rfl); rw [e9]; omega)) vl_X12_152 dX12_closedOf_158 o_164 rfl rfl (Nat.le_of_ble_eq_true rfl) ⟨(show 3 + 1 ≤ 5 + 1 * (r9 + 1) by omega), (show 8 + (5 + 11) + 40 * (3) ≤ 40 * (5 + 1 * (r9 + 1)) by omega)⟩ rfl rfl (Nat.le_of_ble_eq_true rfl) (Nat.le_of_ble_eq_true rfl) (fun r9 J_158 hq9 => ?_)
                obtain ⟨z_158, rfl, hz_158, m_158, g_158, h_158, x_158⟩ := hq9
                have q_158 := MG.tr q_117 g_158
                have f_158 := g_158.2.2.2
                have l_158 := g_158.1.2
                exact tz_iret (pc := 161) (z := z_158) dX12_closedOf_161 rfl (Nat.le_of_ble_eq_true rfl) (Nat.le_of_ble_eq_true rfl) ⟨Nat.le_refl _, Nat.le_add_right _ _⟩ ⟨_, rfl, (by omega), ⟨m_158, q_158, h_158, gr_c hM ht9 (by omega) d1 (by omega) (by omega) ((hC.2 t ht.1 ht.2 (fun v o9 => (hq v o9).1)).2 (Or.inl (by omega))) (Or.inr ⟨by omega, rfl, rfl⟩) (Or.inl ⟨by omega, x_117⟩) (Or.inr ⟨by omega, rfl, rfl⟩) (by have e7 := x_158; rw [show J_117 166 (0 + t) = J 166 (0 + t) from ((q_117).2.1 t ht9.1 ht9.2).1.1] at e7; exact e7)⟩⟩
              · refine tz_aload_n (pc := 131) dX12_closedOf_131 rfl rfl ?_
                refine tz_aload_n (pc := 132) dX12_closedOf_132 rfl rfl ?_
                refine tz_iload_n (pc := 133) dX12_closedOf_133 rfl rfl ?_
                refine tz_iconst (pc := 134) dX12_closedOf_134 ?_
                have l_135 := (q_117).1.2
                have tt_135 := (q_117).1.1.told
                refine tz_cV (pc := 135) (m_arg hl n _ _ _ (by omega) (by decide) 0 0 0 s m_117 (q_117).1.1 (by omega) (by omega)) vl_X12_88 dX12_closedOf_135 o_164 rfl rfl (Nat.le_of_ble_eq_true rfl) ⟨(show 0 + 1 ≤ 5 + 1 * (r9 + 1) by omega), (show 8 + (3 + 11) + 40 * (0) ≤ 40 * (5 + 1 * (r9 + 1)) by omega)⟩ rfl rfl (Nat.le_of_ble_eq_true rfl) (Nat.le_of_ble_eq_true rfl) (fun r9 J_135 hq9 => ?_)
                obtain ⟨z_135, rfl, hz_135, rfl, hv_135⟩ := hq9
                have he_135 : J_117 167 (3 * (0 + t) + 2) = J 167 (3 * (0 + t) + 2) := ((q_117).2.1 t ht9.1 ht9.2).2 2 (by omega) (by omega)
                rw [he_135] at hv_135
                obtain rfl : J 167 (3 * (0 + t) + 2) = z_135 := hv_135
                refine tz_iload_n (pc := 138) dX12_closedOf_138 rfl rfl ?_
                refine tz_iconst (pc := 139) dX12_closedOf_139 ?_
                refine tz_iadd (pc := 140) (v := y + 1) dX12_closedOf_140 rfl ?_
                have l0_141 := (q_117).1.2
                have t0_141 := (q_117).1.1.told
                have a_141 := hM.arg (t := t) (i := 2) ht9 (by omega)
                refine tz_cV (pc := 141) (ih _ _ _ (by omega) (by omega) s m_117 m0 q ρ O rk P (q_117).1.1 (((q_117).2.2.1.2.2.1 9 rfl).trans hs) (by omega) (by omega) (hC.mg hm (q_117)) (fun v o9 => by rw [(q_117).2.2.1.2.2.2 175 rfl]; exact hq v ((hC.1.1 t ht.1 ht.2).2 2 v (by omega) o9)) (by omega) (by omega)) vl_X12_158 dX12_closedOf_141 o_164 rfl rfl (Nat.le_of_ble_eq_true rfl) ⟨(show (5 + 1 * r9) + 1 ≤ 5 + 1 * (r9 + 1) by omega), (show 8 + (7 + 11) + 40 * ((5 + 1 * r9)) ≤ 40 * (5 + 1 * (r9 + 1)) by omega)⟩ rfl rfl (Nat.le_of_ble_eq_true rfl) (Nat.le_of_ble_eq_true rfl) (fun r9 J_141 hq9 => ?_)
                obtain ⟨z_141, rfl, hz_141, m_141, g_141, h_141, x_141⟩ := hq9
                have q_141 := MG.tr q_117 g_141
                have f_141 := g_141.2.2.2
                have l_141 := g_141.1.2
                have w_141 : J_117 167 (3 * (0 + t) + 2) = J 167 (3 * (0 + t) + 2) := ((q_117).2.1 t ht9.1 ht9.2).2 2 (by decide) (by decide)
                rw [show (7 - (y + 1)).toNat = (7 - y).toNat - 1 from by omega, ← w_141] at x_141
                refine tz_goto (pc := 144) (tgt := 148) dX12_closedOf_144 (by decide) ?_
                refine tz_istore (pc := 148) (L2 := [_, _, _, _, _, _, _]) dX12_closedOf_148 (by decide) rfl ?_
                refine tz_aload_n (pc := 150) dX12_closedOf_150 rfl rfl ?_
                refine tz_iload_n (pc := 151) dX12_closedOf_151 rfl rfl ?_
                refine tz_iload (pc := 152) dX12_closedOf_152 rfl ?_
                refine tz_iload (pc := 154) dX12_closedOf_154 rfl ?_
                refine tz_iload (pc := 156) dX12_closedOf_156 rfl ?_
                have l0_158 := (q_141).1.2
                have t0_158 := (q_141).1.1.told
                refine tz_cV (pc := 158) (o_remade hl n _ _ _ _ _ (by omega) (by omega) (by omega) (by omega) s m_141 (q_141).1.1 (((q_141).2.2.1.2.2.1 9 rfl).trans hs) (by omega) (fun q9 => by have e9 := (q_141).ar ht9 ((q_141).2.2.1.2.2.2 170 rfl); rw [e9]; omega)) vl_X12_152 dX12_closedOf_158 o_164 rfl rfl (Nat.le_of_ble_eq_true rfl) ⟨(show 3 + 1 ≤ 5 + 1 * (r9 + 1) by omega), (show 8 + (5 + 11) + 40 * (3) ≤ 40 * (5 + 1 * (r9 + 1)) by omega)⟩ rfl rfl (Nat.le_of_ble_eq_true rfl) (Nat.le_of_ble_eq_true rfl) (fun r9 J_158 hq9 => ?_)
                obtain ⟨z_158, rfl, hz_158, m_158, g_158, h_158, x_158⟩ := hq9
                have q_158 := MG.tr q_141 g_158
                have f_158 := g_158.2.2.2
                have l_158 := g_158.1.2
                exact tz_iret (pc := 161) (z := z_158) dX12_closedOf_161 rfl (Nat.le_of_ble_eq_true rfl) (Nat.le_of_ble_eq_true rfl) ⟨Nat.le_refl _, Nat.le_add_right _ _⟩ ⟨_, rfl, (by omega), ⟨m_158, q_158, h_158, gr_c hM ht9 (by omega) d1 (by omega) (by omega) ((hC.2 t ht.1 ht.2 (fun v o9 => (hq v o9).1)).2 (Or.inl (by omega))) (Or.inr ⟨by omega, rfl, rfl⟩) (Or.inl ⟨by omega, x_117⟩) (Or.inl ⟨by omega, x_141⟩) (by have e7 := x_158; rw [show J_141 166 (0 + t) = J 166 (0 + t) from ((q_141).2.1 t ht9.1 ht9.2).1.1] at e7; exact e7)⟩⟩
          · refine tz_aload_n (pc := 83) dX12_closedOf_83 rfl rfl ?_
            refine tz_aload_n (pc := 84) dX12_closedOf_84 rfl rfl ?_
            refine tz_iload_n (pc := 85) dX12_closedOf_85 rfl rfl ?_
            refine tz_iconst (pc := 86) dX12_closedOf_86 ?_
            have l_87 := (q_65).1.2
            have tt_87 := (q_65).1.1.told
            refine tz_cV (pc := 87) (m_arg hl n _ _ _ (by omega) (by decide) 0 0 0 s m (q_65).1.1 (by omega) (by omega)) vl_X12_88 dX12_closedOf_87 o_164 rfl rfl (Nat.le_of_ble_eq_true rfl) ⟨(show 0 + 1 ≤ 5 + 1 * (r9 + 1) by omega), (show 8 + (3 + 11) + 40 * (0) ≤ 40 * (5 + 1 * (r9 + 1)) by omega)⟩ rfl rfl (Nat.le_of_ble_eq_true rfl) (Nat.le_of_ble_eq_true rfl) (fun r9 J_87 hq9 => ?_)
            obtain ⟨z_87, rfl, hz_87, rfl, hv_87⟩ := hq9
            have he_87 : J_65 167 (3 * (0 + t) + 0) = J 167 (3 * (0 + t) + 0) := ((q_65).2.1 t ht9.1 ht9.2).2 0 (by omega) (by omega)
            rw [he_87] at hv_87
            obtain rfl : J 167 (3 * (0 + t) + 0) = z_87 := hv_87
            refine tz_iload_n (pc := 90) dX12_closedOf_90 rfl rfl ?_
            refine tz_iconst (pc := 91) dX12_closedOf_91 ?_
            refine tz_iadd (pc := 92) (v := y + 1) dX12_closedOf_92 rfl ?_
            have l0_93 := (q_65).1.2
            have t0_93 := (q_65).1.1.told
            have a_93 := hM.arg (t := t) (i := 0) ht9 (by omega)
            refine tz_cV (pc := 93) (ih _ _ _ (by omega) (by omega) s m m0 q ρ O rk P (q_65).1.1 (((q_65).2.2.1.2.2.1 9 rfl).trans hs) (by omega) (by omega) (hC.mg hm (q_65)) (fun v o9 => by rw [(q_65).2.2.1.2.2.2 175 rfl]; exact hq v ((hC.1.1 t ht.1 ht.2).2 0 v (by omega) o9)) (by omega) (by omega)) vl_X12_158 dX12_closedOf_93 o_164 rfl rfl (Nat.le_of_ble_eq_true rfl) ⟨(show (5 + 1 * r9) + 1 ≤ 5 + 1 * (r9 + 1) by omega), (show 8 + (7 + 11) + 40 * ((5 + 1 * r9)) ≤ 40 * (5 + 1 * (r9 + 1)) by omega)⟩ rfl rfl (Nat.le_of_ble_eq_true rfl) (Nat.le_of_ble_eq_true rfl) (fun r9 J_93 hq9 => ?_)
            obtain ⟨z_93, rfl, hz_93, m_93, g_93, h_93, x_93⟩ := hq9
            have q_93 := MG.tr q_65 g_93
            have f_93 := g_93.2.2.2
            have l_93 := g_93.1.2
            have w_93 : J_65 167 (3 * (0 + t) + 0) = J 167 (3 * (0 + t) + 0) := ((q_65).2.1 t ht9.1 ht9.2).2 0 (by decide) (by decide)
            rw [show (7 - (y + 1)).toNat = (7 - y).toNat - 1 from by omega, ← w_93] at x_93
            refine tz_goto (pc := 96) (tgt := 100) dX12_closedOf_96 (by decide) ?_
            refine tz_istore (pc := 100) (L2 := [_, _, _, _, _, _, _]) dX12_closedOf_100 (by decide) rfl ?_
            refine tz_iload_n (pc := 102) dX12_closedOf_102 rfl rfl ?_
            refine tz_iconst (pc := 103) dX12_closedOf_103 ?_
            refine tz_icmp_le (pc := 104) (tgt := 123) dX12_closedOf_104 (by decide) (by omega) (by decide) (fun h_104 => ?_) (fun h_104 => ?_)
            · refine tz_iconst (pc := 123) dX12_closedOf_123 ?_
              refine tz_istore (pc := 124) (L2 := [_, _, _, _, _, _, _]) dX12_closedOf_124 (by decide) rfl ?_
              refine tz_iload_n (pc := 126) dX12_closedOf_126 rfl rfl ?_
              refine tz_iconst (pc := 127) dX12_closedOf_127 ?_
              refine tz_icmp_le (pc := 128) (tgt := 147) dX12_closedOf_128 (by decide) (by omega) (by decide) (fun h_128 => ?_) (fun h_128 => ?_)
              · refine tz_iconst (pc := 147) dX12_closedOf_147 ?_
                refine tz_istore (pc := 148) (L2 := [_, _, _, _, _, _, _]) dX12_closedOf_148 (by decide) rfl ?_
                refine tz_aload_n (pc := 150) dX12_closedOf_150 rfl rfl ?_
                refine tz_iload_n (pc := 151) dX12_closedOf_151 rfl rfl ?_
                refine tz_iload (pc := 152) dX12_closedOf_152 rfl ?_
                refine tz_iload (pc := 154) dX12_closedOf_154 rfl ?_
                refine tz_iload (pc := 156) dX12_closedOf_156 rfl ?_
                have l0_158 := (q_93).1.2
                have t0_158 := (q_93).1.1.told
                refine tz_cV (pc := 158) (o_remade hl n _ _ _ _ _ (by omega) (by omega) (by omega) (by omega) s m_93 (q_93).1.1 (((q_93).2.2.1.2.2.1 9 rfl).trans hs) (by omega) (fun q9 => by have e9 := (q_93).ar ht9 ((q_93).2.2.1.2.2.2 170 rfl); rw [e9]; omega)) vl_X12_152 dX12_closedOf_158 o_164 rfl rfl (Nat.le_of_ble_eq_true rfl) ⟨(show 3 + 1 ≤ 5 + 1 * (r9 + 1) by omega), (show 8 + (5 + 11) + 40 * (3) ≤ 40 * (5 + 1 * (r9 + 1)) by omega)⟩ rfl rfl (Nat.le_of_ble_eq_true rfl) (Nat.le_of_ble_eq_true rfl) (fun r9 J_158 hq9 => ?_)
                obtain ⟨z_158, rfl, hz_158, m_158, g_158, h_158, x_158⟩ := hq9
                have q_158 := MG.tr q_93 g_158
                have f_158 := g_158.2.2.2
                have l_158 := g_158.1.2
                exact tz_iret (pc := 161) (z := z_158) dX12_closedOf_161 rfl (Nat.le_of_ble_eq_true rfl) (Nat.le_of_ble_eq_true rfl) ⟨Nat.le_refl _, Nat.le_add_right _ _⟩ ⟨_, rfl, (by omega), ⟨m_158, q_158, h_158, gr_c hM ht9 (by omega) d1 (by omega) (by omega) ((hC.2 t ht.1 ht.2 (fun v o9 => (hq v o9).1)).2 (Or.inl (by omega))) (Or.inl ⟨by omega, x_93⟩) (Or.inr ⟨by omega, rfl, rfl⟩) (Or.inr ⟨by omega, rfl, rfl⟩) (by have e7 := x_158; rw [show J_93 166 (0 + t) = J 166 (0 + t) from ((q_93).2.1 t ht9.1 ht9.2).1.1] at e7; exact e7)⟩⟩
              · refine tz_aload_n (pc := 131) dX12_closedOf_131 rfl rfl ?_
                refine tz_aload_n (pc := 132) dX12_closedOf_132 rfl rfl ?_
                refine tz_iload_n (pc := 133) dX12_closedOf_133 rfl rfl ?_
                refine tz_iconst (pc := 134) dX12_closedOf_134 ?_
                have l_135 := (q_93).1.2
                have tt_135 := (q_93).1.1.told
                refine tz_cV (pc := 135) (m_arg hl n _ _ _ (by omega) (by decide) 0 0 0 s m_93 (q_93).1.1 (by omega) (by omega)) vl_X12_88 dX12_closedOf_135 o_164 rfl rfl (Nat.le_of_ble_eq_true rfl) ⟨(show 0 + 1 ≤ 5 + 1 * (r9 + 1) by omega), (show 8 + (3 + 11) + 40 * (0) ≤ 40 * (5 + 1 * (r9 + 1)) by omega)⟩ rfl rfl (Nat.le_of_ble_eq_true rfl) (Nat.le_of_ble_eq_true rfl) (fun r9 J_135 hq9 => ?_)
                obtain ⟨z_135, rfl, hz_135, rfl, hv_135⟩ := hq9
                have he_135 : J_93 167 (3 * (0 + t) + 2) = J 167 (3 * (0 + t) + 2) := ((q_93).2.1 t ht9.1 ht9.2).2 2 (by omega) (by omega)
                rw [he_135] at hv_135
                obtain rfl : J 167 (3 * (0 + t) + 2) = z_135 := hv_135
                refine tz_iload_n (pc := 138) dX12_closedOf_138 rfl rfl ?_
                refine tz_iconst (pc := 139) dX12_closedOf_139 ?_
                refine tz_iadd (pc := 140) (v := y + 1) dX12_closedOf_140 rfl ?_
                have l0_141 := (q_93).1.2
                have t0_141 := (q_93).1.1.told
                have a_141 := hM.arg (t := t) (i := 2) ht9 (by omega)
                refine tz_cV (pc := 141) (ih _ _ _ (by omega) (by omega) s m_93 m0 q ρ O rk P (q_93).1.1 (((q_93).2.2.1.2.2.1 9 rfl).trans hs) (by omega) (by omega) (hC.mg hm (q_93)) (fun v o9 => by rw [(q_93).2.2.1.2.2.2 175 rfl]; exact hq v ((hC.1.1 t ht.1 ht.2).2 2 v (by omega) o9)) (by omega) (by omega)) vl_X12_158 dX12_closedOf_141 o_164 rfl rfl (Nat.le_of_ble_eq_true rfl) ⟨(show (5 + 1 * r9) + 1 ≤ 5 + 1 * (r9 + 1) by omega), (show 8 + (7 + 11) + 40 * ((5 + 1 * r9)) ≤ 40 * (5 + 1 * (r9 + 1)) by omega)⟩ rfl rfl (Nat.le_of_ble_eq_true rfl) (Nat.le_of_ble_eq_true rfl) (fun r9 J_141 hq9 => ?_)
                obtain ⟨z_141, rfl, hz_141, m_141, g_141, h_141, x_141⟩ := hq9
                have q_141 := MG.tr q_93 g_141
                have f_141 := g_141.2.2.2
                have l_141 := g_141.1.2
                have w_141 : J_93 167 (3 * (0 + t) + 2) = J 167 (3 * (0 + t) + 2) := ((q_93).2.1 t ht9.1 ht9.2).2 2 (by decide) (by decide)
                rw [show (7 - (y + 1)).toNat = (7 - y).toNat - 1 from by omega, ← w_141] at x_141
                refine tz_goto (pc := 144) (tgt := 148) dX12_closedOf_144 (by decide) ?_
                refine tz_istore (pc := 148) (L2 := [_, _, _, _, _, _, _]) dX12_closedOf_148 (by decide) rfl ?_
                refine tz_aload_n (pc := 150) dX12_closedOf_150 rfl rfl ?_
                refine tz_iload_n (pc := 151) dX12_closedOf_151 rfl rfl ?_
                refine tz_iload (pc := 152) dX12_closedOf_152 rfl ?_
                refine tz_iload (pc := 154) dX12_closedOf_154 rfl ?_
                refine tz_iload (pc := 156) dX12_closedOf_156 rfl ?_
                have l0_158 := (q_141).1.2
                have t0_158 := (q_141).1.1.told
                refine tz_cV (pc := 158) (o_remade hl n _ _ _ _ _ (by omega) (by omega) (by omega) (by omega) s m_141 (q_141).1.1 (((q_141).2.2.1.2.2.1 9 rfl).trans hs) (by omega) (fun q9 => by have e9 := (q_141).ar ht9 ((q_141).2.2.1.2.2.2 170 rfl); rw [e9]; omega)) vl_X12_152 dX12_closedOf_158 o_164 rfl rfl (Nat.le_of_ble_eq_true rfl) ⟨(show 3 + 1 ≤ 5 + 1 * (r9 + 1) by omega), (show 8 + (5 + 11) + 40 * (3) ≤ 40 * (5 + 1 * (r9 + 1)) by omega)⟩ rfl rfl (Nat.le_of_ble_eq_true rfl) (Nat.le_of_ble_eq_true rfl) (fun r9 J_158 hq9 => ?_)
                obtain ⟨z_158, rfl, hz_158, m_158, g_158, h_158, x_158⟩ := hq9
                have q_158 := MG.tr q_141 g_158
                have f_158 := g_158.2.2.2
                have l_158 := g_158.1.2
                exact tz_iret (pc := 161) (z := z_158) dX12_closedOf_161 rfl (Nat.le_of_ble_eq_true rfl) (Nat.le_of_ble_eq_true rfl) ⟨Nat.le_refl _, Nat.le_add_right _ _⟩ ⟨_, rfl, (by omega), ⟨m_158, q_158, h_158, gr_c hM ht9 (by omega) d1 (by omega) (by omega) ((hC.2 t ht.1 ht.2 (fun v o9 => (hq v o9).1)).2 (Or.inl (by omega))) (Or.inl ⟨by omega, x_93⟩) (Or.inr ⟨by omega, rfl, rfl⟩) (Or.inl ⟨by omega, x_141⟩) (by have e7 := x_158; rw [show J_141 166 (0 + t) = J 166 (0 + t) from ((q_141).2.1 t ht9.1 ht9.2).1.1] at e7; exact e7)⟩⟩
            · refine tz_aload_n (pc := 107) dX12_closedOf_107 rfl rfl ?_
              refine tz_aload_n (pc := 108) dX12_closedOf_108 rfl rfl ?_
              refine tz_iload_n (pc := 109) dX12_closedOf_109 rfl rfl ?_
              refine tz_iconst (pc := 110) dX12_closedOf_110 ?_
              have l_111 := (q_93).1.2
              have tt_111 := (q_93).1.1.told
              refine tz_cV (pc := 111) (m_arg hl n _ _ _ (by omega) (by decide) 0 0 0 s m_93 (q_93).1.1 (by omega) (by omega)) vl_X12_88 dX12_closedOf_111 o_164 rfl rfl (Nat.le_of_ble_eq_true rfl) ⟨(show 0 + 1 ≤ 5 + 1 * (r9 + 1) by omega), (show 8 + (3 + 11) + 40 * (0) ≤ 40 * (5 + 1 * (r9 + 1)) by omega)⟩ rfl rfl (Nat.le_of_ble_eq_true rfl) (Nat.le_of_ble_eq_true rfl) (fun r9 J_111 hq9 => ?_)
              obtain ⟨z_111, rfl, hz_111, rfl, hv_111⟩ := hq9
              have he_111 : J_93 167 (3 * (0 + t) + 1) = J 167 (3 * (0 + t) + 1) := ((q_93).2.1 t ht9.1 ht9.2).2 1 (by omega) (by omega)
              rw [he_111] at hv_111
              obtain rfl : J 167 (3 * (0 + t) + 1) = z_111 := hv_111
              refine tz_iload_n (pc := 114) dX12_closedOf_114 rfl rfl ?_
              refine tz_iconst (pc := 115) dX12_closedOf_115 ?_
              refine tz_iadd (pc := 116) (v := y + 1) dX12_closedOf_116 rfl ?_
              have l0_117 := (q_93).1.2
              have t0_117 := (q_93).1.1.told
              have a_117 := hM.arg (t := t) (i := 1) ht9 (by omega)
              refine tz_cV (pc := 117) (ih _ _ _ (by omega) (by omega) s m_93 m0 q ρ O rk P (q_93).1.1 (((q_93).2.2.1.2.2.1 9 rfl).trans hs) (by omega) (by omega) (hC.mg hm (q_93)) (fun v o9 => by rw [(q_93).2.2.1.2.2.2 175 rfl]; exact hq v ((hC.1.1 t ht.1 ht.2).2 1 v (by omega) o9)) (by omega) (by omega)) vl_X12_158 dX12_closedOf_117 o_164 rfl rfl (Nat.le_of_ble_eq_true rfl) ⟨(show (5 + 1 * r9) + 1 ≤ 5 + 1 * (r9 + 1) by omega), (show 8 + (7 + 11) + 40 * ((5 + 1 * r9)) ≤ 40 * (5 + 1 * (r9 + 1)) by omega)⟩ rfl rfl (Nat.le_of_ble_eq_true rfl) (Nat.le_of_ble_eq_true rfl) (fun r9 J_117 hq9 => ?_)
              obtain ⟨z_117, rfl, hz_117, m_117, g_117, h_117, x_117⟩ := hq9
              have q_117 := MG.tr q_93 g_117
              have f_117 := g_117.2.2.2
              have l_117 := g_117.1.2
              have w_117 : J_93 167 (3 * (0 + t) + 1) = J 167 (3 * (0 + t) + 1) := ((q_93).2.1 t ht9.1 ht9.2).2 1 (by decide) (by decide)
              rw [show (7 - (y + 1)).toNat = (7 - y).toNat - 1 from by omega, ← w_117] at x_117
              refine tz_goto (pc := 120) (tgt := 124) dX12_closedOf_120 (by decide) ?_
              refine tz_istore (pc := 124) (L2 := [_, _, _, _, _, _, _]) dX12_closedOf_124 (by decide) rfl ?_
              refine tz_iload_n (pc := 126) dX12_closedOf_126 rfl rfl ?_
              refine tz_iconst (pc := 127) dX12_closedOf_127 ?_
              refine tz_icmp_le (pc := 128) (tgt := 147) dX12_closedOf_128 (by decide) (by omega) (by decide) (fun h_128 => ?_) (fun h_128 => ?_)
              · refine tz_iconst (pc := 147) dX12_closedOf_147 ?_
                refine tz_istore (pc := 148) (L2 := [_, _, _, _, _, _, _]) dX12_closedOf_148 (by decide) rfl ?_
                refine tz_aload_n (pc := 150) dX12_closedOf_150 rfl rfl ?_
                refine tz_iload_n (pc := 151) dX12_closedOf_151 rfl rfl ?_
                refine tz_iload (pc := 152) dX12_closedOf_152 rfl ?_
                refine tz_iload (pc := 154) dX12_closedOf_154 rfl ?_
                refine tz_iload (pc := 156) dX12_closedOf_156 rfl ?_
                have l0_158 := (q_117).1.2
                have t0_158 := (q_117).1.1.told
                refine tz_cV (pc := 158) (o_remade hl n _ _ _ _ _ (by omega) (by omega) (by omega) (by omega) s m_117 (q_117).1.1 (((q_117).2.2.1.2.2.1 9 rfl).trans hs) (by omega) (fun q9 => by have e9 := (q_117).ar ht9 ((q_117).2.2.1.2.2.2 170 rfl); rw [e9]; omega)) vl_X12_152 dX12_closedOf_158 o_164 rfl rfl (Nat.le_of_ble_eq_true rfl) ⟨(show 3 + 1 ≤ 5 + 1 * (r9 + 1) by omega), (show 8 + (5 + 11) + 40 * (3) ≤ 40 * (5 + 1 * (r9 + 1)) by omega)⟩ rfl rfl (Nat.le_of_ble_eq_true rfl) (Nat.le_of_ble_eq_true rfl) (fun r9 J_158 hq9 => ?_)
                obtain ⟨z_158, rfl, hz_158, m_158, g_158, h_158, x_158⟩ := hq9
                have q_158 := MG.tr q_117 g_158
                have f_158 := g_158.2.2.2
                have l_158 := g_158.1.2
                exact tz_iret (pc := 161) (z := z_158) dX12_closedOf_161 rfl (Nat.le_of_ble_eq_true rfl) (Nat.le_of_ble_eq_true rfl) ⟨Nat.le_refl _, Nat.le_add_right _ _⟩ ⟨_, rfl, (by omega), ⟨m_158, q_158, h_158, gr_c hM ht9 (by omega) d1 (by omega) (by omega) ((hC.2 t ht.1 ht.2 (fun v o9 => (hq v o9).1)).2 (Or.inl (by omega))) (Or.inl ⟨by omega, x_93⟩) (Or.inl ⟨by omega, x_117⟩) (Or.inr ⟨by omega, rfl, rfl⟩) (by have e7 := x_158; rw [show J_117 166 (0 + t) = J 166 (0 + t) from ((q_117).2.1 t ht9.1 ht9.2).1.1] at e7; exact e7)⟩⟩
              · refine tz_aload_n (pc := 131) dX12_closedOf_131 rfl rfl ?_
                refine tz_aload_n (pc := 132) dX12_closedOf_132 rfl rfl ?_
                refine tz_iload_n (pc := 133) dX12_closedOf_133 rfl rfl ?_
                refine tz_iconst (pc := 134) dX12_closedOf_134 ?_
                have l_135 := (q_117).1.2
                have tt_135 := (q_117).1.1.told
                refine tz_cV (pc := 135) (m_arg hl n _ _ _ (by omega) (by decide) 0 0 0 s m_117 (q_117).1.1 (by omega) (by omega)) vl_X12_88 dX12_closedOf_135 o_164 rfl rfl (Nat.le_of_ble_eq_true rfl) ⟨(show 0 + 1 ≤ 5 + 1 * (r9 + 1) by omega), (show 8 + (3 + 11) + 40 * (0) ≤ 40 * (5 + 1 * (r9 + 1)) by omega)⟩ rfl rfl (Nat.le_of_ble_eq_true rfl) (Nat.le_of_ble_eq_true rfl) (fun r9 J_135 hq9 => ?_)
                obtain ⟨z_135, rfl, hz_135, rfl, hv_135⟩ := hq9
                have he_135 : J_117 167 (3 * (0 + t) + 2) = J 167 (3 * (0 + t) + 2) := ((q_117).2.1 t ht9.1 ht9.2).2 2 (by omega) (by omega)
                rw [he_135] at hv_135
                obtain rfl : J 167 (3 * (0 + t) + 2) = z_135 := hv_135
                refine tz_iload_n (pc := 138) dX12_closedOf_138 rfl rfl ?_
                refine tz_iconst (pc := 139) dX12_closedOf_139 ?_
                refine tz_iadd (pc := 140) (v := y + 1) dX12_closedOf_140 rfl ?_
                have l0_141 := (q_117).1.2
                have t0_141 := (q_117).1.1.told
                have a_141 := hM.arg (t := t) (i := 2) ht9 (by omega)
                refine tz_cV (pc := 141) (ih _ _ _ (by omega) (by omega) s m_117 m0 q ρ O rk P (q_117).1.1 (((q_117).2.2.1.2.2.1 9 rfl).trans hs) (by omega) (by omega) (hC.mg hm (q_117)) (fun v o9 => by rw [(q_117).2.2.1.2.2.2 175 rfl]; exact hq v ((hC.1.1 t ht.1 ht.2).2 2 v (by omega) o9)) (by omega) (by omega)) vl_X12_158 dX12_closedOf_141 o_164 rfl rfl (Nat.le_of_ble_eq_true rfl) ⟨(show (5 + 1 * r9) + 1 ≤ 5 + 1 * (r9 + 1) by omega), (show 8 + (7 + 11) + 40 * ((5 + 1 * r9)) ≤ 40 * (5 + 1 * (r9 + 1)) by omega)⟩ rfl rfl (Nat.le_of_ble_eq_true rfl) (Nat.le_of_ble_eq_true rfl) (fun r9 J_141 hq9 => ?_)
                obtain ⟨z_141, rfl, hz_141, m_141, g_141, h_141, x_141⟩ := hq9
                have q_141 := MG.tr q_117 g_141
                have f_141 := g_141.2.2.2
                have l_141 := g_141.1.2
                have w_141 : J_117 167 (3 * (0 + t) + 2) = J 167 (3 * (0 + t) + 2) := ((q_117).2.1 t ht9.1 ht9.2).2 2 (by decide) (by decide)
                rw [show (7 - (y + 1)).toNat = (7 - y).toNat - 1 from by omega, ← w_141] at x_141
                refine tz_goto (pc := 144) (tgt := 148) dX12_closedOf_144 (by decide) ?_
                refine tz_istore (pc := 148) (L2 := [_, _, _, _, _, _, _]) dX12_closedOf_148 (by decide) rfl ?_
                refine tz_aload_n (pc := 150) dX12_closedOf_150 rfl rfl ?_
                refine tz_iload_n (pc := 151) dX12_closedOf_151 rfl rfl ?_
                refine tz_iload (pc := 152) dX12_closedOf_152 rfl ?_
                refine tz_iload (pc := 154) dX12_closedOf_154 rfl ?_
                refine tz_iload (pc := 156) dX12_closedOf_156 rfl ?_
                have l0_158 := (q_141).1.2
                have t0_158 := (q_141).1.1.told
                refine tz_cV (pc := 158) (o_remade hl n _ _ _ _ _ (by omega) (by omega) (by omega) (by omega) s m_141 (q_141).1.1 (((q_141).2.2.1.2.2.1 9 rfl).trans hs) (by omega) (fun q9 => by have e9 := (q_141).ar ht9 ((q_141).2.2.1.2.2.2 170 rfl); rw [e9]; omega)) vl_X12_152 dX12_closedOf_158 o_164 rfl rfl (Nat.le_of_ble_eq_true rfl) ⟨(show 3 + 1 ≤ 5 + 1 * (r9 + 1) by omega), (show 8 + (5 + 11) + 40 * (3) ≤ 40 * (5 + 1 * (r9 + 1)) by omega)⟩ rfl rfl (Nat.le_of_ble_eq_true rfl) (Nat.le_of_ble_eq_true rfl) (fun r9 J_158 hq9 => ?_)
                obtain ⟨z_158, rfl, hz_158, m_158, g_158, h_158, x_158⟩ := hq9
                have q_158 := MG.tr q_141 g_158
                have f_158 := g_158.2.2.2
                have l_158 := g_158.1.2
                exact tz_iret (pc := 161) (z := z_158) dX12_closedOf_161 rfl (Nat.le_of_ble_eq_true rfl) (Nat.le_of_ble_eq_true rfl) ⟨Nat.le_refl _, Nat.le_add_right _ _⟩ ⟨_, rfl, (by omega), ⟨m_158, q_158, h_158, gr_c hM ht9 (by omega) d1 (by omega) (by omega) ((hC.2 t ht.1 ht.2 (fun v o9 => (hq v o9).1)).2 (Or.inl (by omega))) (Or.inl ⟨by omega, x_93⟩) (Or.inl ⟨by omega, x_117⟩) (Or.inl ⟨by omega, x_141⟩) (by have e7 := x_158; rw [show J_141 166 (0 + t) = J 166 (0 + t) from ((q_141).2.1 t ht9.1 ht9.2).1.1] at e7; exact e7)⟩⟩
        · refine tz_if_eqF (pc := 68) (tgt := 73) (by decide) dX12_closedOf_68 (by decide) (by decide) ?_
          refine tz_iconst (pc := 71) dX12_closedOf_71 ?_
          exact tz_iret (pc := 72) (z := 0) dX12_closedOf_72 rfl (Nat.le_of_ble_eq_true rfl) (Nat.le_of_ble_eq_true rfl) ⟨Nat.le_refl _, Nat.le_add_right _ _⟩ ⟨_, rfl, (by decide), ⟨m, q_65, fun q9 => by omega, gr_u (by omega) d1 (by omega)⟩⟩
    · refine tz_iconst (pc := 7) dX12_closedOf_7 ?_
      exact tz_iret (pc := 8) (z := 0) dX12_closedOf_8 rfl (Nat.le_of_ble_eq_true rfl) (Nat.le_of_ble_eq_true rfl) ⟨Nat.le_refl _, Nat.le_add_right _ _⟩ ⟨_, rfl, (by decide), ⟨m, g0, fun q9 => by omega, gr_f (by omega)⟩⟩

theorem crm_mk {J : zJ} {β : Int → Int} {s m : Int} (hM : MS J 0 0 0 s m) (hy : gOK (J 175) m) (hβ : ∀ v, 0 ≤ v → v < 8 → β v = J 175 v) {rk : Int → Nat} {P : Int → Prop} (n1 : ∀ v, (0 ≤ v ∧ v < 8) → P v → ¬ β v = -1 → rk v < 8) (n3 : WTb (tb0 J) β rk P) : CRm (Occ J 0 0) rk P (rho β (fun t => tb0 J 166 (0 + t)) 8) J m := by
  have h3 : ∀ v, (0 ≤ v ∧ v < 8) → P v → ¬ β v = -1 → ∀ u, Occ J 0 0 (β v) u → P u ∧ (¬ β u = -1 → rk u < rk v) := fun v hv p b u o => n3 v hv p b u ((hM.oc (by have := hβ v hv.1 hv.2; have := hy v hv.1 hv.2; omega)).2 o)
  refine ⟨⟨fun u a c => ⟨fun q => Occ.v q, fun i v hi o => Occ.a hi o⟩, hy, fun v hv p b u o => ?_⟩, fun t a b ho => ?_⟩
  · have y := hy v hv.1 hv.2
    have hu := o.rg hM (by omega)
    rw [← hβ v hv.1 hv.2] at b o
    rw [← hβ u hu.1 hu.2]
    exact h3 v hv p b u o
  · have ht : 0 ≤ t ∧ t < m := ⟨a, b⟩
    have hd := (hM.ar ht).2.1
    have e6 := (hM.oa ht).1
    refine ⟨fun q1 q2 => ?_, fun q => ?_⟩
    · have e := hβ (-1 - J 166 (0 + t)) (by omega) (by omega)
      rw [← e] at q2 ⊢
      have st : rho β (fun t => tb0 J 166 (0 + t)) 8 t = rho β (fun t => tb0 J 166 (0 + t)) 7 (β (-1 - J 166 (0 + t))) := by
        rw [rho_s]
        (try dsimp only)
        rw [e6, if_pos ⟨q1, q2⟩]
      rw [st]
      have p := ho _ (Occ.v q1)
      have rv := n1 _ (by omega) p q2
      have y := hy (-1 - J 166 (0 + t)) (by omega) (by omega)
      refine rho_q (O := Occ J 0 0) (rk := rk) (P := P) (m := m) (fun t ht => ?_) (fun v a b => ?_) (fun t ht q => ?_) h3 7 _ (by omega) (fun u o => ?_) 7 8 (by decide) (by decide)
      · (try dsimp only)
        rw [(hM.oa ht).1]
        exact (hM.ar ht).2.1.1
      · rw [hβ v a b]; exact hy v a b
      · (try dsimp only at q ⊢)
        rw [(hM.oa ht).1] at q ⊢
        exact Occ.v q
      · obtain ⟨x, y⟩ := h3 _ (by omega) p q2 u o
        exact ⟨x, fun n => by have := y n; omega⟩
    · refine rho_n (fun w => ?_) 8
      (try dsimp only at w)
      rw [e6] at w
      rcases q with q | q
      · omega
      · have e := hβ (-1 - J 166 (0 + t)) (by omega) (by omega)
        exact w.2 (e.trans q)
theorem o_closed {l : Launch} {G : tb_G} (hl : l.stackTraces = false) (n : Nat) (J : zJ) (t : Int) (hr_t : -2147483648 ≤ t ∧ t < 2147483648) (s m : Int) (β : Int → Int) (hM : MS J 0 0 0 s m) (hs : J 164 9 = s) (ht : 0 ≤ t ∧ t < m) (hy : gOK (J 175) m) (hβ : ∀ v, 0 ≤ v → v < 8 → β v = J 175 v) (hN : NRb (tb0 J) β t) : tz_Ok l G M_X12_closedOf 22 0 0 [.ref 164, zi t, zi 1] n J (zqi (fun z J' => ∃ m', MG [] [] (fun _ => false) J' J 0 0 0 s m m' ∧ (J' 164 21 = 0 → 0 ≤ z ∧ z < m') ∧ (tb0 J', z) = grO (rho β (fun t => tb0 J 166 (0 + t)) 8) 6 (tb0 J) t)) zN := by
  have hb : ∀ v u, (0 ≤ v ∧ v < 8) → ¬ β v = -1 → Occ (tb0 J) 0 0 (β v) u → 0 ≤ u ∧ u < 8 := fun v u hv b o => by
    have e := hβ v hv.1 hv.2
    have y := hy v hv.1 hv.2
    exact ((hM.oc (by omega)).1 o).rg hM (by omega)
  obtain ⟨rk, P, n1, n2, n3⟩ := hN.n hb
  refine o_closedR hl n 17 J t 1 hr_t (by decide) s m m 8 (rho β (fun t => tb0 J 166 (0 + t)) 8) (Occ J 0 0) rk P hM hs (Int.le_refl _) ht (crm_mk hM hy hβ n1 n3) (fun v o => ?_) (by decide) (by decide)
  have hv := o.rg hM ht
  have p := n2 v ((hM.oc ht).2 o)
  exact ⟨p, fun b => n1 v hv p (by rw [hβ v hv.1 hv.2]; exact b)⟩
