set_option maxHeartbeats 4000000 in
set_option maxRecDepth 100000 in
theorem m_canBe {l : Launch} {G : tb_G} (hl : l.stackTraces = false) (n : Nat) (J : zJ) (x : Int) (y : Int) (hr_x : -2147483648 ≤ x ∧ x < 2147483648) (hr_y : -2147483648 ≤ y ∧ y < 2147483648) (b r d s m : Int) (hM : MS J b r d s m) (hx : 0 ≤ x ∧ x < m) (hy : 0 ≤ y ∧ y < m) : tz_Ok l G M_X12_canBeAlike 808 0 0 [.ref 164, zi x, zi y] n J (zqi (fun z J' => (z = 0 ∨ z = 1) ∧ zOf (zbut [164, 177, 178, 179, 180]) J' J ∧ ∀ k, ¬ k = 30 → J' 164 k = J 164 k)) zN := by
  refine tz_Ok.of hl (by decide +kernel) rfl (tb_c1 rfl) (Nat.le_of_ble_eq_true rfl) ?_
  show tz_At l G M_X12_canBeAlike (tb_rm 808 0 0) none (tb_ZM G 0 0 (zQ n 0 (zqi (fun z J' => (z = 0 ∨ z = 1) ∧ zOf (zbut [164, 177, 178, 179, 180]) J' J ∧ ∀ k, ¬ k = 30 → J' 164 k = J 164 k))) (zX n 0 zN)) 0 0 n J 0 [some (.ref 164), some (zi x), some (zi y)] []
  obtain ⟨hM1, hM2, hM3, hM4, hM5, hM6⟩ := id hM
  have hT := hM.told
  refine tz_aload_n (pc := 0) dX12_canBeAlike_0 rfl rfl ?_
  refine tz_iload_n (pc := 1) dX12_canBeAlike_1 rfl rfl ?_
  refine tz_sipush (pc := 2) dX12_canBeAlike_2 (by decide) ?_
  refine tz_iload_n (pc := 5) dX12_canBeAlike_5 rfl rfl ?_
  refine tz_iadd (pc := 6) (v := 400 + y) dX12_canBeAlike_6 rfl ?_
  refine tz_cV (pc := 7) (m_unifies hl n _ _ _ (by omega) (by omega) b r d s m 800 hM (Or.inr rfl) (by omega) (by omega)) vl_X12_189 dX12_canBeAlike_7 o_164 rfl rfl (Nat.le_of_ble_eq_true rfl) ⟨(Nat.le_of_ble_eq_true rfl), (Nat.le_of_ble_eq_true rfl)⟩ rfl rfl (Nat.le_of_ble_eq_true rfl) (Nat.le_of_ble_eq_true rfl) (fun r9 J_7 hq9 => ?_)
  obtain ⟨z_7, rfl, hz_7, -, -, g1, g2⟩ := hq9
  refine tz_iconst (pc := 10) dX12_canBeAlike_10 ?_
  refine tz_icmp_ne (pc := 11) (tgt := 18) dX12_canBeAlike_11 (by decide) (by omega) (by decide) (fun h_11 => ?_) (fun h_11 => ?_)
  · refine tz_iconst (pc := 18) dX12_canBeAlike_18 ?_
    exact tz_zret (pc := 19) (z := 0) dX12_canBeAlike_19 rfl (Or.inl rfl) (Nat.le_of_ble_eq_true rfl) (Nat.le_of_ble_eq_true rfl) ⟨Nat.le_refl _, Nat.le_add_right _ _⟩ ⟨_, rfl, (by decide), ⟨by omega, g1, g2⟩⟩
  · refine tz_iconst (pc := 14) dX12_canBeAlike_14 ?_
    refine tz_goto (pc := 15) (tgt := 19) dX12_canBeAlike_15 (by decide) ?_
    exact tz_zret (pc := 19) (z := 1) dX12_canBeAlike_19 rfl (Or.inr rfl) (Nat.le_of_ble_eq_true rfl) (Nat.le_of_ble_eq_true rfl) ⟨Nat.le_refl _, Nat.le_add_right _ _⟩ ⟨_, rfl, (by decide), ⟨by omega, g1, g2⟩⟩

set_option maxHeartbeats 4000000 in
set_option maxRecDepth 100000 in
theorem m_there {l : Launch} {G : tb_G} (hl : l.stackTraces = false) (n : Nat) (J : zJ) (v : Int) (hr_v : -2147483648 ≤ v ∧ v < 2147483648) (b r d s m : Int) (hM : MS J b r d s m) (hv : 0 ≤ v ∧ v < 8) : tz_Ok l G M_X12_thereOf 1 0 0 [.ref 164, zi v] n J (zqi (fun z J' => J = J' ∧ (z = -1 ∨ (0 ≤ z ∧ z < m)))) zN := by
  refine tz_Ok.of hl (by decide +kernel) rfl (tb_c1 rfl) (Nat.le_of_ble_eq_true rfl) ?_
  show tz_At l G M_X12_thereOf (tb_rm 1 0 0) none (tb_ZM G 0 0 (zQ n 0 (zqi (fun z J' => J = J' ∧ (z = -1 ∨ (0 ≤ z ∧ z < m))))) (zX n 0 zN)) 0 0 n J 0 [some (.ref 164), some (zi v), none] []
  obtain ⟨hM1, hM2, hM3, hM4, hM5, hM6⟩ := id hM
  have hT := hM.told
  refine tz_iconst (pc := 0) dX12_thereOf_0 ?_
  refine tz_istore_n (pc := 1) (L2 := [_, _, _]) dX12_thereOf_1 rfl (by decide) rfl ?_
  have loop2 : ∀ (f9 : Nat) (k : Int), ((m - k).toNat) < f9 → (0 ≤ k ∧ k ≤ m) → tz_At l G M_X12_thereOf (tb_rm 1 0 0) none (tb_ZM G 0 0 (zQ n 0 (zqi (fun z J' => J = J' ∧ (z = -1 ∨ (0 ≤ z ∧ z < m))))) (zX n 0 zN)) 0 0 n J 2 [some (.ref 164), some (zi v), some (zi k)] [] := by
    intro f9
    induction f9 with
    | zero => intro k hm9; exact absurd hm9 (Nat.not_lt_zero _)
    | succ f9 ih2 =>
      intro k hm2 hk
      refine tz_iload_n (pc := 2) dX12_thereOf_2 rfl rfl ?_
      refine tz_aload_n (pc := 3) dX12_thereOf_3 rfl rfl ?_
      refine tz_cV (pc := 4) (m_many hl n _ b r d s m hM) vl_X12_96 dX12_thereOf_4 o_164 rfl rfl (Nat.le_of_ble_eq_true rfl) ⟨(Nat.le_of_ble_eq_true rfl), (Nat.le_of_ble_eq_true rfl)⟩ rfl rfl (Nat.le_of_ble_eq_true rfl) (Nat.le_of_ble_eq_true rfl) (fun r9 J_4 hq9 => ?_)
      obtain ⟨z_4, rfl, hz_4, rfl, rfl⟩ := hq9
      refine tz_icmp_ge (pc := 7) (tgt := 29) dX12_thereOf_7 (by decide) (by omega) (by omega) (fun h_7 => ?_) (fun h_7 => ?_)
      · refine tz_iconst (pc := 29) dX12_thereOf_29 ?_
        exact tz_iret (pc := 30) (z := (-1)) dX12_thereOf_30 rfl (Nat.le_of_ble_eq_true rfl) (Nat.le_of_ble_eq_true rfl) ⟨Nat.le_refl _, Nat.le_add_right _ _⟩ ⟨_, rfl, (by decide), ⟨rfl, by omega⟩⟩
      · refine tz_aload_n (pc := 10) dX12_thereOf_10 rfl rfl ?_
        refine tz_iload_n (pc := 11) dX12_thereOf_11 rfl rfl ?_
        refine tz_cV (pc := 12) (m_head hl n _ _ (by omega) b r d s m hM (by omega)) vl_X12_74 dX12_thereOf_12 o_164 rfl rfl (Nat.le_of_ble_eq_true rfl) ⟨(Nat.le_of_ble_eq_true rfl), (Nat.le_of_ble_eq_true rfl)⟩ rfl rfl (Nat.le_of_ble_eq_true rfl) (Nat.le_of_ble_eq_true rfl) (fun r9 J_12 hq9 => ?_)
        obtain ⟨z_12, rfl, hz_12, rfl, rfl⟩ := hq9
        refine tz_iconst (pc := 15) dX12_thereOf_15 ?_
        refine tz_iload_n (pc := 16) dX12_thereOf_16 rfl rfl ?_
        refine tz_isub (pc := 17) (v := (-1) - v) dX12_thereOf_17 rfl ?_
        refine tz_icmp_ne (pc := 18) (tgt := 23) dX12_thereOf_18 (by decide) (by omega) (by omega) (fun h_18 => ?_) (fun h_18 => ?_)
        · refine tz_iinc (pc := 23) (z := k + 1) (L2 := [_, _, _]) dX12_thereOf_23 rfl (by omega) rfl ?_
          refine tz_goto (pc := 26) (tgt := 2) dX12_thereOf_26 (by decide) ?_
          exact ih2 (k + 1) (by omega) (by omega)
        · refine tz_iload_n (pc := 21) dX12_thereOf_21 rfl rfl ?_
          exact tz_iret (pc := 22) (z := k) dX12_thereOf_22 rfl (Nat.le_of_ble_eq_true rfl) (Nat.le_of_ble_eq_true rfl) ⟨Nat.le_refl _, Nat.le_add_right _ _⟩ ⟨_, rfl, (by omega), ⟨rfl, by omega⟩⟩
  exact loop2 _ 0 (Nat.lt_succ_self _) (by omega)

set_option maxHeartbeats 4000000 in
set_option maxRecDepth 100000 in
theorem m_deep {l : Launch} {G : tb_G} (hl : l.stackTraces = false) (n : Nat) (J : zJ) (x : Int) (hr_x : -2147483648 ≤ x ∧ x < 2147483648)   : tz_Ok l G M_X12_isTooDeep 0 0 0 [.ref 164, zi x] n J (zqi (fun z J' => (zOf (zbut [164]) J' J ∧ ∀ k, ¬ k = 21 → J' 164 k = J 164 k) ∧ ((z = 0 ∧ J' 164 21 = 0 ∧ J 164 21 = 0 ∧ x ≤ 6) ∨ (z = 1 ∧ ¬ J' 164 21 = 0)))) zN := by
  refine tz_Ok.of hl (by decide +kernel) rfl (tb_c1 rfl) (Nat.le_of_ble_eq_true rfl) ?_
  show tz_At l G M_X12_isTooDeep (tb_rm 0 0 0) none (tb_ZM G 0 0 (zQ n 0 (zqi (fun z J' => (zOf (zbut [164]) J' J ∧ ∀ k, ¬ k = 21 → J' 164 k = J 164 k) ∧ ((z = 0 ∧ J' 164 21 = 0 ∧ J 164 21 = 0 ∧ x ≤ 6) ∨ (z = 1 ∧ ¬ J' 164 21 = 0))))) (zX n 0 zN)) 0 0 n J 0 [some (.ref 164), some (zi x)] []
  refine tz_aload_n (pc := 0) dX12_isTooDeep_0 rfl rfl ?_
  refine tz_aload_n (pc := 1) dX12_isTooDeep_1 rfl rfl ?_
  refine tz_fI (pc := 2) (kz := 21) (v := (J 164 21)) dX12_isTooDeep_2 fl_X12_92 i_164_21 rfl rfl (fun r_2 => ?_)
  refine tz_if_ne (pc := 5) (tgt := 14) dX12_isTooDeep_5 (by decide) (by omega) (fun h_5 => ?_) (fun h_5 => ?_)
  · refine tz_iconst (pc := 14) dX12_isTooDeep_14 ?_
    refine tz_goto (pc := 15) (tgt := 19) dX12_isTooDeep_15 (by decide) ?_
    refine tz_pZ (pc := 19) (kz := 21) dX12_isTooDeep_19 fl_X12_92 i_164_21 rfl rfl (Or.inr rfl) ?_
    refine tz_aload_n (pc := 22) dX12_isTooDeep_22 rfl rfl ?_
    refine tz_fI (pc := 23) (kz := 21) (v := 1) dX12_isTooDeep_23 fl_X12_92 i_164_21 rfl rfl (fun _ => ?_)
    exact tz_zret (pc := 26) (z := 1) dX12_isTooDeep_26 rfl (Or.inr rfl) (Nat.le_of_ble_eq_true rfl) (Nat.le_of_ble_eq_true rfl) ⟨Nat.le_refl _, Nat.le_add_right _ _⟩ ⟨_, rfl, (by decide), ⟨⟨zOf.up rfl zOf.rf, fun k hk => zup_ne hk⟩, Or.inr ⟨rfl, by rw [zup_at]; decide⟩⟩⟩
  · refine tz_iload_n (pc := 8) dX12_isTooDeep_8 rfl rfl ?_
    refine tz_bipush (pc := 9) dX12_isTooDeep_9 (by decide) ?_
    refine tz_icmp_le (pc := 11) (tgt := 18) dX12_isTooDeep_11 (by decide) (by omega) (by decide) (fun h_11 => ?_) (fun h_11 => ?_)
    · refine tz_iconst (pc := 18) dX12_isTooDeep_18 ?_
      refine tz_pZ (pc := 19) (kz := 21) dX12_isTooDeep_19 fl_X12_92 i_164_21 rfl rfl (Or.inl rfl) ?_
      refine tz_aload_n (pc := 22) dX12_isTooDeep_22 rfl rfl ?_
      refine tz_fI (pc := 23) (kz := 21) (v := 0) dX12_isTooDeep_23 fl_X12_92 i_164_21 rfl rfl (fun _ => ?_)
      exact tz_zret (pc := 26) (z := 0) dX12_isTooDeep_26 rfl (Or.inl rfl) (Nat.le_of_ble_eq_true rfl) (Nat.le_of_ble_eq_true rfl) ⟨Nat.le_refl _, Nat.le_add_right _ _⟩ ⟨_, rfl, (by decide), ⟨⟨zOf.up rfl zOf.rf, fun k hk => zup_ne hk⟩, Or.inl ⟨rfl, zup_at, by omega, by omega⟩⟩⟩
    · refine tz_iconst (pc := 14) dX12_isTooDeep_14 ?_
      refine tz_goto (pc := 15) (tgt := 19) dX12_isTooDeep_15 (by decide) ?_
      refine tz_pZ (pc := 19) (kz := 21) dX12_isTooDeep_19 fl_X12_92 i_164_21 rfl rfl (Or.inr rfl) ?_
      refine tz_aload_n (pc := 22) dX12_isTooDeep_22 rfl rfl ?_
      refine tz_fI (pc := 23) (kz := 21) (v := 1) dX12_isTooDeep_23 fl_X12_92 i_164_21 rfl rfl (fun _ => ?_)
      exact tz_zret (pc := 26) (z := 1) dX12_isTooDeep_26 rfl (Or.inr rfl) (Nat.le_of_ble_eq_true rfl) (Nat.le_of_ble_eq_true rfl) ⟨Nat.le_refl _, Nat.le_add_right _ _⟩ ⟨_, rfl, (by decide), ⟨⟨zOf.up rfl zOf.rf, fun k hk => zup_ne hk⟩, Or.inr ⟨rfl, by rw [zup_at]; decide⟩⟩⟩

theorem MG.deep {J1 J : zJ} {b r d s m : Int} (h : MS J b r d s m) (f : zOf (zbut [164]) J1 J ∧ ∀ k, ¬ k = 21 → J1 164 k = J 164 k) (hz : J1 164 21 = 0 → J 164 21 = 0) : MG [] [] (fun _ => false) J1 J b r d s m m :=
  ⟨⟨h.of ⟨f.2 _ (by decide), f.2 _ (by decide), f.2 _ (by decide)⟩ (by rw [f.1 165 rfl]) (f.1 166 rfl) (f.1 167 rfl) (f.1 168 rfl) (f.1 170 rfl), Int.le_refl _⟩, fun t _ _ => ⟨⟨by rw [f.1 166 rfl], by rw [f.1 168 rfl]⟩, fun i _ _ => by rw [f.1 167 rfl]⟩, ⟨⟨fun k _ => ⟨by rw [f.1 166 rfl], by rw [f.1 168 rfl]⟩, fun k _ => by rw [f.1 167 rfl]⟩, fun k _ _ => by rw [f.1 165 rfl], fun k hk => f.2 k (fun e => by subst e; simp at hk), f.1.mono (zbut_sub (fun c hc => by simp at hc ⊢; omega))⟩, hz⟩
theorem UF.mg {X : List Nat} {F : List Int} {rp : Int → Bool} {J' J : zJ} {b r d s m m' c m0 : Int} (h : UF J c m0) (g : MG X F rp J' J b r d s m m') (hX : X.contains 177 = false ∧ X.contains 178 = false ∧ X.contains 179 = false) : UF J' c m0 := by
  have fx : ∀ c, ¬ c = 164 → ¬ c = 165 → ¬ c = 166 → ¬ c = 167 → ¬ c = 168 → X.contains c = false → J' c = J c := fun c a1 a2 a3 a4 a5 a6 => g.2.2.1.2.2.2 c (by
    simp only [zbut, List.contains_cons, Bool.or_eq_true, Bool.not_eq_true', Bool.or_eq_false_iff, beq_eq_false_iff_ne]
    exact ⟨a1, a2, a3, a4, a5, a6⟩)
  exact h.of (fx 177 (by decide) (by decide) (by decide) (by decide) (by decide) hX.1) (fx 178 (by decide) (by decide) (by decide) (by decide) (by decide) hX.2.1) (fx 179 (by decide) (by decide) (by decide) (by decide) (by decide) hX.2.2)
set_option maxHeartbeats 4000000 in
set_option maxRecDepth 100000 in
theorem m_solvedR {l : Launch} {G : tb_G} (hl : l.stackTraces = false) (n : Nat) : ∀ (r9 : Nat) (J : zJ) (x : Int) (y : Int) (hr_x : -2147483648 ≤ x ∧ x < 2147483648) (hr_y : -2147483648 ≤ y ∧ y < 2147483648) (b r d s m : Int) (m0 : Int) (hM : MS J b r d s m) (hU : UF J 400 m0) (hm : m0 ≤ m) (hx : 0 ≤ x ∧ x < m0) (hy : 0 ≤ y ∧ y ≤ 7), ((7 - y).toNat) < r9 → tz_Ok l G M_X12_solved (5 + 1 * r9) 0 0 [.ref 164, zi x, zi y] n J (zqi (fun z J' => ∃ m', MG [] [] (fun _ => false) J' J b r d s m m' ∧ (J' 164 21 = 0 → 0 ≤ z ∧ z < m'))) zN := by
  intro r9
  induction r9 with
  | zero => intro J x y hr_x hr_y b r d s m m0 hM hU hm hx hy hm9; exact absurd hm9 (Nat.not_lt_zero _)
  | succ r9 ih =>
    intro J x y hr_x hr_y b r d s m m0 hM hU hm hx hy hm9
    refine tz_Ok.of hl (by decide +kernel) rfl (tb_c1 rfl) (Nat.le_of_ble_eq_true rfl) ?_
    show tz_At l G M_X12_solved (tb_rm (5 + 1 * (r9 + 1)) 0 0) none (tb_ZM G 0 0 (zQ n 0 (zqi (fun z J' => ∃ m', MG [] [] (fun _ => false) J' J b r d s m m' ∧ (J' 164 21 = 0 → 0 ≤ z ∧ z < m')))) (zX n 0 zN)) 0 0 n J 0 [some (.ref 164), some (zi x), some (zi y), none, none, none, none, none, none] []
    obtain ⟨hM1, hM2, hM3, hM4, hM5, hM6⟩ := id hM
    have hT := hM.told
    have g0 : MG [] [] (fun _ => false) J J b r d s m m := MG.rf hM
    refine tz_aload_n (pc := 0) dX12_solved_0 rfl rfl ?_
    refine tz_iload_n (pc := 1) dX12_solved_1 rfl rfl ?_
    refine tz_cV (pc := 2) (m_top hl n _ _ (by omega) 400 m0 hU (by omega)) vl_X12_164 dX12_solved_2 o_164 rfl rfl (Nat.le_of_ble_eq_true rfl) ⟨(show 0 + 1 ≤ 5 + 1 * (r9 + 1) by omega), (show 8 + (3 + 11) + 40 * (0) ≤ 40 * (5 + 1 * (r9 + 1)) by omega)⟩ rfl rfl (Nat.le_of_ble_eq_true rfl) (Nat.le_of_ble_eq_true rfl) (fun r9 J_2 hq9 => ?_)
    obtain ⟨z_2, rfl, hz_2, rfl, a_2, b_2, c_2⟩ := hq9
    refine tz_istore_n (pc := 5) (L2 := [_, _, _, _, _, _, _, _, _]) dX12_solved_5 rfl (by decide) rfl ?_
    have ua := (hU.at a_2).2
    have va := c_2 (by omega)
    refine tz_aload_n (pc := 6) dX12_solved_6 rfl rfl ?_
    refine tz_iload_n (pc := 7) dX12_solved_7 rfl rfl ?_
    refine tz_cV (pc := 8) (m_deep hl n _ _ (by omega)) vl_X12_155 dX12_solved_8 o_164 rfl rfl (Nat.le_of_ble_eq_true rfl) ⟨(show 0 + 1 ≤ 5 + 1 * (r9 + 1) by omega), (show 8 + (2 + 11) + 40 * (0) ≤ 40 * (5 + 1 * (r9 + 1)) by omega)⟩ rfl rfl (Nat.le_of_ble_eq_true rfl) (Nat.le_of_ble_eq_true rfl) (fun r9 J_8 hq9 => ?_)
    obtain ⟨z_8, rfl, hz_8, d1, d2⟩ := hq9
    have q_8 := MG.deep hM d1 (by omega)
    rcases d2 with ⟨rfl, d2⟩ | ⟨rfl, d2⟩
    · refine tz_if_eqT (pc := 11) (tgt := 16) (by decide) dX12_solved_11 (by decide) (by decide) ?_
      refine tz_aload_n (pc := 16) dX12_solved_16 rfl rfl ?_
      refine tz_fR (pc := 17) dX12_solved_17 fl_X12_53 r_164_26 ?_
      refine tz_iload_n (pc := 20) dX12_solved_20 rfl rfl ?_
      refine tz_aL (pc := 21) (z := z_2) (v := (J 178 z_2)) dX12_solved_21 a_178 rfl (by omega) (Eq.trans (congrFun (d1.1 178 rfl) z_2) rfl) (fun r_21 => ?_)
      refine tz_iconst (pc := 22) dX12_solved_22 ?_
      refine tz_icmp_ne (pc := 23) (tgt := 37) dX12_solved_23 (by decide) (by omega) (by decide) (fun h_23 => ?_) (fun h_23 => ?_)
      · refine tz_aload_n (pc := 37) dX12_solved_37 rfl rfl ?_
        refine tz_fR (pc := 38) dX12_solved_38 fl_X12_53 r_164_26 ?_
        refine tz_iload_n (pc := 41) dX12_solved_41 rfl rfl ?_
        refine tz_aL (pc := 42) (z := z_2) (v := (J 178 z_2)) dX12_solved_42 a_178 rfl (by omega) (Eq.trans (congrFun (d1.1 178 rfl) z_2) rfl) (fun r_42 => ?_)
        generalize hu9 : J 178 z_2 = u
        have hu : 0 ≤ u ∧ u < m := by omega
        have ha := hM.ar hu
        refine tz_istore (pc := 43) (L2 := [_, _, _, _, _, _, _, _, _]) dX12_solved_43 (by decide) rfl ?_
        refine tz_aload_n (pc := 45) dX12_solved_45 rfl rfl ?_
        refine tz_iload (pc := 46) dX12_solved_46 rfl ?_
        have l_48 := (q_8).1.2
        have tt_48 := (q_8).1.1.told
        refine tz_cV (pc := 48) (m_arity hl n _ _ (by omega) b r d s m (q_8).1.1 (by omega)) vl_X12_111 dX12_solved_48 o_164 rfl rfl (Nat.le_of_ble_eq_true rfl) ⟨(show 2 + 1 ≤ 5 + 1 * (r9 + 1) by omega), (show 8 + (2 + 11) + 40 * (2) ≤ 40 * (5 + 1 * (r9 + 1)) by omega)⟩ rfl rfl (Nat.le_of_ble_eq_true rfl) (Nat.le_of_ble_eq_true rfl) (fun r9 J_48 hq9 => ?_)
        obtain ⟨z_48, rfl, hz_48, rfl, hv_48⟩ := hq9
        have he_48 : mar J_8 b d u = mar J b d u := (q_8).ar hu ((q_8).2.2.1.2.2.2 170 rfl)
        rw [he_48] at hv_48
        obtain rfl : mar J b d u = z_48 := hv_48
        refine tz_istore (pc := 51) (L2 := [_, _, _, _, _, _, _, _, _]) dX12_solved_51 (by decide) rfl ?_
        refine tz_iload (pc := 53) dX12_solved_53 rfl ?_
        refine tz_if_le (pc := 55) (tgt := 75) dX12_solved_55 (by decide) (by omega) (fun h_55 => ?_) (fun h_55 => ?_)
        · refine tz_iconst (pc := 75) dX12_solved_75 ?_
          refine tz_istore (pc := 76) (L2 := [_, _, _, _, _, _, _, _, _]) dX12_solved_76 (by decide) rfl ?_
          refine tz_iload (pc := 78) dX12_solved_78 rfl ?_
          refine tz_iconst (pc := 80) dX12_solved_80 ?_
          refine tz_icmp_le (pc := 81) (tgt := 101) dX12_solved_81 (by decide) (by omega) (by decide) (fun h_81 => ?_) (fun h_81 => ?_)
          · refine tz_iconst (pc := 101) dX12_solved_101 ?_
            refine tz_istore (pc := 102) (L2 := [_, _, _, _, _, _, _, _, _]) dX12_solved_102 (by decide) rfl ?_
            refine tz_iload (pc := 104) dX12_solved_104 rfl ?_
            refine tz_iconst (pc := 106) dX12_solved_106 ?_
            refine tz_icmp_le (pc := 107) (tgt := 127) dX12_solved_107 (by decide) (by omega) (by decide) (fun h_107 => ?_) (fun h_107 => ?_)
            · refine tz_iconst (pc := 127) dX12_solved_127 ?_
              refine tz_istore (pc := 128) (L2 := [_, _, _, _, _, _, _, _, _]) dX12_solved_128 (by decide) rfl ?_
              refine tz_aload_n (pc := 130) dX12_solved_130 rfl rfl ?_
              refine tz_iload (pc := 131) dX12_solved_131 rfl ?_
              refine tz_iload (pc := 133) dX12_solved_133 rfl ?_
              refine tz_iload (pc := 135) dX12_solved_135 rfl ?_
              refine tz_iload (pc := 137) dX12_solved_137 rfl ?_
              have l0_139 := (q_8).1.2
              have t0_139 := (q_8).1.1.told
              refine tz_cV (pc := 139) (m_remade hl n _ _ _ _ _ (by omega) (by omega) (by omega) (by omega) b r d s m (q_8).1.1 (by omega) (fun q9 => by have e9 := (q_8).ar hu ((q_8).2.2.1.2.2.2 170 rfl); rw [e9]; omega)) vl_X12_152 dX12_solved_139 o_164 rfl rfl (Nat.le_of_ble_eq_true rfl) ⟨(show 3 + 1 ≤ 5 + 1 * (r9 + 1) by omega), (show 8 + (5 + 11) + 40 * (3) ≤ 40 * (5 + 1 * (r9 + 1)) by omega)⟩ rfl rfl (Nat.le_of_ble_eq_true rfl) (Nat.le_of_ble_eq_true rfl) (fun r9 J_139 hq9 => ?_)
              obtain ⟨z_139, rfl, hz_139, m_139, g_139, h_139⟩ := hq9
              have q_139 := MG.tr q_8 g_139
              have f_139 := g_139.2.2.2
              have l_139 := g_139.1.2
              exact tz_iret (pc := 142) (z := z_139) dX12_solved_142 rfl (Nat.le_of_ble_eq_true rfl) (Nat.le_of_ble_eq_true rfl) ⟨Nat.le_refl _, Nat.le_add_right _ _⟩ ⟨_, rfl, (by omega), ⟨m_139, q_139, h_139⟩⟩
            · refine tz_aload_n (pc := 110) dX12_solved_110 rfl rfl ?_
              refine tz_aload_n (pc := 111) dX12_solved_111 rfl rfl ?_
              refine tz_iload (pc := 112) dX12_solved_112 rfl ?_
              refine tz_iconst (pc := 114) dX12_solved_114 ?_
              have l_115 := (q_8).1.2
              have tt_115 := (q_8).1.1.told
              refine tz_cV (pc := 115) (m_arg hl n _ _ _ (by omega) (by decide) b r d s m (q_8).1.1 (by omega) (by omega)) vl_X12_88 dX12_solved_115 o_164 rfl rfl (Nat.le_of_ble_eq_true rfl) ⟨(show 0 + 1 ≤ 5 + 1 * (r9 + 1) by omega), (show 8 + (3 + 11) + 40 * (0) ≤ 40 * (5 + 1 * (r9 + 1)) by omega)⟩ rfl rfl (Nat.le_of_ble_eq_true rfl) (Nat.le_of_ble_eq_true rfl) (fun r9 J_115 hq9 => ?_)
              obtain ⟨z_115, rfl, hz_115, rfl, hv_115⟩ := hq9
              have he_115 : J_8 167 (3 * (b + u) + 2) = J 167 (3 * (b + u) + 2) := ((q_8).2.1 u hu.1 hu.2).2 2 (by omega) (by omega)
              rw [he_115] at hv_115
              obtain rfl : J 167 (3 * (b + u) + 2) = z_115 := hv_115
              refine tz_iload_n (pc := 118) dX12_solved_118 rfl rfl ?_
              refine tz_iconst (pc := 119) dX12_solved_119 ?_
              refine tz_iadd (pc := 120) (v := y + 1) dX12_solved_120 rfl ?_
              have l0_121 := (q_8).1.2
              have t0_121 := (q_8).1.1.told
              have a_121 := hM.arg (t := u) (i := 2) hu (by omega)
              refine tz_cV (pc := 121) (ih _ _ _ (by omega) (by omega) b r d s m m0 (q_8).1.1 (hU.mg (q_8) ⟨rfl, rfl, rfl⟩) (by omega) (by omega) (by omega) (by omega)) vl_X12_183 dX12_solved_121 o_164 rfl rfl (Nat.le_of_ble_eq_true rfl) ⟨(show (5 + 1 * r9) + 1 ≤ 5 + 1 * (r9 + 1) by omega), (show 8 + (9 + 11) + 40 * ((5 + 1 * r9)) ≤ 40 * (5 + 1 * (r9 + 1)) by omega)⟩ rfl rfl (Nat.le_of_ble_eq_true rfl) (Nat.le_of_ble_eq_true rfl) (fun r9 J_121 hq9 => ?_)
              obtain ⟨z_121, rfl, hz_121, m_121, g_121, h_121⟩ := hq9
              have q_121 := MG.tr q_8 g_121
              have f_121 := g_121.2.2.2
              have l_121 := g_121.1.2
              refine tz_goto (pc := 124) (tgt := 128) dX12_solved_124 (by decide) ?_
              refine tz_istore (pc := 128) (L2 := [_, _, _, _, _, _, _, _, _]) dX12_solved_128 (by decide) rfl ?_
              refine tz_aload_n (pc := 130) dX12_solved_130 rfl rfl ?_
              refine tz_iload (pc := 131) dX12_solved_131 rfl ?_
              refine tz_iload (pc := 133) dX12_solved_133 rfl ?_
              refine tz_iload (pc := 135) dX12_solved_135 rfl ?_
              refine tz_iload (pc := 137) dX12_solved_137 rfl ?_
              have l0_139 := (q_121).1.2
              have t0_139 := (q_121).1.1.told
              refine tz_cV (pc := 139) (m_remade hl n _ _ _ _ _ (by omega) (by omega) (by omega) (by omega) b r d s m_121 (q_121).1.1 (by omega) (fun q9 => by have e9 := (q_121).ar hu ((q_121).2.2.1.2.2.2 170 rfl); rw [e9]; omega)) vl_X12_152 dX12_solved_139 o_164 rfl rfl (Nat.le_of_ble_eq_true rfl) ⟨(show 3 + 1 ≤ 5 + 1 * (r9 + 1) by omega), (show 8 + (5 + 11) + 40 * (3) ≤ 40 * (5 + 1 * (r9 + 1)) by omega)⟩ rfl rfl (Nat.le_of_ble_eq_true rfl) (Nat.le_of_ble_eq_true rfl) (fun r9 J_139 hq9 => ?_)
              obtain ⟨z_139, rfl, hz_139, m_139, g_139, h_139⟩ := hq9
              have q_139 := MG.tr q_121 g_139
              have f_139 := g_139.2.2.2
              have l_139 := g_139.1.2
              exact tz_iret (pc := 142) (z := z_139) dX12_solved_142 rfl (Nat.le_of_ble_eq_true rfl) (Nat.le_of_ble_eq_true rfl) ⟨Nat.le_refl _, Nat.le_add_right _ _⟩ ⟨_, rfl, (by omega), ⟨m_139, q_139, h_139⟩⟩
          · refine tz_aload_n (pc := 84) dX12_solved_84 rfl rfl ?_
            refine tz_aload_n (pc := 85) dX12_solved_85 rfl rfl ?_
            refine tz_iload (pc := 86) dX12_solved_86 rfl ?_
            refine tz_iconst (pc := 88) dX12_solved_88 ?_
            have l_89 := (q_8).1.2
            have tt_89 := (q_8).1.1.told
            refine tz_cV (pc := 89) (m_arg hl n _ _ _ (by omega) (by decide) b r d s m (q_8).1.1 (by omega) (by omega)) vl_X12_88 dX12_solved_89 o_164 rfl rfl (Nat.le_of_ble_eq_true rfl) ⟨(show 0 + 1 ≤ 5 + 1 * (r9 + 1) by omega), (show 8 + (3 + 11) + 40 * (0) ≤ 40 * (5 + 1 * (r9 + 1)) by omega)⟩ rfl rfl (Nat.le_of_ble_eq_true rfl) (Nat.le_of_ble_eq_true rfl) (fun r9 J_89 hq9 => ?_)
            obtain ⟨z_89, rfl, hz_89, rfl, hv_89⟩ := hq9
            have he_89 : J_8 167 (3 * (b + u) + 1) = J 167 (3 * (b + u) + 1) := ((q_8).2.1 u hu.1 hu.2).2 1 (by omega) (by omega)
            rw [he_89] at hv_89
            obtain rfl : J 167 (3 * (b + u) + 1) = z_89 := hv_89
            refine tz_iload_n (pc := 92) dX12_solved_92 rfl rfl ?_
            refine tz_iconst (pc := 93) dX12_solved_93 ?_
            refine tz_iadd (pc := 94) (v := y + 1) dX12_solved_94 rfl ?_
            have l0_95 := (q_8).1.2
            have t0_95 := (q_8).1.1.told
            have a_95 := hM.arg (t := u) (i := 1) hu (by omega)
            refine tz_cV (pc := 95) (ih _ _ _ (by omega) (by omega) b r d s m m0 (q_8).1.1 (hU.mg (q_8) ⟨rfl, rfl, rfl⟩) (by omega) (by omega) (by omega) (by omega)) vl_X12_183 dX12_solved_95 o_164 rfl rfl (Nat.le_of_ble_eq_true rfl) ⟨(show (5 + 1 * r9) + 1 ≤ 5 + 1 * (r9 + 1) by omega), (show 8 + (9 + 11) + 40 * ((5 + 1 * r9)) ≤ 40 * (5 + 1 * (r9 + 1)) by omega)⟩ rfl rfl (Nat.le_of_ble_eq_true rfl) (Nat.le_of_ble_eq_true rfl) (fun r9 J_95 hq9 => ?_)
            obtain ⟨z_95, rfl, hz_95, m_95, g_95, h_95⟩ := hq9
            have q_95 := MG.tr q_8 g_95
            have f_95 := g_95.2.2.2
            have l_95 := g_95.1.2
            refine tz_goto (pc := 98) (tgt := 102) dX12_solved_98 (by decide) ?_
            refine tz_istore (pc := 102) (L2 := [_, _, _, _, _, _, _, _, _]) dX12_solved_102 (by decide) rfl ?_
            refine tz_iload (pc := 104) dX12_solved_104 rfl ?_
            refine tz_iconst (pc := 106) dX12_solved_106 ?_
            refine tz_icmp_le (pc := 107) (tgt := 127) dX12_solved_107 (by decide) (by omega) (by decide) (fun h_107 => ?_) (fun h_107 => ?_)
            · refine tz_iconst (pc := 127) dX12_solved_127 ?_
              refine tz_istore (pc := 128) (L2 := [_, _, _, _, _, _, _, _, _]) dX12_solved_128 (by decide) rfl ?_
              refine tz_aload_n (pc := 130) dX12_solved_130 rfl rfl ?_
              refine tz_iload (pc := 131) dX12_solved_131 rfl ?_
              refine tz_iload (pc := 133) dX12_solved_133 rfl ?_
              refine tz_iload (pc := 135) dX12_solved_135 rfl ?_
              refine tz_iload (pc := 137) dX12_solved_137 rfl ?_
              have l0_139 := (q_95).1.2
              have t0_139 := (q_95).1.1.told
              refine tz_cV (pc := 139) (m_remade hl n _ _ _ _ _ (by omega) (by omega) (by omega) (by omega) b r d s m_95 (q_95).1.1 (by omega) (fun q9 => by have e9 := (q_95).ar hu ((q_95).2.2.1.2.2.2 170 rfl); rw [e9]; omega)) vl_X12_152 dX12_solved_139 o_164 rfl rfl (Nat.le_of_ble_eq_true rfl) ⟨(show 3 + 1 ≤ 5 + 1 * (r9 + 1) by omega), (show 8 + (5 + 11) + 40 * (3) ≤ 40 * (5 + 1 * (r9 + 1)) by omega)⟩ rfl rfl (Nat.le_of_ble_eq_true rfl) (Nat.le_of_ble_eq_true rfl) (fun r9 J_139 hq9 => ?_)
              obtain ⟨z_139, rfl, hz_139, m_139, g_139, h_139⟩ := hq9
              have q_139 := MG.tr q_95 g_139
              have f_139 := g_139.2.2.2
              have l_139 := g_139.1.2
              exact tz_iret (pc := 142) (z := z_139) dX12_solved_142 rfl (Nat.le_of_ble_eq_true rfl) (Nat.le_of_ble_eq_true rfl) ⟨Nat.le_refl _, Nat.le_add_right _ _⟩ ⟨_, rfl, (by omega), ⟨m_139, q_139, h_139⟩⟩
            · refine tz_aload_n (pc := 110) dX12_solved_110 rfl rfl ?_
              refine tz_aload_n (pc := 111) dX12_solved_111 rfl rfl ?_
              refine tz_iload (pc := 112) dX12_solved_112 rfl ?_
              refine tz_iconst (pc := 114) dX12_solved_114 ?_
              have l_115 := (q_95).1.2
              have tt_115 := (q_95).1.1.told
              refine tz_cV (pc := 115) (m_arg hl n _ _ _ (by omega) (by decide) b r d s m_95 (q_95).1.1 (by omega) (by omega)) vl_X12_88 dX12_solved_115 o_164 rfl rfl (Nat.le_of_ble_eq_true rfl) ⟨(show 0 + 1 ≤ 5 + 1 * (r9 + 1) by omega), (show 8 + (3 + 11) + 40 * (0) ≤ 40 * (5 + 1 * (r9 + 1)) by omega)⟩ rfl rfl (Nat.le_of_ble_eq_true rfl) (Nat.le_of_ble_eq_true rfl) (fun r9 J_115 hq9 => ?_)
              obtain ⟨z_115, rfl, hz_115, rfl, hv_115⟩ := hq9
              have he_115 : J_95 167 (3 * (b + u) + 2) = J 167 (3 * (b + u) + 2) := ((q_95).2.1 u hu.1 hu.2).2 2 (by omega) (by omega)
              rw [he_115] at hv_115
              obtain rfl : J 167 (3 * (b + u) + 2) = z_115 := hv_115
              refine tz_iload_n (pc := 118) dX12_solved_118 rfl rfl ?_
              refine tz_iconst (pc := 119) dX12_solved_119 ?_
              refine tz_iadd (pc := 120) (v := y + 1) dX12_solved_120 rfl ?_
              have l0_121 := (q_95).1.2
              have t0_121 := (q_95).1.1.told
              have a_121 := hM.arg (t := u) (i := 2) hu (by omega)
              refine tz_cV (pc := 121) (ih _ _ _ (by omega) (by omega) b r d s m_95 m0 (q_95).1.1 (hU.mg (q_95) ⟨rfl, rfl, rfl⟩) (by omega) (by omega) (by omega) (by omega)) vl_X12_183 dX12_solved_121 o_164 rfl rfl (Nat.le_of_ble_eq_true rfl) ⟨(show (5 + 1 * r9) + 1 ≤ 5 + 1 * (r9 + 1) by omega), (show 8 + (9 + 11) + 40 * ((5 + 1 * r9)) ≤ 40 * (5 + 1 * (r9 + 1)) by omega)⟩ rfl rfl (Nat.le_of_ble_eq_true rfl) (Nat.le_of_ble_eq_true rfl) (fun r9 J_121 hq9 => ?_)
              obtain ⟨z_121, rfl, hz_121, m_121, g_121, h_121⟩ := hq9
              have q_121 := MG.tr q_95 g_121
              have f_121 := g_121.2.2.2
              have l_121 := g_121.1.2
              refine tz_goto (pc := 124) (tgt := 128) dX12_solved_124 (by decide) ?_
              refine tz_istore (pc := 128) (L2 := [_, _, _, _, _, _, _, _, _]) dX12_solved_128 (by decide) rfl ?_
              refine tz_aload_n (pc := 130) dX12_solved_130 rfl rfl ?_
              refine tz_iload (pc := 131) dX12_solved_131 rfl ?_
              refine tz_iload (pc := 133) dX12_solved_133 rfl ?_
              refine tz_iload (pc := 135) dX12_solved_135 rfl ?_
              refine tz_iload (pc := 137) dX12_solved_137 rfl ?_
              have l0_139 := (q_121).1.2
              have t0_139 := (q_121).1.1.told
              refine tz_cV (pc := 139) (m_remade hl n _ _ _ _ _ (by omega) (by omega) (by omega) (by omega) b r d s m_121 (q_121).1.1 (by omega) (fun q9 => by have e9 := (q_121).ar hu ((q_121).2.2.1.2.2.2 170 rfl); rw [e9]; omega)) vl_X12_152 dX12_solved_139 o_164 rfl rfl (Nat.le_of_ble_eq_true rfl) ⟨(show 3 + 1 ≤ 5 + 1 * (r9 + 1) by omega), (show 8 + (5 + 11) + 40 * (3) ≤ 40 * (5 + 1 * (r9 + 1)) by omega)⟩ rfl rfl (Nat.le_of_ble_eq_true rfl) (Nat.le_of_ble_eq_true rfl) (fun r9 J_139 hq9 => ?_)
              obtain ⟨z_139, rfl, hz_139, m_139, g_139, h_139⟩ := hq9
              have q_139 := MG.tr q_121 g_139
              have f_139 := g_139.2.2.2
              have l_139 := g_139.1.2
              exact tz_iret (pc := 142) (z := z_139) dX12_solved_142 rfl (Nat.le_of_ble_eq_true rfl) (Nat.le_of_ble_eq_true rfl) ⟨Nat.le_refl _, Nat.le_add_right _ _⟩ ⟨_, rfl, (by omega), ⟨m_139, q_139, h_139⟩⟩
        · refine tz_aload_n (pc := 58) dX12_solved_58 rfl rfl ?_
          refine tz_aload_n (pc := 59) dX12_solved_59 rfl rfl ?_
          refine tz_iload (pc := 60) dX12_solved_60 rfl ?_
          refine tz_iconst (pc := 62) dX12_solved_62 ?_
          have l_63 := (q_8).1.2
          have tt_63 := (q_8).1.1.told
          refine tz_cV (pc := 63) (m_arg hl n _ _ _ (by omega) (by decide) b r d s m (q_8).1.1 (by omega) (by omega)) vl_X12_88 dX12_solved_63 o_164 rfl rfl (Nat.le_of_ble_eq_true rfl) ⟨(show 0 + 1 ≤ 5 + 1 * (r9 + 1) by omega), (show 8 + (3 + 11) + 40 * (0) ≤ 40 * (5 + 1 * (r9 + 1)) by omega)⟩ rfl rfl (Nat.le_of_ble_eq_true rfl) (Nat.le_of_ble_eq_true rfl) (fun r9 J_63 hq9 => ?_)
          obtain ⟨z_63, rfl, hz_63, rfl, hv_63⟩ := hq9
          have he_63 : J_8 167 (3 * (b + u) + 0) = J 167 (3 * (b + u) + 0) := ((q_8).2.1 u hu.1 hu.2).2 0 (by omega) (by omega)
          rw [he_63] at hv_63
          obtain rfl : J 167 (3 * (b + u) + 0) = z_63 := hv_63
          refine tz_iload_n (pc := 66) dX12_solved_66 rfl rfl ?_
          refine tz_iconst (pc := 67) dX12_solved_67 ?_
          refine tz_iadd (pc := 68) (v := y + 1) dX12_solved_68 rfl ?_
          have l0_69 := (q_8).1.2
          have t0_69 := (q_8).1.1.told
          have a_69 := hM.arg (t := u) (i := 0) hu (by omega)
          refine tz_cV (pc := 69) (ih _ _ _ (by omega) (by omega) b r d s m m0 (q_8).1.1 (hU.mg (q_8) ⟨rfl, rfl, rfl⟩) (by omega) (by omega) (by omega) (by omega)) vl_X12_183 dX12_solved_69 o_164 rfl rfl (Nat.le_of_ble_eq_true rfl) ⟨(show (5 + 1 * r9) + 1 ≤ 5 + 1 * (r9 + 1) by omega), (show 8 + (9 + 11) + 40 * ((5 + 1 * r9)) ≤ 40 * (5 + 1 * (r9 + 1)) by omega)⟩ rfl rfl (Nat.le_of_ble_eq_true rfl) (Nat.le_of_ble_eq_true rfl) (fun r9 J_69 hq9 => ?_)
          obtain ⟨z_69, rfl, hz_69, m_69, g_69, h_69⟩ := hq9
          have q_69 := MG.tr q_8 g_69
          have f_69 := g_69.2.2.2
          have l_69 := g_69.1.2
          refine tz_goto (pc := 72) (tgt := 76) dX12_solved_72 (by decide) ?_
          refine tz_istore (pc := 76) (L2 := [_, _, _, _, _, _, _, _, _]) dX12_solved_76 (by decide) rfl ?_
          refine tz_iload (pc := 78) dX12_solved_78 rfl ?_
          refine tz_iconst (pc := 80) dX12_solved_80 ?_
          refine tz_icmp_le (pc := 81) (tgt := 101) dX12_solved_81 (by decide) (by omega) (by decide) (fun h_81 => ?_) (fun h_81 => ?_)
          · refine tz_iconst (pc := 101) dX12_solved_101 ?_
            refine tz_istore (pc := 102) (L2 := [_, _, _, _, _, _, _, _, _]) dX12_solved_102 (by decide) rfl ?_
            refine tz_iload (pc := 104) dX12_solved_104 rfl ?_
            refine tz_iconst (pc := 106) dX12_solved_106 ?_
            refine tz_icmp_le (pc := 107) (tgt := 127) dX12_solved_107 (by decide) (by omega) (by decide) (fun h_107 => ?_) (fun h_107 => ?_)
            · refine tz_iconst (pc := 127) dX12_solved_127 ?_
              refine tz_istore (pc := 128) (L2 := [_, _, _, _, _, _, _, _, _]) dX12_solved_128 (by decide) rfl ?_
              refine tz_aload_n (pc := 130) dX12_solved_130 rfl rfl ?_
              refine tz_iload (pc := 131) dX12_solved_131 rfl ?_
              refine tz_iload (pc := 133) dX12_solved_133 rfl ?_
              refine tz_iload (pc := 135) dX12_solved_135 rfl ?_
              refine tz_iload (pc := 137) dX12_solved_137 rfl ?_
              have l0_139 := (q_69).1.2
              have t0_139 := (q_69).1.1.told
              refine tz_cV (pc := 139) (m_remade hl n _ _ _ _ _ (by omega) (by omega) (by omega) (by omega) b r d s m_69 (q_69).1.1 (by omega) (fun q9 => by have e9 := (q_69).ar hu ((q_69).2.2.1.2.2.2 170 rfl); rw [e9]; omega)) vl_X12_152 dX12_solved_139 o_164 rfl rfl (Nat.le_of_ble_eq_true rfl) ⟨(show 3 + 1 ≤ 5 + 1 * (r9 + 1) by omega), (show 8 + (5 + 11) + 40 * (3) ≤ 40 * (5 + 1 * (r9 + 1)) by omega)⟩ rfl rfl (Nat.le_of_ble_eq_true rfl) (Nat.le_of_ble_eq_true rfl) (fun r9 J_139 hq9 => ?_)
              obtain ⟨z_139, rfl, hz_139, m_139, g_139, h_139⟩ := hq9
              have q_139 := MG.tr q_69 g_139
              have f_139 := g_139.2.2.2
              have l_139 := g_139.1.2
              exact tz_iret (pc := 142) (z := z_139) dX12_solved_142 rfl (Nat.le_of_ble_eq_true rfl) (Nat.le_of_ble_eq_true rfl) ⟨Nat.le_refl _, Nat.le_add_right _ _⟩ ⟨_, rfl, (by omega), ⟨m_139, q_139, h_139⟩⟩
            · refine tz_aload_n (pc := 110) dX12_solved_110 rfl rfl ?_
              refine tz_aload_n (pc := 111) dX12_solved_111 rfl rfl ?_
              refine tz_iload (pc := 112) dX12_solved_112 rfl ?_
              refine tz_iconst (pc := 114) dX12_solved_114 ?_
              have l_115 := (q_69).1.2
              have tt_115 := (q_69).1.1.told
              refine tz_cV (pc := 115) (m_arg hl n _ _ _ (by omega) (by decide) b r d s m_69 (q_69).1.1 (by omega) (by omega)) vl_X12_88 dX12_solved_115 o_164 rfl rfl (Nat.le_of_ble_eq_true rfl) ⟨(show 0 + 1 ≤ 5 + 1 * (r9 + 1) by omega), (show 8 + (3 + 11) + 40 * (0) ≤ 40 * (5 + 1 * (r9 + 1)) by omega)⟩ rfl rfl (Nat.le_of_ble_eq_true rfl) (Nat.le_of_ble_eq_true rfl) (fun r9 J_115 hq9 => ?_)
              obtain ⟨z_115, rfl, hz_115, rfl, hv_115⟩ := hq9
              have he_115 : J_69 167 (3 * (b + u) + 2) = J 167 (3 * (b + u) + 2) := ((q_69).2.1 u hu.1 hu.2).2 2 (by omega) (by omega)
              rw [he_115] at hv_115
              obtain rfl : J 167 (3 * (b + u) + 2) = z_115 := hv_115
              refine tz_iload_n (pc := 118) dX12_solved_118 rfl rfl ?_
              refine tz_iconst (pc := 119) dX12_solved_119 ?_
              refine tz_iadd (pc := 120) (v := y + 1) dX12_solved_120 rfl ?_
              have l0_121 := (q_69).1.2
              have t0_121 := (q_69).1.1.told
              have a_121 := hM.arg (t := u) (i := 2) hu (by omega)
              refine tz_cV (pc := 121) (ih _ _ _ (by omega) (by omega) b r d s m_69 m0 (q_69).1.1 (hU.mg (q_69) ⟨rfl, rfl, rfl⟩) (by omega) (by omega) (by omega) (by omega)) vl_X12_183 dX12_solved_121 o_164 rfl rfl (Nat.le_of_ble_eq_true rfl) ⟨(show (5 + 1 * r9) + 1 ≤ 5 + 1 * (r9 + 1) by omega), (show 8 + (9 + 11) + 40 * ((5 + 1 * r9)) ≤ 40 * (5 + 1 * (r9 + 1)) by omega)⟩ rfl rfl (Nat.le_of_ble_eq_true rfl) (Nat.le_of_ble_eq_true rfl) (fun r9 J_121 hq9 => ?_)
              obtain ⟨z_121, rfl, hz_121, m_121, g_121, h_121⟩ := hq9
              have q_121 := MG.tr q_69 g_121
              have f_121 := g_121.2.2.2
              have l_121 := g_121.1.2
              refine tz_goto (pc := 124) (tgt := 128) dX12_solved_124 (by decide) ?_
              refine tz_istore (pc := 128) (L2 := [_, _, _, _, _, _, _, _, _]) dX12_solved_128 (by decide) rfl ?_
              refine tz_aload_n (pc := 130) dX12_solved_130 rfl rfl ?_
              refine tz_iload (pc := 131) dX12_solved_131 rfl ?_
              refine tz_iload (pc := 133) dX12_solved_133 rfl ?_
              refine tz_iload (pc := 135) dX12_solved_135 rfl ?_
              refine tz_iload (pc := 137) dX12_solved_137 rfl ?_
              have l0_139 := (q_121).1.2
              have t0_139 := (q_121).1.1.told
              refine tz_cV (pc := 139) (m_remade hl n _ _ _ _ _ (by omega) (by omega) (by omega) (by omega) b r d s m_121 (q_121).1.1 (by omega) (fun q9 => by have e9 := (q_121).ar hu ((q_121).2.2.1.2.2.2 170 rfl); rw [e9]; omega)) vl_X12_152 dX12_solved_139 o_164 rfl rfl (Nat.le_of_ble_eq_true rfl) ⟨(show 3 + 1 ≤ 5 + 1 * (r9 + 1) by omega), (show 8 + (5 + 11) + 40 * (3) ≤ 40 * (5 + 1 * (r9 + 1)) by omega)⟩ rfl rfl (Nat.le_of_ble_eq_true rfl) (Nat.le_of_ble_eq_true rfl) (fun r9 J_139 hq9 => ?_)
              obtain ⟨z_139, rfl, hz_139, m_139, g_139, h_139⟩ := hq9
              have q_139 := MG.tr q_121 g_139
              have f_139 := g_139.2.2.2
              have l_139 := g_139.1.2
              exact tz_iret (pc := 142) (z := z_139) dX12_solved_142 rfl (Nat.le_of_ble_eq_true rfl) (Nat.le_of_ble_eq_true rfl) ⟨Nat.le_refl _, Nat.le_add_right _ _⟩ ⟨_, rfl, (by omega), ⟨m_139, q_139, h_139⟩⟩
          · refine tz_aload_n (pc := 84) dX12_solved_84 rfl rfl ?_
            refine tz_aload_n (pc := 85) dX12_solved_85 rfl rfl ?_
            refine tz_iload (pc := 86) dX12_solved_86 rfl ?_
            refine tz_iconst (pc := 88) dX12_solved_88 ?_
            have l_89 := (q_69).1.2
            have tt_89 := (q_69).1.1.told
            refine tz_cV (pc := 89) (m_arg hl n _ _ _ (by omega) (by decide) b r d s m_69 (q_69).1.1 (by omega) (by omega)) vl_X12_88 dX12_solved_89 o_164 rfl rfl (Nat.le_of_ble_eq_true rfl) ⟨(show 0 + 1 ≤ 5 + 1 * (r9 + 1) by omega), (show 8 + (3 + 11) + 40 * (0) ≤ 40 * (5 + 1 * (r9 + 1)) by omega)⟩ rfl rfl (Nat.le_of_ble_eq_true rfl) (Nat.le_of_ble_eq_true rfl) (fun r9 J_89 hq9 => ?_)
            obtain ⟨z_89, rfl, hz_89, rfl, hv_89⟩ := hq9
            have he_89 : J_69 167 (3 * (b + u) + 1) = J 167 (3 * (b + u) + 1) := ((q_69).2.1 u hu.1 hu.2).2 1 (by omega) (by omega)
            rw [he_89] at hv_89
            obtain rfl : J 167 (3 * (b + u) + 1) = z_89 := hv_89
            refine tz_iload_n (pc := 92) dX12_solved_92 rfl rfl ?_
            refine tz_iconst (pc := 93) dX12_solved_93 ?_
            refine tz_iadd (pc := 94) (v := y + 1) dX12_solved_94 rfl ?_
            have l0_95 := (q_69).1.2
            have t0_95 := (q_69).1.1.told
            have a_95 := hM.arg (t := u) (i := 1) hu (by omega)
            refine tz_cV (pc := 95) (ih _ _ _ (by omega) (by omega) b r d s m_69 m0 (q_69).1.1 (hU.mg (q_69) ⟨rfl, rfl, rfl⟩) (by omega) (by omega) (by omega) (by omega)) vl_X12_183 dX12_solved_95 o_164 rfl rfl (Nat.le_of_ble_eq_true rfl) ⟨(show (5 + 1 * r9) + 1 ≤ 5 + 1 * (r9 + 1) by omega), (show 8 + (9 + 11) + 40 * ((5 + 1 * r9)) ≤ 40 * (5 + 1 * (r9 + 1)) by omega)⟩ rfl rfl (Nat.le_of_ble_eq_true rfl) (Nat.le_of_ble_eq_true rfl) (fun r9 J_95 hq9 => ?_)
            obtain ⟨z_95, rfl, hz_95, m_95, g_95, h_95⟩ := hq9
            have q_95 := MG.tr q_69 g_95
            have f_95 := g_95.2.2.2
            have l_95 := g_95.1.2
            refine tz_goto (pc := 98) (tgt := 102) dX12_solved_98 (by decide) ?_
            refine tz_istore (pc := 102) (L2 := [_, _, _, _, _, _, _, _, _]) dX12_solved_102 (by decide) rfl ?_
            refine tz_iload (pc := 104) dX12_solved_104 rfl ?_
            refine tz_iconst (pc := 106) dX12_solved_106 ?_
            refine tz_icmp_le (pc := 107) (tgt := 127) dX12_solved_107 (by decide) (by omega) (by decide) (fun h_107 => ?_) (fun h_107 => ?_)
            · refine tz_iconst (pc := 127) dX12_solved_127 ?_
              refine tz_istore (pc := 128) (L2 := [_, _, _, _, _, _, _, _, _]) dX12_solved_128 (by decide) rfl ?_
              refine tz_aload_n (pc := 130) dX12_solved_130 rfl rfl ?_
              refine tz_iload (pc := 131) dX12_solved_131 rfl ?_
              refine tz_iload (pc := 133) dX12_solved_133 rfl ?_
              refine tz_iload (pc := 135) dX12_solved_135 rfl ?_
              refine tz_iload (pc := 137) dX12_solved_137 rfl ?_
              have l0_139 := (q_95).1.2
              have t0_139 := (q_95).1.1.told
              refine tz_cV (pc := 139) (m_remade hl n _ _ _ _ _ (by omega) (by omega) (by omega) (by omega) b r d s m_95 (q_95).1.1 (by omega) (fun q9 => by have e9 := (q_95).ar hu ((q_95).2.2.1.2.2.2 170 rfl); rw [e9]; omega)) vl_X12_152 dX12_solved_139 o_164 rfl rfl (Nat.le_of_ble_eq_true rfl) ⟨(show 3 + 1 ≤ 5 + 1 * (r9 + 1) by omega), (show 8 + (5 + 11) + 40 * (3) ≤ 40 * (5 + 1 * (r9 + 1)) by omega)⟩ rfl rfl (Nat.le_of_ble_eq_true rfl) (Nat.le_of_ble_eq_true rfl) (fun r9 J_139 hq9 => ?_)
              obtain ⟨z_139, rfl, hz_139, m_139, g_139, h_139⟩ := hq9
              have q_139 := MG.tr q_95 g_139
              have f_139 := g_139.2.2.2
              have l_139 := g_139.1.2
              exact tz_iret (pc := 142) (z := z_139) dX12_solved_142 rfl (Nat.le_of_ble_eq_true rfl) (Nat.le_of_ble_eq_true rfl) ⟨Nat.le_refl _, Nat.le_add_right _ _⟩ ⟨_, rfl, (by omega), ⟨m_139, q_139, h_139⟩⟩
            · refine tz_aload_n (pc := 110) dX12_solved_110 rfl rfl ?_
              refine tz_aload_n (pc := 111) dX12_solved_111 rfl rfl ?_
              refine tz_iload (pc := 112) dX12_solved_112 rfl ?_
              refine tz_iconst (pc := 114) dX12_solved_114 ?_
              have l_115 := (q_95).1.2
              have tt_115 := (q_95).1.1.told
              refine tz_cV (pc := 115) (m_arg hl n _ _ _ (by omega) (by decide) b r d s m_95 (q_95).1.1 (by omega) (by omega)) vl_X12_88 dX12_solved_115 o_164 rfl rfl (Nat.le_of_ble_eq_true rfl) ⟨(show 0 + 1 ≤ 5 + 1 * (r9 + 1) by omega), (show 8 + (3 + 11) + 40 * (0) ≤ 40 * (5 + 1 * (r9 + 1)) by omega)⟩ rfl rfl (Nat.le_of_ble_eq_true rfl) (Nat.le_of_ble_eq_true rfl) (fun r9 J_115 hq9 => ?_)
              obtain ⟨z_115, rfl, hz_115, rfl, hv_115⟩ := hq9
              have he_115 : J_95 167 (3 * (b + u) + 2) = J 167 (3 * (b + u) + 2) := ((q_95).2.1 u hu.1 hu.2).2 2 (by omega) (by omega)
              rw [he_115] at hv_115
              obtain rfl : J 167 (3 * (b + u) + 2) = z_115 := hv_115
              refine tz_iload_n (pc := 118) dX12_solved_118 rfl rfl ?_
              refine tz_iconst (pc := 119) dX12_solved_119 ?_
              refine tz_iadd (pc := 120) (v := y + 1) dX12_solved_120 rfl ?_
              have l0_121 := (q_95).1.2
              have t0_121 := (q_95).1.1.told
              have a_121 := hM.arg (t := u) (i := 2) hu (by omega)
              refine tz_cV (pc := 121) (ih _ _ _ (by omega) (by omega) b r d s m_95 m0 (q_95).1.1 (hU.mg (q_95) ⟨rfl, rfl, rfl⟩) (by omega) (by omega) (by omega) (by omega)) vl_X12_183 dX12_solved_121 o_164 rfl rfl (Nat.le_of_ble_eq_true rfl) ⟨(show (5 + 1 * r9) + 1 ≤ 5 + 1 * (r9 + 1) by omega), (show 8 + (9 + 11) + 40 * ((5 + 1 * r9)) ≤ 40 * (5 + 1 * (r9 + 1)) by omega)⟩ rfl rfl (Nat.le_of_ble_eq_true rfl) (Nat.le_of_ble_eq_true rfl) (fun r9 J_121 hq9 => ?_)
              obtain ⟨z_121, rfl, hz_121, m_121, g_121, h_121⟩ := hq9
              have q_121 := MG.tr q_95 g_121
              have f_121 := g_121.2.2.2
              have l_121 := g_121.1.2
              refine tz_goto (pc := 124) (tgt := 128) dX12_solved_124 (by decide) ?_
              refine tz_istore (pc := 128) (L2 := [_, _, _, _, _, _, _, _, _]) dX12_solved_128 (by decide) rfl ?_
              refine tz_aload_n (pc := 130) dX12_solved_130 rfl rfl ?_
              refine tz_iload (pc := 131) dX12_solved_131 rfl ?_
              refine tz_iload (pc := 133) dX12_solved_133 rfl ?_
              refine tz_iload (pc := 135) dX12_solved_135 rfl ?_
              refine tz_iload (pc := 137) dX12_solved_137 rfl ?_
              have l0_139 := (q_121).1.2
              have t0_139 := (q_121).1.1.told
              refine tz_cV (pc := 139) (m_remade hl n _ _ _ _ _ (by omega) (by omega) (by omega) (by omega) b r d s m_121 (q_121).1.1 (by omega) (fun q9 => by have e9 := (q_121).ar hu ((q_121).2.2.1.2.2.2 170 rfl); rw [e9]; omega)) vl_X12_152 dX12_solved_139 o_164 rfl rfl (Nat.le_of_ble_eq_true rfl) ⟨(show 3 + 1 ≤ 5 + 1 * (r9 + 1) by omega), (show 8 + (5 + 11) + 40 * (3) ≤ 40 * (5 + 1 * (r9 + 1)) by omega)⟩ rfl rfl (Nat.le_of_ble_eq_true rfl) (Nat.le_of_ble_eq_true rfl) (fun r9 J_139 hq9 => ?_)
              obtain ⟨z_139, rfl, hz_139, m_139, g_139, h_139⟩ := hq9
              have q_139 := MG.tr q_121 g_139
              have f_139 := g_139.2.2.2
              have l_139 := g_139.1.2
              exact tz_iret (pc := 142) (z := z_139) dX12_solved_142 rfl (Nat.le_of_ble_eq_true rfl) (Nat.le_of_ble_eq_true rfl) ⟨Nat.le_refl _, Nat.le_add_right _ _⟩ ⟨_, rfl, (by omega), ⟨m_139, q_139, h_139⟩⟩
      · refine tz_aload_n (pc := 26) dX12_solved_26 rfl rfl ?_
        refine tz_aload_n (pc := 27) dX12_solved_27 rfl rfl ?_
        refine tz_fR (pc := 28) dX12_solved_28 fl_X12_56 r_164_27 ?_
        refine tz_iload_n (pc := 31) dX12_solved_31 rfl rfl ?_
        refine tz_aL (pc := 32) (z := z_2) (v := (J 179 z_2)) dX12_solved_32 a_179 rfl (by omega) (Eq.trans (congrFun (d1.1 179 rfl) z_2) rfl) (fun r_32 => ?_)
        have l0_33 := (q_8).1.2
        have t0_33 := (q_8).1.1.told
        refine tz_cV (pc := 33) (m_varTerm hl n _ _ (by omega) b r d s m (q_8).1.1 (by omega)) vl_X12_180 dX12_solved_33 o_164 rfl rfl (Nat.le_of_ble_eq_true rfl) ⟨(show 3 + 1 ≤ 5 + 1 * (r9 + 1) by omega), (show 8 + (2 + 11) + 40 * (3) ≤ 40 * (5 + 1 * (r9 + 1)) by omega)⟩ rfl rfl (Nat.le_of_ble_eq_true rfl) (Nat.le_of_ble_eq_true rfl) (fun r9 J_33 hq9 => ?_)
        obtain ⟨z_33, rfl, hz_33, m_33, g_33, h_33⟩ := hq9
        have q_33 := MG.tr q_8 g_33
        have f_33 := g_33.2.2.2
        have l_33 := g_33.1.2
        exact tz_iret (pc := 36) (z := z_33) dX12_solved_36 rfl (Nat.le_of_ble_eq_true rfl) (Nat.le_of_ble_eq_true rfl) ⟨Nat.le_refl _, Nat.le_add_right _ _⟩ ⟨_, rfl, (by omega), ⟨m_33, q_33, h_33⟩⟩
    · refine tz_if_eqF (pc := 11) (tgt := 16) (by decide) dX12_solved_11 (by decide) (by decide) ?_
      refine tz_iconst (pc := 14) dX12_solved_14 ?_
      exact tz_iret (pc := 15) (z := 0) dX12_solved_15 rfl (Nat.le_of_ble_eq_true rfl) (Nat.le_of_ble_eq_true rfl) ⟨Nat.le_refl _, Nat.le_add_right _ _⟩ ⟨_, rfl, (by decide), ⟨m, q_8, fun q9 => by omega⟩⟩

theorem m_solved {l : Launch} {G : tb_G} (hl : l.stackTraces = false) (n : Nat) (J : zJ) (x y : Int) (hr_x : -2147483648 ≤ x ∧ x < 2147483648) (hr_y : -2147483648 ≤ y ∧ y < 2147483648) (b r d s m : Int) (m0 : Int) (hM : MS J b r d s m) (hU : UF J 400 m0) (hm : m0 ≤ m) (hx : 0 ≤ x ∧ x < m0) (hy : 0 ≤ y ∧ y ≤ 7) : tz_Ok l G M_X12_solved 13 0 0 [.ref 164, zi x, zi y] n J (zqi (fun z J' => ∃ m', MG [] [] (fun _ => false) J' J b r d s m m' ∧ (J' 164 21 = 0 → 0 ≤ z ∧ z < m'))) zN := m_solvedR hl n 8 J x y hr_x hr_y b r d s m m0 hM hU hm hx hy (by omega)
def rB : Int → Bool := fun k => decide (1 ≤ k ∧ k ≤ 8)
theorem MG.rb {X : List Nat} {F : List Int} {J' J : zJ} {b r d s m m' k v : Int} (g : MG X F rB J' J b r d s m m') (hk : 1 ≤ k ∧ k ≤ 8) : MG X F rB (zup J' 165 k v) J b r d s m m' := by
  have hr := g.1.1.1
  unfold mode at hr
  have e5 : ∀ q, ¬ q = k → zup J' 165 k v 165 q = J' 165 q := fun q hq => zup_ne hq
  refine ⟨⟨g.1.1.of ⟨rfl, rfl, rfl⟩ (e5 r (by omega)) rfl rfl rfl rfl, g.1.2⟩, g.2.1, ⟨g.2.2.1.1, fun q a c => ?_, g.2.2.1.2.2.1, fun c hc => ?_⟩, g.2.2.2⟩
  · rw [e5 q (fun e => by subst e; unfold rB at c; exact of_decide_eq_false c hk)]
    exact g.2.2.1.2.1 q a c
  · rw [← g.2.2.1.2.2.2 c hc]
    refine zup_nc (fun e => ?_)
    subst e
    simp [zbut] at hc
theorem MG.tr9 {J3 J2 J1 J : zJ} {b r d s m m1 m2 : Int} (g1 : MG [] [] rB J1 J b r d s m m1) (g2 : MG [] [] rB J2 J b r d s m m1) (g : MG [] [] (fun _ => false) J3 J2 b r d s m1 m2) : MG [] [] rB J3 J b r d s m m2 := g2.tr (g.mono (fun _ h => h) (fun _ h => h) (fun _ _ => rfl))
theorem bs_s1 {J1 : zJ} {k m1 : Int} (h : J1 164 21 = 0 → ∀ v, 1 ≤ v → v < 1 + k → 0 ≤ J1 165 v ∧ J1 165 v ≤ m1) (hk : 0 ≤ k) (hm : 0 ≤ m1) : zup J1 165 (1 + k) 0 164 21 = 0 → ∀ v, 1 ≤ v → v < 1 + (k + 1) → 0 ≤ zup J1 165 (1 + k) 0 165 v ∧ zup J1 165 (1 + k) 0 165 v ≤ m1 := fun q v a c => by
  have q1 : J1 164 21 = 0 := q
  have e : zup J1 165 (1 + k) 0 165 v = if v = 1 + k then 0 else J1 165 v := rfl
  rw [e]
  split
  · omega
  · exact h q1 v a (by omega)
theorem bs_s2 {J3 J1 : zJ} {b r d s k m1 m2 z : Int} (h : J1 164 21 = 0 → ∀ v, 1 ≤ v → v < 1 + k → 0 ≤ J1 165 v ∧ J1 165 v ≤ m1) (g : MG [] [] (fun _ => false) J3 (zup J1 165 (1 + k) 0) b r d s m1 m2) (hz : J3 164 21 = 0 → 0 ≤ z ∧ z < m2) (hk : 0 ≤ k ∧ k < 8) : zup J3 165 (1 + k) (zw (1 + z)) 164 21 = 0 → ∀ v, 1 ≤ v → v < 1 + (k + 1) → 0 ≤ zup J3 165 (1 + k) (zw (1 + z)) 165 v ∧ zup J3 165 (1 + k) (zw (1 + z)) 165 v ≤ m2 := fun q v a c => by
  have q3 : J3 164 21 = 0 := q
  have q1 : J1 164 21 = 0 := g.2.2.2 q3
  have hm := g.1.2
  have ht := g.1.1.told
  have hr := g.1.1.1
  unfold mode at hr
  have e : zup J3 165 (1 + k) (zw (1 + z)) 165 v = if v = 1 + k then zw (1 + z) else J3 165 v := rfl
  rw [e]
  have z1 := hz q3
  split
  · rw [zw_eq (by omega)]
    omega
  · next hv =>
    have e1 : J3 165 v = J1 165 v := by
      by_cases er : v = r
      · omega
      · rw [g.2.2.1.2.1 v er rfl]
        exact zup_ne hv
    rw [e1]
    have := h q1 v a (by omega)
    omega
set_option maxHeartbeats 4000000 in
set_option maxRecDepth 100000 in
theorem m_binds {l : Launch} {G : tb_G} (hl : l.stackTraces = false) (n : Nat) (J : zJ) (x : Int) (hr_x : -2147483648 ≤ x ∧ x < 2147483648) (b r d s m : Int) (hM : MS J b r d s m) (hU : UF J 400 m) : tz_Ok l G M_X12_bindsSolved 14 0 0 [.ref 164, zi x] n J (zqv (fun J' => ∃ m', MG [] [] rB J' J b r d s m m' ∧ (J' 164 21 = 0 → ∀ v, 1 ≤ v → v ≤ 8 → 0 ≤ J' 165 v ∧ J' 165 v ≤ m'))) zN := by
  refine tz_Ok.of hl (by decide +kernel) rfl (tb_c1 rfl) (Nat.le_of_ble_eq_true rfl) ?_
  show tz_At l G M_X12_bindsSolved (tb_rm 14 0 0) none (tb_ZM G 0 0 (zQ n 0 (zqv (fun J' => ∃ m', MG [] [] rB J' J b r d s m m' ∧ (J' 164 21 = 0 → ∀ v, 1 ≤ v → v ≤ 8 → 0 ≤ J' 165 v ∧ J' 165 v ≤ m')))) (zX n 0 zN)) 0 0 n J 0 [some (.ref 164), some (zi x), none, none, none, none] []
  obtain ⟨hM1, hM2, hM3, hM4, hM5, hM6⟩ := id hM
  have hT := hM.told
  have g0 : MG [] [] rB J J b r d s m m := MG.rf hM
  refine tz_aload_n (pc := 0) dX12_bindsSolved_0 rfl rfl ?_
  refine tz_cV (pc := 1) (m_many hl n _ b r d s m hM) vl_X12_96 dX12_bindsSolved_1 o_164 rfl rfl (Nat.le_of_ble_eq_true rfl) ⟨(Nat.le_of_ble_eq_true rfl), (Nat.le_of_ble_eq_true rfl)⟩ rfl rfl (Nat.le_of_ble_eq_true rfl) (Nat.le_of_ble_eq_true rfl) (fun r9 J_1 hq9 => ?_)
  obtain ⟨z_1, rfl, hz_1, rfl, rfl⟩ := hq9
  refine tz_istore_n (pc := 4) (L2 := [_, _, _, _, _, _]) dX12_bindsSolved_4 rfl (by decide) rfl ?_
  refine tz_iconst (pc := 5) dX12_bindsSolved_5 ?_
  refine tz_istore_n (pc := 6) (L2 := [_, _, _, _, _, _]) dX12_bindsSolved_6 rfl (by decide) rfl ?_
  have loop7 : ∀ (f9 : Nat) (k : Int) (m1 : Int) (d4 : Option Value) (d5 : Option Value) (J1 : zJ), ((8 - k).toNat) < f9 → (0 ≤ k ∧ k ≤ 8) → (MG [] [] rB J1 J b r d s m m1) → (J1 164 21 = 0 → ∀ v, 1 ≤ v → v < 1 + k → 0 ≤ J1 165 v ∧ J1 165 v ≤ m1) → tz_At l G M_X12_bindsSolved (tb_rm 14 0 0) none (tb_ZM G 0 0 (zQ n 0 (zqv (fun J' => ∃ m', MG [] [] rB J' J b r d s m m' ∧ (J' 164 21 = 0 → ∀ v, 1 ≤ v → v ≤ 8 → 0 ≤ J' 165 v ∧ J' 165 v ≤ m')))) (zX n 0 zN)) 0 0 n J1 7 [some (.ref 164), some (zi x), some (zi m), some (zi k), d4, d5] [] := by
    intro f9
    induction f9 with
    | zero => intro k m1 d4 d5 J1 hm9; exact absurd hm9 (Nat.not_lt_zero _)
    | succ f9 ih7 =>
      intro k m1 d4 d5 J1 hm7 hk g1 h1
      have ht1 := g1.1.1.told
      have lm1 := g1.1.2
      refine tz_iload_n (pc := 7) dX12_bindsSolved_7 rfl rfl ?_
      refine tz_bipush (pc := 8) dX12_bindsSolved_8 (by decide) ?_
      refine tz_icmp_ge (pc := 10) (tgt := 110) dX12_bindsSolved_10 (by decide) (by omega) (by decide) (fun h_10 => ?_) (fun h_10 => ?_)
      · exact tz_vret (pc := 110) dX12_bindsSolved_110 rfl (Nat.le_of_ble_eq_true rfl) (Nat.le_of_ble_eq_true rfl) ⟨Nat.le_refl _, Nat.le_add_right _ _⟩ ⟨rfl, ⟨m1, g1, fun q v a c => h1 q v a (by omega)⟩⟩
      · refine tz_aload_n (pc := 13) dX12_bindsSolved_13 rfl rfl ?_
        refine tz_fR (pc := 14) dX12_bindsSolved_14 fl_X12_9 r_164_0 ?_
        refine tz_iconst (pc := 17) dX12_bindsSolved_17 ?_
        refine tz_iload_n (pc := 18) dX12_bindsSolved_18 rfl rfl ?_
        refine tz_iadd (pc := 19) (v := 1 + k) dX12_bindsSolved_19 rfl ?_
        refine tz_iconst (pc := 20) dX12_bindsSolved_20 ?_
        refine tz_aS (pc := 21) (z := (1 + k)) dX12_bindsSolved_21 a_165 rfl (by omega) (by decide) ?_
        refine tz_iload_n (pc := 22) dX12_bindsSolved_22 rfl rfl ?_
        refine tz_iload_n (pc := 23) dX12_bindsSolved_23 rfl rfl ?_
        refine tz_ishr (pc := 24) (v := zshr x k) dX12_bindsSolved_24 rfl ?_
        refine tz_iconst (pc := 25) dX12_bindsSolved_25 ?_
        refine tz_iand (pc := 26) (v := zand (zshr x k) 1) dX12_bindsSolved_26 rfl ?_
        refine tz_iconst (pc := 27) dX12_bindsSolved_27 ?_
        refine tz_icmp_ne (pc := 28) (tgt := 39) dX12_bindsSolved_28 (by decide) (zand_rg _ _) (by decide) (fun h_28 => ?_) (fun h_28 => ?_)
        · refine tz_iconst (pc := 39) dX12_bindsSolved_39 ?_
          refine tz_istore (pc := 40) (L2 := [_, _, _, _, _, _]) dX12_bindsSolved_40 (by decide) rfl ?_
          refine tz_iload (pc := 42) dX12_bindsSolved_42 rfl ?_
          refine tz_iconst (pc := 44) dX12_bindsSolved_44 ?_
          refine tz_icmp_eqT (pc := 45) (tgt := 104) (by decide) dX12_bindsSolved_45 (by decide) (by decide) (by decide) ?_
          refine tz_iinc (pc := 104) (z := k + 1) (L2 := [_, _, _, _, _, _]) dX12_bindsSolved_104 rfl (by omega) rfl ?_
          refine tz_goto (pc := 107) (tgt := 7) dX12_bindsSolved_107 (by decide) ?_
          exact ih7 (k + 1) _ _ _ _ (by omega) (by omega) (g1.rb (by omega)) (bs_s1 h1 (by omega) g1.1.1.told.2.1.1)
        · refine tz_aload_n (pc := 31) dX12_bindsSolved_31 rfl rfl ?_
          refine tz_iload_n (pc := 32) dX12_bindsSolved_32 rfl rfl ?_
          have g2 : MG [] [] rB (zup J1 165 (1 + k) 0) J b r d s m m1 := g1.rb (by omega)
          refine tz_cV (pc := 33) (m_there hl n _ _ (by omega) b r d s m1 g2.1.1 (by omega)) vl_X12_186 dX12_bindsSolved_33 o_164 rfl rfl (Nat.le_of_ble_eq_true rfl) ⟨(Nat.le_of_ble_eq_true rfl), (Nat.le_of_ble_eq_true rfl)⟩ rfl rfl (Nat.le_of_ble_eq_true rfl) (Nat.le_of_ble_eq_true rfl) (fun r9 J_33 hq9 => ?_)
          obtain ⟨z_33, rfl, hz_33, rfl, hz33⟩ := hq9
          refine tz_goto (pc := 36) (tgt := 40) dX12_bindsSolved_36 (by decide) ?_
          refine tz_istore (pc := 40) (L2 := [_, _, _, _, _, _]) dX12_bindsSolved_40 (by decide) rfl ?_
          refine tz_iload (pc := 42) dX12_bindsSolved_42 rfl ?_
          refine tz_iconst (pc := 44) dX12_bindsSolved_44 ?_
          refine tz_icmp_eq (pc := 45) (tgt := 104) dX12_bindsSolved_45 (by decide) (by omega) (by decide) (fun h_45 => ?_) (fun h_45 => ?_)
          · refine tz_iinc (pc := 104) (z := k + 1) (L2 := [_, _, _, _, _, _]) dX12_bindsSolved_104 rfl (by omega) rfl ?_
            refine tz_goto (pc := 107) (tgt := 7) dX12_bindsSolved_107 (by decide) ?_
            exact ih7 (k + 1) _ _ _ _ (by omega) (by omega) (g1.rb (by omega)) (bs_s1 h1 (by omega) g1.1.1.told.2.1.1)
          · refine tz_iload (pc := 48) dX12_bindsSolved_48 rfl ?_
            refine tz_iload_n (pc := 50) dX12_bindsSolved_50 rfl rfl ?_
            refine tz_icmp_lt (pc := 51) (tgt := 57) dX12_bindsSolved_51 (by decide) (by omega) (by omega) (fun h_51 => ?_) (fun h_51 => ?_)
            · refine tz_aload_n (pc := 57) dX12_bindsSolved_57 rfl rfl ?_
              refine tz_iload (pc := 58) dX12_bindsSolved_58 rfl ?_
              refine tz_cV (pc := 60) (m_top hl n _ _ (by omega) 400 m (hU.mg g2 ⟨rfl, rfl, rfl⟩) (by omega)) vl_X12_164 dX12_bindsSolved_60 o_164 rfl rfl (Nat.le_of_ble_eq_true rfl) ⟨(Nat.le_of_ble_eq_true rfl), (Nat.le_of_ble_eq_true rfl)⟩ rfl rfl (Nat.le_of_ble_eq_true rfl) (Nat.le_of_ble_eq_true rfl) (fun r9 J_60 hq9 => ?_)
              obtain ⟨z_60, rfl, hz_60, rfl, a_60, b_60, c_60⟩ := hq9
              refine tz_istore (pc := 63) (L2 := [_, _, _, _, _, _]) dX12_bindsSolved_63 (by decide) rfl ?_
              refine tz_aload_n (pc := 65) dX12_bindsSolved_65 rfl rfl ?_
              refine tz_fR (pc := 66) dX12_bindsSolved_66 fl_X12_53 r_164_26 ?_
              refine tz_iload (pc := 69) dX12_bindsSolved_69 rfl ?_
              refine tz_aL (pc := 71) (z := z_60) (v := (J 178 z_60)) dX12_bindsSolved_71 a_178 rfl (by omega) (Eq.trans (congrFun (g1.2.2.1.2.2.2 178 rfl) z_60) rfl) (fun r_71 => ?_)
              refine tz_iconst (pc := 72) dX12_bindsSolved_72 ?_
              refine tz_icmp_ne (pc := 73) (tgt := 87) dX12_bindsSolved_73 (by decide) (by omega) (by decide) (fun h_73 => ?_) (fun h_73 => ?_)
              · refine tz_aload_n (pc := 87) dX12_bindsSolved_87 rfl rfl ?_
                refine tz_fR (pc := 88) dX12_bindsSolved_88 fl_X12_9 r_164_0 ?_
                refine tz_iconst (pc := 91) dX12_bindsSolved_91 ?_
                refine tz_iload_n (pc := 92) dX12_bindsSolved_92 rfl rfl ?_
                refine tz_iadd (pc := 93) (v := 1 + k) dX12_bindsSolved_93 rfl ?_
                refine tz_iconst (pc := 94) dX12_bindsSolved_94 ?_
                refine tz_aload_n (pc := 95) dX12_bindsSolved_95 rfl rfl ?_
                refine tz_iload (pc := 96) dX12_bindsSolved_96 rfl ?_
                refine tz_iconst (pc := 98) dX12_bindsSolved_98 ?_
                have lm := g1.1.2
                refine tz_cV (pc := 99) (m_solved hl n _ _ _ (by omega) (by decide) b r d s m1 m g2.1.1 (hU.mg g2 ⟨rfl, rfl, rfl⟩) lm (by omega) (by decide)) vl_X12_183 dX12_bindsSolved_99 o_164 rfl rfl (Nat.le_of_ble_eq_true rfl) ⟨(Nat.le_of_ble_eq_true rfl), (Nat.le_of_ble_eq_true rfl)⟩ rfl rfl (Nat.le_of_ble_eq_true rfl) (Nat.le_of_ble_eq_true rfl) (fun r9 J_99 hq9 => ?_)
                obtain ⟨z_99, rfl, hz_99, m_99, g_99, h_99⟩ := hq9
                refine tz_iadd (pc := 102) (v := 1 + z_99) dX12_bindsSolved_102 rfl ?_
                refine tz_tw ?_
                have rw_103 := zw_rg (1 + z_99)
                refine tz_aS (pc := 103) (z := (1 + k)) dX12_bindsSolved_103 a_165 rfl (by omega) (zw_rg _) ?_
                refine tz_iinc (pc := 104) (z := k + 1) (L2 := [_, _, _, _, _, _]) dX12_bindsSolved_104 rfl (by omega) rfl ?_
                refine tz_goto (pc := 107) (tgt := 7) dX12_bindsSolved_107 (by decide) ?_
                have q9 := g1.tr9 g2 g_99
                have l9 := g_99.1.2
                have t9 := g_99.1.1.told
                exact ih7 (k + 1) _ _ _ _ (by omega) (by omega) (q9.rb (by omega)) (bs_s2 h1 g_99 h_99 (by omega))
              · refine tz_aload_n (pc := 76) dX12_bindsSolved_76 rfl rfl ?_
                refine tz_fR (pc := 77) dX12_bindsSolved_77 fl_X12_56 r_164_27 ?_
                refine tz_iload (pc := 80) dX12_bindsSolved_80 rfl ?_
                refine tz_aL (pc := 82) (z := z_60) (v := (J 179 z_60)) dX12_bindsSolved_82 a_179 rfl (by omega) (Eq.trans (congrFun (g1.2.2.1.2.2.2 179 rfl) z_60) rfl) (fun r_82 => ?_)
                refine tz_iload_n (pc := 83) dX12_bindsSolved_83 rfl rfl ?_
                refine tz_icmp_eq (pc := 84) (tgt := 104) dX12_bindsSolved_84 (by decide) (by omega) (by omega) (fun h_84 => ?_) (fun h_84 => ?_)
                · refine tz_iinc (pc := 104) (z := k + 1) (L2 := [_, _, _, _, _, _]) dX12_bindsSolved_104 rfl (by omega) rfl ?_
                  refine tz_goto (pc := 107) (tgt := 7) dX12_bindsSolved_107 (by decide) ?_
                  exact ih7 (k + 1) _ _ _ _ (by omega) (by omega) (g1.rb (by omega)) (bs_s1 h1 (by omega) g1.1.1.told.2.1.1)
                · refine tz_aload_n (pc := 87) dX12_bindsSolved_87 rfl rfl ?_
                  refine tz_fR (pc := 88) dX12_bindsSolved_88 fl_X12_9 r_164_0 ?_
                  refine tz_iconst (pc := 91) dX12_bindsSolved_91 ?_
                  refine tz_iload_n (pc := 92) dX12_bindsSolved_92 rfl rfl ?_
                  refine tz_iadd (pc := 93) (v := 1 + k) dX12_bindsSolved_93 rfl ?_
                  refine tz_iconst (pc := 94) dX12_bindsSolved_94 ?_
                  refine tz_aload_n (pc := 95) dX12_bindsSolved_95 rfl rfl ?_
                  refine tz_iload (pc := 96) dX12_bindsSolved_96 rfl ?_
                  refine tz_iconst (pc := 98) dX12_bindsSolved_98 ?_
                  have lm := g1.1.2
                  refine tz_cV (pc := 99) (m_solved hl n _ _ _ (by omega) (by decide) b r d s m1 m g2.1.1 (hU.mg g2 ⟨rfl, rfl, rfl⟩) lm (by omega) (by decide)) vl_X12_183 dX12_bindsSolved_99 o_164 rfl rfl (Nat.le_of_ble_eq_true rfl) ⟨(Nat.le_of_ble_eq_true rfl), (Nat.le_of_ble_eq_true rfl)⟩ rfl rfl (Nat.le_of_ble_eq_true rfl) (Nat.le_of_ble_eq_true rfl) (fun r9 J_99 hq9 => ?_)
                  obtain ⟨z_99, rfl, hz_99, m_99, g_99, h_99⟩ := hq9
                  refine tz_iadd (pc := 102) (v := 1 + z_99) dX12_bindsSolved_102 rfl ?_
                  refine tz_tw ?_
                  have rw_103 := zw_rg (1 + z_99)
                  refine tz_aS (pc := 103) (z := (1 + k)) dX12_bindsSolved_103 a_165 rfl (by omega) (zw_rg _) ?_
                  refine tz_iinc (pc := 104) (z := k + 1) (L2 := [_, _, _, _, _, _]) dX12_bindsSolved_104 rfl (by omega) rfl ?_
                  refine tz_goto (pc := 107) (tgt := 7) dX12_bindsSolved_107 (by decide) ?_
                  have q9 := g1.tr9 g2 g_99
                  have l9 := g_99.1.2
                  have t9 := g_99.1.1.told
                  exact ih7 (k + 1) _ _ _ _ (by omega) (by omega) (q9.rb (by omega)) (bs_s2 h1 g_99 h_99 (by omega))
            · refine tz_goto (pc := 54) (tgt := 104) dX12_bindsSolved_54 (by decide) ?_
              refine tz_iinc (pc := 104) (z := k + 1) (L2 := [_, _, _, _, _, _]) dX12_bindsSolved_104 rfl (by omega) rfl ?_
              refine tz_goto (pc := 107) (tgt := 7) dX12_bindsSolved_107 (by decide) ?_
              exact ih7 (k + 1) _ _ _ _ (by omega) (by omega) (g1.rb (by omega)) (bs_s1 h1 (by omega) g1.1.1.told.2.1.1)
  exact loop7 _ 0 m none none _ (Nat.lt_succ_self _) (by omega) g0 (fun _ v a c => by omega)

