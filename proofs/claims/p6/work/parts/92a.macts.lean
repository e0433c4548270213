/-! ===== acts ===== -/
theorem NR.of {J' J : zJ} {b d t : Int} (h : NR J b d t) (e6 : J' 166 = J 166) (e7 : J' 167 = J 167) (e0 : J' 170 = J 170) (e5 : J' 175 = J 175) : NR J' b d t := by
  have eo : ∀ t v, Occ J' b d t v ↔ Occ J b d t v := fun t v => ⟨fun ⟨k, q⟩ => ⟨k, (occ_cg e6 e7 e0 k t v).1 q⟩, fun ⟨k, q⟩ => ⟨k, (occ_cg e6 e7 e0 k t v).2 q⟩⟩
  obtain ⟨rk, S, h1, h2, h3⟩ := h
  refine ⟨rk, S, h1, fun v q => h2 v ((eo t v).1 q), fun v hv hS hn u hu => ?_⟩
  rw [e5] at hn hu ⊢
  exact h3 v hv hS hn u ((eo _ _).1 hu)
theorem AM.norm {J2 J1 J : zJ} {s m0 m1 m2 : Int} (h : AM J1 J m0 m1) (g : NP J2 J1 0 0 0 s m1 m2) (hs : J1 164 9 = s) : AM J2 J m0 m2 := h.grow g.2.1 (fun c hc => by simp at hc; omega) (fun k x y => by simp; omega) (fun k x => by simp [rM]; omega) hs (fun _ _ q => ⟨g.1.2.1, g.1.2.2.1, (q.2.2.1.mono g.2.1.1.2).of (fun k x y => g.2.1.2.2.1.2.1 k (by omega) (by simp [rM]; omega)), (q.2.2.2.mono g.2.1.1.2).of (fun k x y => g.2.1.2.2.1.2.1 k (by omega) (by simp [rM]; omega))⟩)
theorem AM.nz {J1 J : zJ} {m0 m1 : Int} (h : AM J1 J m0 m1) (h1 : J1 164 21 = 0) (h2 : 0 ≤ J1 164 34 ∧ J1 164 34 ≤ 101) : NZ J1 0 0 0 (J1 164 9) m1 := ⟨h.1.1, (h.2.1 h1).1, (h.2.1 h1).2.1, h2⟩
theorem AM.binds {J2 J1 J : zJ} {s m0 m1 m2 : Int} (h : AM J1 J m0 m1) (g : MG [] [] rB J2 J1 0 0 0 s m1 m2) (hb : J2 164 21 = 0 → ∀ v, 1 ≤ v → v ≤ 8 → 0 ≤ J2 165 v ∧ J2 165 v ≤ m2) (hs : J1 164 9 = s) : AM J2 J m0 m2 := h.grow g (fun c hc => by simp at hc) (fun k x y => by simp; omega) (fun k x => by simp [rB]; omega) hs (fun q0 _ q => ⟨(q.1.mono g.1.2).of (fun k x y => g.2.2.1.2.1 k (by omega) (by simp [rB]; omega)), (q.2.1.mono g.1.2).of (fun k x y => g.2.2.1.2.1 k (by omega) (by simp [rB]; omega)), (q.2.2.1.mono g.1.2).of (fun k x y => g.2.2.1.2.1 k (by omega) (by simp [rB]; omega)), hb q0⟩)
theorem ML.s0 {J : zJ} {m : Int} : ML (fun k => J 165 (0 + k)) m ↔ ML (J 165) m := by simp only [Int.zero_add]
theorem AM.rule {J1 J : zJ} {m0 m u t : Int} (h : AM J1 J m0 m) (hf : J1 164 21 = 0) (hK : J1 165 9 < 8) (hu : 0 ≤ u ∧ u < m) (ht : 0 ≤ t ∧ t < m) : AM (zup (zrl J1 0 u t) 165 40 0) J m0 m := by
  have h9 : 0 ≤ J1 165 9 ∧ J1 165 9 ≤ 8 := (h.2.1 hf).1.1
  have z9 : J1 165 (0 + 9) = J1 165 9 := by rw [Int.zero_add]
  have eK : ∀ k, zrl J1 0 u t 165 k = if k = 0 + 9 then J1 165 (0 + 9) + 1 else if k = 0 + 10 + 2 * J1 165 (0 + 9) + 1 then t else if k = 0 + 10 + 2 * J1 165 (0 + 9) then u else J1 165 k := fun k => rfl
  rw [z9] at eK
  have e : ∀ k, ¬ k = 40 → zup (zrl J1 0 u t) 165 40 0 165 k = zrl J1 0 u t 165 k := fun k q => zup_ne q
  refine h.r5 (zOf.up rfl zrl_of) ?_ (fun k x => ?_) (fun _ q => ?_)
  · rw [e 0 (by decide), eK, if_neg (by omega), if_neg (by omega), if_neg (by omega)]
  · rw [e k (by omega), eK, if_neg (by omega), if_neg (by omega), if_neg (by omega)]
  · have q1 := ML.s0.1 (ML.rl (r := 0) (ML.s0.2 q) (by rw [z9]; exact hK) hu ht)
    refine ⟨q1.1.of (fun k x y => e k (by omega)), ⟨?_, ?_, fun k x y => ?_⟩, q1.2.2.1.of (fun k x y => e k (by omega)), q1.2.2.2.of (fun k x y => e k (by omega))⟩
    · rw [e 39 (by decide)]; exact q1.2.1.1
    · rw [zup_at, e 39 (by decide)]
      have := q1.2.1.1
      omega
    · rw [zup_at] at y
      omega
theorem AM.enter {J1 J : zJ} {m0 m t : Int} (h : AM J1 J m0 m) (hf : J1 164 21 = 0) (hK : J1 165 26 < 12) (ht : 0 ≤ t ∧ t < m) : AM (zen J1 0 t) J m0 m := by
  have h9 : 0 ≤ J1 165 26 ∧ J1 165 26 ≤ 12 := (h.2.1 hf).2.2.1.1
  have z9 : J1 165 (0 + 26) = J1 165 26 := by rw [Int.zero_add]
  have eK : ∀ k, zen J1 0 t 165 k = if k = 0 + 26 then J1 165 (0 + 26) + 1 else if k = 0 + 27 + J1 165 (0 + 26) then t else J1 165 k := fun k => rfl
  rw [z9] at eK
  refine h.r5 zen_of ?_ (fun k x => ?_) (fun _ q => ML.s0.1 (ML.en (r := 0) (ML.s0.2 q) (by rw [z9]; exact hK) ht))
  · rw [eK, if_neg (by omega), if_neg (by omega)]
  · rw [eK, if_neg (by omega), if_neg (by omega)]
theorem AM.room {J1 J : zJ} {m0 m x : Int} (h : AM J1 J m0 m) (hx : 0 ≤ x ∧ x ≤ 9) : AM (zup (zup J1 165 39 x) 165 40 0) J m0 m := by
  have e : ∀ k, zup (zup J1 165 39 x) 165 40 0 165 k = if k = 40 then 0 else if k = 39 then x else J1 165 k := fun k => rfl
  refine h.r5 (zOf.up rfl (zOf.up rfl zOf.rf)) (by rw [e, if_neg (by decide), if_neg (by decide)]) (fun k y => by rw [e, if_neg (by omega), if_neg (by omega)]) (fun _ q => ⟨q.1.of (fun k y z => by rw [e, if_neg (by omega), if_neg (by omega)]), ⟨?_, ?_, fun k y z => ?_⟩, q.2.2.1.of (fun k y z => by rw [e, if_neg (by omega), if_neg (by omega)]), q.2.2.2.of (fun k y z => by rw [e, if_neg (by omega), if_neg (by omega)])⟩)
  · rw [e, if_neg (by decide), if_pos rfl]; exact hx
  · rw [e, if_pos rfl, e, if_neg (by decide), if_pos rfl]; omega
  · rw [e, if_pos rfl] at z; omega
theorem AM.bind {J1 J : zJ} {m0 m v t : Int} (h : AM J1 J m0 m) (hv : 1 ≤ v ∧ v ≤ 8) (ht : 0 ≤ t ∧ t ≤ m) : AM (zup J1 165 v t) J m0 m := by
  refine h.r5 (zOf.up rfl zOf.rf) (zup_ne (by omega)) (fun k y => zup_ne (by omega)) (fun _ q => ⟨q.1.of (fun k y z => zup_ne (by omega)), q.2.1.of (fun k y z => zup_ne (by omega)), q.2.2.1.of (fun k y z => zup_ne (by omega)), fun w a b => ?_⟩)
  by_cases e : w = v
  · rw [e, zup_at]; exact ht
  · rw [zup_ne e]; exact q.2.2.2 w a b
set_option maxHeartbeats 4000000 in
set_option maxRecDepth 100000 in
theorem q_variable {l : Launch} {G : tb_G} (hl : l.stackTraces = false) (n : Nat) (J : zJ) (x : Int) (hr_x : -2147483648 ≤ x ∧ x < 2147483648) (m : Int) (hI : MI J m)  : tz_Ok l G M_X12_variable 4 0 0 [.ref 164, zi x] n J (zqi (fun z J' => MQr J' J)) zN := by
  refine tz_Ok.of hl (by decide +kernel) rfl (tb_c1 rfl) (Nat.le_of_ble_eq_true rfl) ?_
  show tz_At l G M_X12_variable (tb_rm 4 0 0) none (tb_ZM G 0 0 (zQ n 0 (zqi (fun z J' => MQr J' J))) (zX n 0 zN)) 0 0 n J 0 [some (.ref 164), some (zi x)] []
  have hT := hI.told
  have hW := hI.row
  have hM := hI.1
  have hL := hI.2.1
  refine tz_aload_n (pc := 0) dX12_variable_0 rfl rfl ?_
  refine tz_iconst (pc := 1) dX12_variable_1 ?_
  refine tz_pI (pc := 2) (kz := 8) dX12_variable_2 fl_X12_68 i_164_8 rfl rfl (by decide) ?_
  refine tz_iload_n (pc := 5) dX12_variable_5 rfl rfl ?_
  refine tz_iconst (pc := 6) dX12_variable_6 ?_
  refine tz_bipush (pc := 7) dX12_variable_7 (by decide) ?_
  refine tz_cS (pc := 9) (m_within hl n _ _ _ _ (by omega) (by decide) (by decide)) sl_X12_283 dX12_variable_9 rfl rfl (Nat.le_of_ble_eq_true rfl) ⟨(Nat.le_of_ble_eq_true rfl), (Nat.le_of_ble_eq_true rfl)⟩ rfl rfl (Nat.le_of_ble_eq_true rfl) (Nat.le_of_ble_eq_true rfl) (fun r9 J_9 hq9 => ?_)
  obtain ⟨z_9, rfl, hz_9, rfl, hw_9⟩ := hq9
  refine tz_if_ne (pc := 12) (tgt := 22) dX12_variable_12 (by decide) (by omega) (fun h_12 => ?_) (fun h_12 => ?_)
  · refine tz_aload_n (pc := 22) dX12_variable_22 rfl rfl ?_
    refine tz_cV (pc := 23) (m_begins hl n _) vl_X12_400 dX12_variable_23 o_164 rfl rfl (Nat.le_of_ble_eq_true rfl) ⟨(Nat.le_of_ble_eq_true rfl), (Nat.le_of_ble_eq_true rfl)⟩ rfl rfl (Nat.le_of_ble_eq_true rfl) (Nat.le_of_ble_eq_true rfl) (fun r9 J_23 hq9 => ?_)
    obtain ⟨rfl, hj_23⟩ := hq9
    have a_23 : AM J_23 J m m := by rw [← hj_23]; exact AM.begin (hI.z (MZ.up (k := 8) MZ.rf (by decide))) ⟨MZ.lo (MZ.up (k := 8) MZ.rf (by decide)), SC.z (MZ.up (k := 8) MZ.rf (by decide))⟩
    have br_23 : ∀ k, (k < 63 ∨ 126 ≤ k) → J_23 165 k = ((zup J 164 8 0) : zJ) 165 k := fun k hk => by rw [← hj_23]; exact zbg_r hk
    have bl_23 : ∀ k, ¬ k = 34 → ¬ k = 33 → ¬ k = 21 → J_23 164 k = ((zup J 164 8 0) : zJ) 164 k := fun k u v w => by rw [← hj_23]; exact zbg_f u v w
    have bo_23 : zOf (zbut [164, 165]) J_23 (zup J 164 8 0) := by rw [← hj_23]; exact zbg_of
    have b3_23 : J_23 164 21 = 0 ∧ J_23 164 33 = 0 ∧ J_23 164 34 = 0 := by rw [← hj_23]; exact ⟨rfl, rfl, rfl⟩
    have s9_23 : J_23 164 9 = J 164 9 := (bl_23 9 (by decide) (by decide) (by decide)).trans ((MZ.up (k := 8) MZ.rf (by decide)).2 9 (by decide) (by decide))
    refine tz_aload_n (pc := 26) dX12_variable_26 rfl rfl ?_
    refine tz_aload_n (pc := 27) dX12_variable_27 rfl rfl ?_
    refine tz_iload_n (pc := 28) dX12_variable_28 rfl rfl ?_
    refine tz_cV (pc := 29) (m_varTerm hl n _ _ (by omega) 0 0 0 (J_23 164 9) m (a_23).1.1 (by omega)) vl_X12_180 dX12_variable_29 o_164 rfl rfl (Nat.le_of_ble_eq_true rfl) ⟨(Nat.le_of_ble_eq_true rfl), (Nat.le_of_ble_eq_true rfl)⟩ rfl rfl (Nat.le_of_ble_eq_true rfl) (Nat.le_of_ble_eq_true rfl) (fun r9 J_29 hq9 => ?_)
    obtain ⟨z_29, rfl, hz_29, m_29, g_29, h_29⟩ := hq9
    have a_29 := AM.grow0 a_23 g_29 (fun c hc => by simp at hc) (fun k x y => by simp; omega) rfl
    have lm_29 := a_29.1.2.2
    refine tz_cV (pc := 32) (m_keeps hl n _ _ (by omega) (a_29).2.2.2.1.1.1 (a_29).2.2.2.1.1.2) vl_X12_403 dX12_variable_32 o_164 rfl rfl (Nat.le_of_ble_eq_true rfl) ⟨(Nat.le_of_ble_eq_true rfl), (Nat.le_of_ble_eq_true rfl)⟩ rfl rfl (Nat.le_of_ble_eq_true rfl) (Nat.le_of_ble_eq_true rfl) (fun r9 J_32 hq9 => ?_)
    obtain ⟨z_32, rfl, hz_32, k_32⟩ := hq9
    exact tz_iret (pc := 35) (z := z_32) dX12_variable_35 rfl (Nat.le_of_ble_eq_true rfl) (Nat.le_of_ble_eq_true rfl) ⟨Nat.le_refl _, Nat.le_add_right _ _⟩ ⟨_, rfl, (by omega), AM.keep a_29 k_32⟩
  · refine tz_aload_n (pc := 15) dX12_variable_15 rfl rfl ?_
    refine tz_iconst (pc := 16) dX12_variable_16 ?_
    refine tz_iconst (pc := 17) dX12_variable_17 ?_
    refine tz_cV (pc := 18) (m_refuses hl n _ _ _ (by decide) (by decide) (by decide)) vl_X12_391 dX12_variable_18 o_164 rfl rfl (Nat.le_of_ble_eq_true rfl) ⟨(Nat.le_of_ble_eq_true rfl), (Nat.le_of_ble_eq_true rfl)⟩ rfl rfl (Nat.le_of_ble_eq_true rfl) (Nat.le_of_ble_eq_true rfl) (fun r9 J_18 hq9 => ?_)
    obtain ⟨z_18, rfl, hz_18, e_18, f_18⟩ := hq9
    have y_18 : MZ J_18 J := MZ.tr (MZ.up (k := 8) MZ.rf (by decide)) (MZ.c f_18 (by decide))
    exact tz_iret (pc := 21) (z := z_18) dX12_variable_21 rfl (Nat.le_of_ble_eq_true rfl) (Nat.le_of_ble_eq_true rfl) ⟨Nat.le_refl _, Nat.le_add_right _ _⟩ ⟨_, rfl, (by omega), MQr.z hI y_18⟩

set_option maxHeartbeats 4000000 in
set_option maxRecDepth 100000 in
theorem q_make {l : Launch} {G : tb_G} (hl : l.stackTraces = false) (n : Nat) (J : zJ) (x : Int) (y : Int) (v : Int) (w : Int) (hr_x : -2147483648 ≤ x ∧ x < 2147483648) (hr_y : -2147483648 ≤ y ∧ y < 2147483648) (hr_v : -2147483648 ≤ v ∧ v < 2147483648) (hr_w : -2147483648 ≤ w ∧ w < 2147483648) (m : Int) (hI : MI J m)  : tz_Ok l G M_X12_make 3 0 0 [.ref 164, zi x, zi y, zi v, zi w] n J (zqi (fun z J' => MQr J' J)) zN := by
  refine tz_Ok.of hl (by decide +kernel) rfl (tb_c1 rfl) (Nat.le_of_ble_eq_true rfl) ?_
  show tz_At l G M_X12_make (tb_rm 3 0 0) none (tb_ZM G 0 0 (zQ n 0 (zqi (fun z J' => MQr J' J))) (zX n 0 zN)) 0 0 n J 0 [some (.ref 164), some (zi x), some (zi y), some (zi v), some (zi w), none] []
  have hT := hI.told
  have hW := hI.row
  have hM := hI.1
  have hL := hI.2.1
  refine tz_aload_n (pc := 0) dX12_make_0 rfl rfl ?_
  refine tz_iconst (pc := 1) dX12_make_1 ?_
  refine tz_pI (pc := 2) (kz := 8) dX12_make_2 fl_X12_68 i_164_8 rfl rfl (by decide) ?_
  refine tz_aload_n (pc := 5) dX12_make_5 rfl rfl ?_
  refine tz_iload_n (pc := 6) dX12_make_6 rfl rfl ?_
  refine tz_cV (pc := 7) (m_isSym hl n _ _ (by omega) (by rw [(show ((zup J 164 8 0) : zJ) 164 9 = (J 164 9) from rfl)]; omega)) vl_X12_369 dX12_make_7 o_164 rfl rfl (Nat.le_of_ble_eq_true rfl) ⟨(Nat.le_of_ble_eq_true rfl), (Nat.le_of_ble_eq_true rfl)⟩ rfl rfl (Nat.le_of_ble_eq_true rfl) (Nat.le_of_ble_eq_true rfl) (fun r9 J_7 hq9 => ?_)
  obtain ⟨z_7, rfl, hz_7, rfl, ht_7⟩ := hq9
  rw [(show ((zup J 164 8 0) : zJ) 164 9 = (J 164 9) from rfl)] at ht_7
  refine tz_if_eq (pc := 10) (tgt := 22) dX12_make_10 (by decide) (by omega) (fun h_10 => ?_) (fun h_10 => ?_)
  · refine tz_iconst (pc := 22) dX12_make_22 ?_
    refine tz_istore (pc := 23) (L2 := [_, _, _, _, _, _]) dX12_make_23 (by decide) rfl ?_
    refine tz_aload_n (pc := 25) dX12_make_25 rfl rfl ?_
    refine tz_iload_n (pc := 26) dX12_make_26 rfl rfl ?_
    refine tz_cV (pc := 27) (m_isSym hl n _ _ (by omega) (by rw [(show ((zup J 164 8 0) : zJ) 164 9 = (J 164 9) from rfl)]; omega)) vl_X12_369 dX12_make_27 o_164 rfl rfl (Nat.le_of_ble_eq_true rfl) ⟨(Nat.le_of_ble_eq_true rfl), (Nat.le_of_ble_eq_true rfl)⟩ rfl rfl (Nat.le_of_ble_eq_true rfl) (Nat.le_of_ble_eq_true rfl) (fun r9 J_27 hq9 => ?_)
    obtain ⟨z_27, rfl, hz_27, rfl, ht_27⟩ := hq9
    rw [(show ((zup J 164 8 0) : zJ) 164 9 = (J 164 9) from rfl)] at ht_27
    refine tz_if_eq (pc := 30) (tgt := 75) dX12_make_30 (by decide) (by omega) (fun h_30 => ?_) (fun h_30 => ?_)
    · refine tz_aload_n (pc := 75) dX12_make_75 rfl rfl ?_
      refine tz_iconst (pc := 76) dX12_make_76 ?_
      refine tz_iconst (pc := 77) dX12_make_77 ?_
      refine tz_cV (pc := 78) (m_refuses hl n _ _ _ (by decide) (by decide) (by decide)) vl_X12_391 dX12_make_78 o_164 rfl rfl (Nat.le_of_ble_eq_true rfl) ⟨(Nat.le_of_ble_eq_true rfl), (Nat.le_of_ble_eq_true rfl)⟩ rfl rfl (Nat.le_of_ble_eq_true rfl) (Nat.le_of_ble_eq_true rfl) (fun r9 J_78 hq9 => ?_)
      obtain ⟨z_78, rfl, hz_78, e_78, f_78⟩ := hq9
      have y_78 : MZ J_78 J := MZ.tr (MZ.up (k := 8) MZ.rf (by decide)) (MZ.c f_78 (by decide))
      exact tz_iret (pc := 81) (z := z_78) dX12_make_81 rfl (Nat.le_of_ble_eq_true rfl) (Nat.le_of_ble_eq_true rfl) ⟨Nat.le_refl _, Nat.le_add_right _ _⟩ ⟨_, rfl, (by omega), MQr.z hI y_78⟩
    · refine tz_iload (pc := 33) dX12_make_33 rfl ?_
      refine tz_if_leT (pc := 35) (tgt := 46) (by decide) dX12_make_35 (by decide) (by decide) ?_
      refine tz_iload (pc := 46) dX12_make_46 rfl ?_
      refine tz_iconst (pc := 48) dX12_make_48 ?_
      refine tz_icmp_leT (pc := 49) (tgt := 60) (by decide) dX12_make_49 (by decide) (by decide) (by decide) ?_
      refine tz_iload (pc := 60) dX12_make_60 rfl ?_
      refine tz_iconst (pc := 62) dX12_make_62 ?_
      refine tz_icmp_leT (pc := 63) (tgt := 82) (by decide) dX12_make_63 (by decide) (by decide) (by decide) ?_
      refine tz_aload_n (pc := 82) dX12_make_82 rfl rfl ?_
      refine tz_cV (pc := 83) (m_begins hl n _) vl_X12_400 dX12_make_83 o_164 rfl rfl (Nat.le_of_ble_eq_true rfl) ⟨(Nat.le_of_ble_eq_true rfl), (Nat.le_of_ble_eq_true rfl)⟩ rfl rfl (Nat.le_of_ble_eq_true rfl) (Nat.le_of_ble_eq_true rfl) (fun r9 J_83 hq9 => ?_)
      obtain ⟨rfl, hj_83⟩ := hq9
      have a_83 : AM J_83 J m m := by rw [← hj_83]; exact AM.begin (hI.z (MZ.up (k := 8) MZ.rf (by decide))) ⟨MZ.lo (MZ.up (k := 8) MZ.rf (by decide)), SC.z (MZ.up (k := 8) MZ.rf (by decide))⟩
      have br_83 : ∀ k, (k < 63 ∨ 126 ≤ k) → J_83 165 k = ((zup J 164 8 0) : zJ) 165 k := fun k hk => by rw [← hj_83]; exact zbg_r hk
      have bl_83 : ∀ k, ¬ k = 34 → ¬ k = 33 → ¬ k = 21 → J_83 164 k = ((zup J 164 8 0) : zJ) 164 k := fun k u v w => by rw [← hj_83]; exact zbg_f u v w
      have bo_83 : zOf (zbut [164, 165]) J_83 (zup J 164 8 0) := by rw [← hj_83]; exact zbg_of
      have b3_83 : J_83 164 21 = 0 ∧ J_83 164 33 = 0 ∧ J_83 164 34 = 0 := by rw [← hj_83]; exact ⟨rfl, rfl, rfl⟩
      have s9_83 : J_83 164 9 = J 164 9 := (bl_83 9 (by decide) (by decide) (by decide)).trans ((MZ.up (k := 8) MZ.rf (by decide)).2 9 (by decide) (by decide))
      refine tz_aload_n (pc := 86) dX12_make_86 rfl rfl ?_
      refine tz_aload_n (pc := 87) dX12_make_87 rfl rfl ?_
      refine tz_iload_n (pc := 88) dX12_make_88 rfl rfl ?_
      refine tz_iload_n (pc := 89) dX12_make_89 rfl rfl ?_
      refine tz_iload_n (pc := 90) dX12_make_90 rfl rfl ?_
      refine tz_iload (pc := 91) dX12_make_91 rfl ?_
      have ea_93 : J_83 170 = J 170 := (bo_83 170 rfl)
      refine tz_cV (pc := 93) (m_termOf hl n _ _ _ _ _ (by omega) (by omega) (by omega) (by omega) 0 0 0 (J_83 164 9) m (a_83).1.1 (by omega) (fun _ => by rw [arh_pos (by omega)]; simp only [Int.zero_add, ea_93]; omega)) vl_X12_107 dX12_make_93 o_164 rfl rfl (Nat.le_of_ble_eq_true rfl) ⟨(Nat.le_of_ble_eq_true rfl), (Nat.le_of_ble_eq_true rfl)⟩ rfl rfl (Nat.le_of_ble_eq_true rfl) (Nat.le_of_ble_eq_true rfl) (fun r9 J_93 hq9 => ?_)
      obtain ⟨z_93, rfl, hz_93, m_93, g_93, h_93⟩ := hq9
      have a_93 := AM.grow0 a_83 g_93 (fun c hc => by simp at hc) (fun k x y => by simp; omega) rfl
      have lm_93 := a_93.1.2.2
      refine tz_cV (pc := 96) (m_keeps hl n _ _ (by omega) (a_93).2.2.2.1.1.1 (a_93).2.2.2.1.1.2) vl_X12_403 dX12_make_96 o_164 rfl rfl (Nat.le_of_ble_eq_true rfl) ⟨(Nat.le_of_ble_eq_true rfl), (Nat.le_of_ble_eq_true rfl)⟩ rfl rfl (Nat.le_of_ble_eq_true rfl) (Nat.le_of_ble_eq_true rfl) (fun r9 J_96 hq9 => ?_)
      obtain ⟨z_96, rfl, hz_96, k_96⟩ := hq9
      exact tz_iret (pc := 99) (z := z_96) dX12_make_99 rfl (Nat.le_of_ble_eq_true rfl) (Nat.le_of_ble_eq_true rfl) ⟨Nat.le_refl _, Nat.le_add_right _ _⟩ ⟨_, rfl, (by omega), AM.keep a_93 k_96⟩
  · refine tz_aload_n (pc := 13) dX12_make_13 rfl rfl ?_
    refine tz_fR (pc := 14) dX12_make_14 fl_X12_25 r_164_5 ?_
    refine tz_iload_n (pc := 17) dX12_make_17 rfl rfl ?_
    refine tz_aL (pc := 18) (z := x) (v := (J 170 x)) dX12_make_18 a_170 rfl (by omega) rfl (fun r_18 => ?_)
    refine tz_goto (pc := 19) (tgt := 23) dX12_make_19 (by decide) ?_
    refine tz_istore (pc := 23) (L2 := [_, _, _, _, _, _]) dX12_make_23 (by decide) rfl ?_
    refine tz_aload_n (pc := 25) dX12_make_25 rfl rfl ?_
    refine tz_iload_n (pc := 26) dX12_make_26 rfl rfl ?_
    refine tz_cV (pc := 27) (m_isSym hl n _ _ (by omega) (by rw [(show ((zup J 164 8 0) : zJ) 164 9 = (J 164 9) from rfl)]; omega)) vl_X12_369 dX12_make_27 o_164 rfl rfl (Nat.le_of_ble_eq_true rfl) ⟨(Nat.le_of_ble_eq_true rfl), (Nat.le_of_ble_eq_true rfl)⟩ rfl rfl (Nat.le_of_ble_eq_true rfl) (Nat.le_of_ble_eq_true rfl) (fun r9 J_27 hq9 => ?_)
    obtain ⟨z_27, rfl, hz_27, rfl, ht_27⟩ := hq9
    rw [(show ((zup J 164 8 0) : zJ) 164 9 = (J 164 9) from rfl)] at ht_27
    refine tz_if_eq (pc := 30) (tgt := 75) dX12_make_30 (by decide) (by omega) (fun h_30 => ?_) (fun h_30 => ?_)
    · refine tz_aload_n (pc := 75) dX12_make_75 rfl rfl ?_
      refine tz_iconst (pc := 76) dX12_make_76 ?_
      refine tz_iconst (pc := 77) dX12_make_77 ?_
      refine tz_cV (pc := 78) (m_refuses hl n _ _ _ (by decide) (by decide) (by decide)) vl_X12_391 dX12_make_78 o_164 rfl rfl (Nat.le_of_ble_eq_true rfl) ⟨(Nat.le_of_ble_eq_true rfl), (Nat.le_of_ble_eq_true rfl)⟩ rfl rfl (Nat.le_of_ble_eq_true rfl) (Nat.le_of_ble_eq_true rfl) (fun r9 J_78 hq9 => ?_)
      obtain ⟨z_78, rfl, hz_78, e_78, f_78⟩ := hq9
      have y_78 : MZ J_78 J := MZ.tr (MZ.up (k := 8) MZ.rf (by decide)) (MZ.c f_78 (by decide))
      exact tz_iret (pc := 81) (z := z_78) dX12_make_81 rfl (Nat.le_of_ble_eq_true rfl) (Nat.le_of_ble_eq_true rfl) ⟨Nat.le_refl _, Nat.le_add_right _ _⟩ ⟨_, rfl, (by omega), MQr.z hI y_78⟩
    · refine tz_iload (pc := 33) dX12_make_33 rfl ?_
      refine tz_if_le (pc := 35) (tgt := 46) dX12_make_35 (by decide) (by omega) (fun h_35 => ?_) (fun h_35 => ?_)
      · refine tz_iload (pc := 46) dX12_make_46 rfl ?_
        refine tz_iconst (pc := 48) dX12_make_48 ?_
        refine tz_icmp_le (pc := 49) (tgt := 60) dX12_make_49 (by decide) (by omega) (by decide) (fun h_49 => ?_) (fun h_49 => ?_)
        · refine tz_iload (pc := 60) dX12_make_60 rfl ?_
          refine tz_iconst (pc := 62) dX12_make_62 ?_
          refine tz_icmp_le (pc := 63) (tgt := 82) dX12_make_63 (by decide) (by omega) (by decide) (fun h_63 => ?_) (fun h_63 => ?_)
          · refine tz_aload_n (pc := 82) dX12_make_82 rfl rfl ?_
            refine tz_cV (pc := 83) (m_begins hl n _) vl_X12_400 dX12_make_83 o_164 rfl rfl (Nat.le_of_ble_eq_true rfl) ⟨(Nat.le_of_ble_eq_true rfl), (Nat.le_of_ble_eq_true rfl)⟩ rfl rfl (Nat.le_of_ble_eq_true rfl) (Nat.le_of_ble_eq_true rfl) (fun r9 J_83 hq9 => ?_)
            obtain ⟨rfl, hj_83⟩ := hq9
            have a_83 : AM J_83 J m m := by rw [← hj_83]; exact AM.begin (hI.z (MZ.up (k := 8) MZ.rf (by decide))) ⟨MZ.lo (MZ.up (k := 8) MZ.rf (by decide)), SC.z (MZ.up (k := 8) MZ.rf (by decide))⟩
            have br_83 : ∀ k, (k < 63 ∨ 126 ≤ k) → J_83 165 k = ((zup J 164 8 0) : zJ) 165 k := fun k hk => by rw [← hj_83]; exact zbg_r hk
            have bl_83 : ∀ k, ¬ k = 34 → ¬ k = 33 → ¬ k = 21 → J_83 164 k = ((zup J 164 8 0) : zJ) 164 k := fun k u v w => by rw [← hj_83]; exact zbg_f u v w
            have bo_83 : zOf (zbut [164, 165]) J_83 (zup J 164 8 0) := by rw [← hj_83]; exact zbg_of
            have b3_83 : J_83 164 21 = 0 ∧ J_83 164 33 = 0 ∧ J_83 164 34 = 0 := by rw [← hj_83]; exact ⟨rfl, rfl, rfl⟩
            have s9_83 : J_83 164 9 = J 164 9 := (bl_83 9 (by decide) (by decide) (by decide)).trans ((MZ.up (k := 8) MZ.rf (by decide)).2 9 (by decide) (by decide))
            refine tz_aload_n (pc := 86) dX12_make_86 rfl rfl ?_
            refine tz_aload_n (pc := 87) dX12_make_87 rfl rfl ?_
            refine tz_iload_n (pc := 88) dX12_make_88 rfl rfl ?_
            refine tz_iload_n (pc := 89) dX12_make_89 rfl rfl ?_
            refine tz_iload_n (pc := 90) dX12_make_90 rfl rfl ?_
            refine tz_iload (pc := 91) dX12_make_91 rfl ?_
            have ea_93 : J_83 170 = J 170 := (bo_83 170 rfl)
            refine tz_cV (pc := 93) (m_termOf hl n _ _ _ _ _ (by omega) (by omega) (by omega) (by omega) 0 0 0 (J_83 164 9) m (a_83).1.1 (by omega) (fun _ => by rw [arh_pos (by omega)]; simp only [Int.zero_add, ea_93]; omega)) vl_X12_107 dX12_make_93 o_164 rfl rfl (Nat.le_of_ble_eq_true rfl) ⟨(Nat.le_of_ble_eq_true rfl), (Nat.le_of_ble_eq_true rfl)⟩ rfl rfl (Nat.le_of_ble_eq_true rfl) (Nat.le_of_ble_eq_true rfl) (fun r9 J_93 hq9 => ?_)
            obtain ⟨z_93, rfl, hz_93, m_93, g_93, h_93⟩ := hq9
            have a_93 := AM.grow0 a_83 g_93 (fun c hc => by simp at hc) (fun k x y => by simp; omega) rfl
            have lm_93 := a_93.1.2.2
            refine tz_cV (pc := 96) (m_keeps hl n _ _ (by omega) (a_93).2.2.2.1.1.1 (a_93).2.2.2.1.1.2) vl_X12_403 dX12_make_96 o_164 rfl rfl (Nat.le_of_ble_eq_true rfl) ⟨(Nat.le_of_ble_eq_true rfl), (Nat.le_of_ble_eq_true rfl)⟩ rfl rfl (Nat.le_of_ble_eq_true rfl) (Nat.le_of_ble_eq_true rfl) (fun r9 J_96 hq9 => ?_)
            obtain ⟨z_96, rfl, hz_96, k_96⟩ := hq9
            exact tz_iret (pc := 99) (z := z_96) dX12_make_99 rfl (Nat.le_of_ble_eq_true rfl) (Nat.le_of_ble_eq_true rfl) ⟨Nat.le_refl _, Nat.le_add_right _ _⟩ ⟨_, rfl, (by omega), AM.keep a_93 k_96⟩
          · refine tz_aload_n (pc := 66) dX12_make_66 rfl rfl ?_
            refine tz_iload (pc := 67) dX12_make_67 rfl ?_
            refine tz_cV (pc := 69) (m_isTerm hl n _ _ (by omega) (by rw [(show ((zup J 164 8 0) : zJ) 165 0 = (J 165 0) from rfl)]; omega)) vl_X12_376 dX12_make_69 o_164 rfl rfl (Nat.le_of_ble_eq_true rfl) ⟨(Nat.le_of_ble_eq_true rfl), (Nat.le_of_ble_eq_true rfl)⟩ rfl rfl (Nat.le_of_ble_eq_true rfl) (Nat.le_of_ble_eq_true rfl) (fun r9 J_69 hq9 => ?_)
            obtain ⟨z_69, rfl, hz_69, rfl, ht_69⟩ := hq9
            rw [(show ((zup J 164 8 0) : zJ) 165 0 = (J 165 0) from rfl)] at ht_69
            refine tz_if_ne (pc := 72) (tgt := 82) dX12_make_72 (by decide) (by omega) (fun h_72 => ?_) (fun h_72 => ?_)
            · refine tz_aload_n (pc := 82) dX12_make_82 rfl rfl ?_
              refine tz_cV (pc := 83) (m_begins hl n _) vl_X12_400 dX12_make_83 o_164 rfl rfl (Nat.le_of_ble_eq_true rfl) ⟨(Nat.le_of_ble_eq_true rfl), (Nat.le_of_ble_eq_true rfl)⟩ rfl rfl (Nat.le_of_ble_eq_true rfl) (Nat.le_of_ble_eq_true rfl) (fun r9 J_83 hq9 => ?_)
              obtain ⟨rfl, hj_83⟩ := hq9
              have a_83 : AM J_83 J m m := by rw [← hj_83]; exact AM.begin (hI.z (MZ.up (k := 8) MZ.rf (by decide))) ⟨MZ.lo (MZ.up (k := 8) MZ.rf (by decide)), SC.z (MZ.up (k := 8) MZ.rf (by decide))⟩
              have br_83 : ∀ k, (k < 63 ∨ 126 ≤ k) → J_83 165 k = ((zup J 164 8 0) : zJ) 165 k := fun k hk => by rw [← hj_83]; exact zbg_r hk
              have bl_83 : ∀ k, ¬ k = 34 → ¬ k = 33 → ¬ k = 21 → J_83 164 k = ((zup J 164 8 0) : zJ) 164 k := fun k u v w => by rw [← hj_83]; exact zbg_f u v w
              have bo_83 : zOf (zbut [164, 165]) J_83 (zup J 164 8 0) := by rw [← hj_83]; exact zbg_of
              have b3_83 : J_83 164 21 = 0 ∧ J_83 164 33 = 0 ∧ J_83 164 34 = 0 := by rw [← hj_83]; exact ⟨rfl, rfl, rfl⟩
              have s9_83 : J_83 164 9 = J 164 9 := (bl_83 9 (by decide) (by decide) (by decide)).trans ((MZ.up (k := 8) MZ.rf (by decide)).2 9 (by decide) (by decide))
              refine tz_aload_n (pc := 86) dX12_make_86 rfl rfl ?_
              refine tz_aload_n (pc := 87) dX12_make_87 rfl rfl ?_
              refine tz_iload_n (pc := 88) dX12_make_88 rfl rfl ?_
              refine tz_iload_n (pc := 89) dX12_make_89 rfl rfl ?_
              refine tz_iload_n (pc := 90) dX12_make_90 rfl rfl ?_
              refine tz_iload (pc := 91) dX12_make_91 rfl ?_
              have ea_93 : J_83 170 = J 170 := (bo_83 170 rfl)
              refine tz_cV (pc := 93) (m_termOf hl n _ _ _ _ _ (by omega) (by omega) (by omega) (by omega) 0 0 0 (J_83 164 9) m (a_83).1.1 (by omega) (fun _ => by rw [arh_pos (by omega)]; simp only [Int.zero_add, ea_93]; omega)) vl_X12_107 dX12_make_93 o_164 rfl rfl (Nat.le_of_ble_eq_true rfl) ⟨(Nat.le_of_ble_eq_true rfl), (Nat.le_of_ble_eq_true rfl)⟩ rfl rfl (Nat.le_of_ble_eq_true rfl) (Nat.le_of_ble_eq_true rfl) (fun r9 J_93 hq9 => ?_)
              obtain ⟨z_93, rfl, hz_93, m_93, g_93, h_93⟩ := hq9
              have a_93 := AM.grow0 a_83 g_93 (fun c hc => by simp at hc) (fun k x y => by simp; omega) rfl
              have lm_93 := a_93.1.2.2
              refine tz_cV (pc := 96) (m_keeps hl n _ _ (by omega) (a_93).2.2.2.1.1.1 (a_93).2.2.2.1.1.2) vl_X12_403 dX12_make_96 o_164 rfl rfl (Nat.le_of_ble_eq_true rfl) ⟨(Nat.le_of_ble_eq_true rfl), (Nat.le_of_ble_eq_true rfl)⟩ rfl rfl (Nat.le_of_ble_eq_true rfl) (Nat.le_of_ble_eq_true rfl) (fun r9 J_96 hq9 => ?_)
              obtain ⟨z_96, rfl, hz_96, k_96⟩ := hq9
              exact tz_iret (pc := 99) (z := z_96) dX12_make_99 rfl (Nat.le_of_ble_eq_true rfl) (Nat.le_of_ble_eq_true rfl) ⟨Nat.le_refl _, Nat.le_add_right _ _⟩ ⟨_, rfl, (by omega), AM.keep a_93 k_96⟩
            · refine tz_aload_n (pc := 75) dX12_make_75 rfl rfl ?_
              refine tz_iconst (pc := 76) dX12_make_76 ?_
              refine tz_iconst (pc := 77) dX12_make_77 ?_
              refine tz_cV (pc := 78) (m_refuses hl n _ _ _ (by decide) (by decide) (by decide)) vl_X12_391 dX12_make_78 o_164 rfl rfl (Nat.le_of_ble_eq_true rfl) ⟨(Nat.le_of_ble_eq_true rfl), (Nat.le_of_ble_eq_true rfl)⟩ rfl rfl (Nat.le_of_ble_eq_true rfl) (Nat.le_of_ble_eq_true rfl) (fun r9 J_78 hq9 => ?_)
              obtain ⟨z_78, rfl, hz_78, e_78, f_78⟩ := hq9
              have y_78 : MZ J_78 J := MZ.tr (MZ.up (k := 8) MZ.rf (by decide)) (MZ.c f_78 (by decide))
              exact tz_iret (pc := 81) (z := z_78) dX12_make_81 rfl (Nat.le_of_ble_eq_true rfl) (Nat.le_of_ble_eq_true rfl) ⟨Nat.le_refl _, Nat.le_add_right _ _⟩ ⟨_, rfl, (by omega), MQr.z hI y_78⟩
        · refine tz_aload_n (pc := 52) dX12_make_52 rfl rfl ?_
          refine tz_iload_n (pc := 53) dX12_make_53 rfl rfl ?_
          refine tz_cV (pc := 54) (m_isTerm hl n _ _ (by omega) (by rw [(show ((zup J 164 8 0) : zJ) 165 0 = (J 165 0) from rfl)]; omega)) vl_X12_376 dX12_make_54 o_164 rfl rfl (Nat.le_of_ble_eq_true rfl) ⟨(Nat.le_of_ble_eq_true rfl), (Nat.le_of_ble_eq_true rfl)⟩ rfl rfl (Nat.le_of_ble_eq_true rfl) (Nat.le_of_ble_eq_true rfl) (fun r9 J_54 hq9 => ?_)
          obtain ⟨z_54, rfl, hz_54, rfl, ht_54⟩ := hq9
          rw [(show ((zup J 164 8 0) : zJ) 165 0 = (J 165 0) from rfl)] at ht_54
          refine tz_if_eq (pc := 57) (tgt := 75) dX12_make_57 (by decide) (by omega) (fun h_57 => ?_) (fun h_57 => ?_)
          · refine tz_aload_n (pc := 75) dX12_make_75 rfl rfl ?_
            refine tz_iconst (pc := 76) dX12_make_76 ?_
            refine tz_iconst (pc := 77) dX12_make_77 ?_
            refine tz_cV (pc := 78) (m_refuses hl n _ _ _ (by decide) (by decide) (by decide)) vl_X12_391 dX12_make_78 o_164 rfl rfl (Nat.le_of_ble_eq_true rfl) ⟨(Nat.le_of_ble_eq_true rfl), (Nat.le_of_ble_eq_true rfl)⟩ rfl rfl (Nat.le_of_ble_eq_true rfl) (Nat.le_of_ble_eq_true rfl) (fun r9 J_78 hq9 => ?_)
            obtain ⟨z_78, rfl, hz_78, e_78, f_78⟩ := hq9
            have y_78 : MZ J_78 J := MZ.tr (MZ.up (k := 8) MZ.rf (by decide)) (MZ.c f_78 (by decide))
            exact tz_iret (pc := 81) (z := z_78) dX12_make_81 rfl (Nat.le_of_ble_eq_true rfl) (Nat.le_of_ble_eq_true rfl) ⟨Nat.le_refl _, Nat.le_add_right _ _⟩ ⟨_, rfl, (by omega), MQr.z hI y_78⟩
          · refine tz_iload (pc := 60) dX12_make_60 rfl ?_
            refine tz_iconst (pc := 62) dX12_make_62 ?_
            refine tz_icmp_le (pc := 63) (tgt := 82) dX12_make_63 (by decide) (by omega) (by decide) (fun h_63 => ?_) (fun h_63 => ?_)
            · refine tz_aload_n (pc := 82) dX12_make_82 rfl rfl ?_
              refine tz_cV (pc := 83) (m_begins hl n _) vl_X12_400 dX12_make_83 o_164 rfl rfl (Nat.le_of_ble_eq_true rfl) ⟨(Nat.le_of_ble_eq_true rfl), (Nat.le_of_ble_eq_true rfl)⟩ rfl rfl (Nat.le_of_ble_eq_true rfl) (Nat.le_of_ble_eq_true rfl) (fun r9 J_83 hq9 => ?_)
              obtain ⟨rfl, hj_83⟩ := hq9
              have a_83 : AM J_83 J m m := by rw [← hj_83]; exact AM.begin (hI.z (MZ.up (k := 8) MZ.rf (by decide))) ⟨MZ.lo (MZ.up (k := 8) MZ.rf (by decide)), SC.z (MZ.up (k := 8) MZ.rf (by decide))⟩
              have br_83 : ∀ k, (k < 63 ∨ 126 ≤ k) → J_83 165 k = ((zup J 164 8 0) : zJ) 165 k := fun k hk => by rw [← hj_83]; exact zbg_r hk
              have bl_83 : ∀ k, ¬ k = 34 → ¬ k = 33 → ¬ k = 21 → J_83 164 k = ((zup J 164 8 0) : zJ) 164 k := fun k u v w => by rw [← hj_83]; exact zbg_f u v w
              have bo_83 : zOf (zbut [164, 165]) J_83 (zup J 164 8 0) := by rw [← hj_83]; exact zbg_of
              have b3_83 : J_83 164 21 = 0 ∧ J_83 164 33 = 0 ∧ J_83 164 34 = 0 := by rw [← hj_83]; exact ⟨rfl, rfl, rfl⟩
              have s9_83 : J_83 164 9 = J 164 9 := (bl_83 9 (by decide) (by decide) (by decide)).trans ((MZ.up (k := 8) MZ.rf (by decide)).2 9 (by decide) (by decide))
              refine tz_aload_n (pc := 86) dX12_make_86 rfl rfl ?_
              refine tz_aload_n (pc := 87) dX12_make_87 rfl rfl ?_
              refine tz_iload_n (pc := 88) dX12_make_88 rfl rfl ?_
              refine tz_iload_n (pc := 89) dX12_make_89 rfl rfl ?_
              refine tz_iload_n (pc := 90) dX12_make_90 rfl rfl ?_
              refine tz_iload (pc := 91) dX12_make_91 rfl ?_
              have ea_93 : J_83 170 = J 170 := (bo_83 170 rfl)
              refine tz_cV (pc := 93) (m_termOf hl n _ _ _ _ _ (by omega) (by omega) (by omega) (by omega) 0 0 0 (J_83 164 9) m (a_83).1.1 (by omega) (fun _ => by rw [arh_pos (by omega)]; simp only [Int.zero_add, ea_93]; omega)) vl_X12_107 dX12_make_93 o_164 rfl rfl (Nat.le_of_ble_eq_true rfl) ⟨(Nat.le_of_ble_eq_true rfl), (Nat.le_of_ble_eq_true rfl)⟩ rfl rfl (Nat.le_of_ble_eq_true rfl) (Nat.le_of_ble_eq_true rfl) (fun r9 J_93 hq9 => ?_)
              obtain ⟨z_93, rfl, hz_93, m_93, g_93, h_93⟩ := hq9
              have a_93 := AM.grow0 a_83 g_93 (fun c hc => by simp at hc) (fun k x y => by simp; omega) rfl
              have lm_93 := a_93.1.2.2
              refine tz_cV (pc := 96) (m_keeps hl n _ _ (by omega) (a_93).2.2.2.1.1.1 (a_93).2.2.2.1.1.2) vl_X12_403 dX12_make_96 o_164 rfl rfl (Nat.le_of_ble_eq_true rfl) ⟨(Nat.le_of_ble_eq_true rfl), (Nat.le_of_ble_eq_true rfl)⟩ rfl rfl (Nat.le_of_ble_eq_true rfl) (Nat.le_of_ble_eq_true rfl) (fun r9 J_96 hq9 => ?_)
              obtain ⟨z_96, rfl, hz_96, k_96⟩ := hq9
              exact tz_iret (pc := 99) (z := z_96) dX12_make_99 rfl (Nat.le_of_ble_eq_true rfl) (Nat.le_of_ble_eq_true rfl) ⟨Nat.le_refl _, Nat.le_add_right _ _⟩ ⟨_, rfl, (by omega), AM.keep a_93 k_96⟩
            · refine tz_aload_n (pc := 66) dX12_make_66 rfl rfl ?_
              refine tz_iload (pc := 67) dX12_make_67 rfl ?_
              refine tz_cV (pc := 69) (m_isTerm hl n _ _ (by omega) (by rw [(show ((zup J 164 8 0) : zJ) 165 0 = (J 165 0) from rfl)]; omega)) vl_X12_376 dX12_make_69 o_164 rfl rfl (Nat.le_of_ble_eq_true rfl) ⟨(Nat.le_of_ble_eq_true rfl), (Nat.le_of_ble_eq_true rfl)⟩ rfl rfl (Nat.le_of_ble_eq_true rfl) (Nat.le_of_ble_eq_true rfl) (fun r9 J_69 hq9 => ?_)
              obtain ⟨z_69, rfl, hz_69, rfl, ht_69⟩ := hq9
              rw [(show ((zup J 164 8 0) : zJ) 165 0 = (J 165 0) from rfl)] at ht_69
              refine tz_if_ne (pc := 72) (tgt := 82) dX12_make_72 (by decide) (by omega) (fun h_72 => ?_) (fun h_72 => ?_)
              · refine tz_aload_n (pc := 82) dX12_make_82 rfl rfl ?_
                refine tz_cV (pc := 83) (m_begins hl n _) vl_X12_400 dX12_make_83 o_164 rfl rfl (Nat.le_of_ble_eq_true rfl) ⟨(Nat.le_of_ble_eq_true rfl), (Nat.le_of_ble_eq_true rfl)⟩ rfl rfl (Nat.le_of_ble_eq_true rfl) (Nat.le_of_ble_eq_true rfl) (fun r9 J_83 hq9 => ?_)
                obtain ⟨rfl, hj_83⟩ := hq9
                have a_83 : AM J_83 J m m := by rw [← hj_83]; exact AM.begin (hI.z (MZ.up (k := 8) MZ.rf (by decide))) ⟨MZ.lo (MZ.up (k := 8) MZ.rf (by decide)), SC.z (MZ.up (k := 8) MZ.rf (by decide))⟩
                have br_83 : ∀ k, (k < 63 ∨ 126 ≤ k) → J_83 165 k = ((zup J 164 8 0) : zJ) 165 k := fun k hk => by rw [← hj_83]; exact zbg_r hk
                have bl_83 : ∀ k, ¬ k = 34 → ¬ k = 33 → ¬ k = 21 → J_83 164 k = ((zup J 164 8 0) : zJ) 164 k := fun k u v w => by rw [← hj_83]; exact zbg_f u v w
                have bo_83 : zOf (zbut [164, 165]) J_83 (zup J 164 8 0) := by rw [← hj_83]; exact zbg_of
                have b3_83 : J_83 164 21 = 0 ∧ J_83 164 33 = 0 ∧ J_83 164 34 = 0 := by rw [← hj_83]; exact ⟨rfl, rfl, rfl⟩
                have s9_83 : J_83 164 9 = J 164 9 := (bl_83 9 (by decide) (by decide) (by decide)).trans ((MZ.up (k := 8) MZ.rf (by decide)).2 9 (by decide) (by decide))
                refine tz_aload_n (pc := 86) dX12_make_86 rfl rfl ?_
                refine tz_aload_n (pc := 87) dX12_make_87 rfl rfl ?_
                refine tz_iload_n (pc := 88) dX12_make_88 rfl rfl ?_
                refine tz_iload_n (pc := 89) dX12_make_89 rfl rfl ?_
                refine tz_iload_n (pc := 90) dX12_make_90 rfl rfl ?_
                refine tz_iload (pc := 91) dX12_make_91 rfl ?_
                have ea_93 : J_83 170 = J 170 := (bo_83 170 rfl)
                refine tz_cV (pc := 93) (m_termOf hl n _ _ _ _ _ (by omega) (by omega) (by omega) (by omega) 0 0 0 (J_83 164 9) m (a_83).1.1 (by omega) (fun _ => by rw [arh_pos (by omega)]; simp only [Int.zero_add, ea_93]; omega)) vl_X12_107 dX12_make_93 o_164 rfl rfl (Nat.le_of_ble_eq_true rfl) ⟨(Nat.le_of_ble_eq_true rfl), (Nat.le_of_ble_eq_true rfl)⟩ rfl rfl (Nat.le_of_ble_eq_true rfl) (Nat.le_of_ble_eq_true rfl) (fun r9 J_93 hq9 => ?_)
                obtain ⟨z_93, rfl, hz_93, m_93, g_93, h_93⟩ := hq9
                have a_93 := AM.grow0 a_83 g_93 (fun c hc => by simp at hc) (fun k x y => by simp; omega) rfl
                have lm_93 := a_93.1.2.2
                refine tz_cV (pc := 96) (m_keeps hl n _ _ (by omega) (a_93).2.2.2.1.1.1 (a_93).2.2.2.1.1.2) vl_X12_403 dX12_make_96 o_164 rfl rfl (Nat.le_of_ble_eq_true rfl) ⟨(Nat.le_of_ble_eq_true rfl), (Nat.le_of_ble_eq_true rfl)⟩ rfl rfl (Nat.le_of_ble_eq_true rfl) (Nat.le_of_ble_eq_true rfl) (fun r9 J_96 hq9 => ?_)
                obtain ⟨z_96, rfl, hz_96, k_96⟩ := hq9
                exact tz_iret (pc := 99) (z := z_96) dX12_make_99 rfl (Nat.le_of_ble_eq_true rfl) (Nat.le_of_ble_eq_true rfl) ⟨Nat.le_refl _, Nat.le_add_right _ _⟩ ⟨_, rfl, (by omega), AM.keep a_93 k_96⟩
              · refine tz_aload_n (pc := 75) dX12_make_75 rfl rfl ?_
                refine tz_iconst (pc := 76) dX12_make_76 ?_
                refine tz_iconst (pc := 77) dX12_make_77 ?_
                refine tz_cV (pc := 78) (m_refuses hl n _ _ _ (by decide) (by decide) (by decide)) vl_X12_391 dX12_make_78 o_164 rfl rfl (Nat.le_of_ble_eq_true rfl) ⟨(Nat.le_of_ble_eq_true rfl), (Nat.le_of_ble_eq_true rfl)⟩ rfl rfl (Nat.le_of_ble_eq_true rfl) (Nat.le_of_ble_eq_true rfl) (fun r9 J_78 hq9 => ?_)
                obtain ⟨z_78, rfl, hz_78, e_78, f_78⟩ := hq9
                have y_78 : MZ J_78 J := MZ.tr (MZ.up (k := 8) MZ.rf (by decide)) (MZ.c f_78 (by decide))
                exact tz_iret (pc := 81) (z := z_78) dX12_make_81 rfl (Nat.le_of_ble_eq_true rfl) (Nat.le_of_ble_eq_true rfl) ⟨Nat.le_refl _, Nat.le_add_right _ _⟩ ⟨_, rfl, (by omega), MQr.z hI y_78⟩
      · refine tz_aload_n (pc := 38) dX12_make_38 rfl rfl ?_
        refine tz_iload_n (pc := 39) dX12_make_39 rfl rfl ?_
        refine tz_cV (pc := 40) (m_isTerm hl n _ _ (by omega) (by rw [(show ((zup J 164 8 0) : zJ) 165 0 = (J 165 0) from rfl)]; omega)) vl_X12_376 dX12_make_40 o_164 rfl rfl (Nat.le_of_ble_eq_true rfl) ⟨(Nat.le_of_ble_eq_true rfl), (Nat.le_of_ble_eq_true rfl)⟩ rfl rfl (Nat.le_of_ble_eq_true rfl) (Nat.le_of_ble_eq_true rfl) (fun r9 J_40 hq9 => ?_)
        obtain ⟨z_40, rfl, hz_40, rfl, ht_40⟩ := hq9
        rw [(show ((zup J 164 8 0) : zJ) 165 0 = (J 165 0) from rfl)] at ht_40
        refine tz_if_eq (pc := 43) (tgt := 75) dX12_make_43 (by decide) (by omega) (fun h_43 => ?_) (fun h_43 => ?_)
        · refine tz_aload_n (pc := 75) dX12_make_75 rfl rfl ?_
          refine tz_iconst (pc := 76) dX12_make_76 ?_
          refine tz_iconst (pc := 77) dX12_make_77 ?_
          refine tz_cV (pc := 78) (m_refuses hl n _ _ _ (by decide) (by decide) (by decide)) vl_X12_391 dX12_make_78 o_164 rfl rfl (Nat.le_of_ble_eq_true rfl) ⟨(Nat.le_of_ble_eq_true rfl), (Nat.le_of_ble_eq_true rfl)⟩ rfl rfl (Nat.le_of_ble_eq_true rfl) (Nat.le_of_ble_eq_true rfl) (fun r9 J_78 hq9 => ?_)
          obtain ⟨z_78, rfl, hz_78, e_78, f_78⟩ := hq9
          have y_78 : MZ J_78 J := MZ.tr (MZ.up (k := 8) MZ.rf (by decide)) (MZ.c f_78 (by decide))
          exact tz_iret (pc := 81) (z := z_78) dX12_make_81 rfl (Nat.le_of_ble_eq_true rfl) (Nat.le_of_ble_eq_true rfl) ⟨Nat.le_refl _, Nat.le_add_right _ _⟩ ⟨_, rfl, (by omega), MQr.z hI y_78⟩
        · refine tz_iload (pc := 46) dX12_make_46 rfl ?_
          refine tz_iconst (pc := 48) dX12_make_48 ?_
          refine tz_icmp_le (pc := 49) (tgt := 60) dX12_make_49 (by decide) (by omega) (by decide) (fun h_49 => ?_) (fun h_49 => ?_)
          · refine tz_iload (pc := 60) dX12_make_60 rfl ?_
            refine tz_iconst (pc := 62) dX12_make_62 ?_
            refine tz_icmp_le (pc := 63) (tgt := 82) dX12_make_63 (by decide) (by omega) (by decide) (fun h_63 => ?_) (fun h_63 => ?_)
            · refine tz_aload_n (pc := 82) dX12_make_82 rfl rfl ?_
              refine tz_cV (pc := 83) (m_begins hl n _) vl_X12_400 dX12_make_83 o_164 rfl rfl (Nat.le_of_ble_eq_true rfl) ⟨(Nat.le_of_ble_eq_true rfl), (Nat.le_of_ble_eq_true rfl)⟩ rfl rfl (Nat.le_of_ble_eq_true rfl) (Nat.le_of_ble_eq_true rfl) (fun r9 J_83 hq9 => ?_)
              obtain ⟨rfl, hj_83⟩ := hq9
              have a_83 : AM J_83 J m m := by rw [← hj_83]; exact AM.begin (hI.z (MZ.up (k := 8) MZ.rf (by decide))) ⟨MZ.lo (MZ.up (k := 8) MZ.rf (by decide)), SC.z (MZ.up (k := 8) MZ.rf (by decide))⟩
              have br_83 : ∀ k, (k < 63 ∨ 126 ≤ k) → J_83 165 k = ((zup J 164 8 0) : zJ) 165 k := fun k hk => by rw [← hj_83]; exact zbg_r hk
              have bl_83 : ∀ k, ¬ k = 34 → ¬ k = 33 → ¬ k = 21 → J_83 164 k = ((zup J 164 8 0) : zJ) 164 k := fun k u v w => by rw [← hj_83]; exact zbg_f u v w
              have bo_83 : zOf (zbut [164, 165]) J_83 (zup J 164 8 0) := by rw [← hj_83]; exact zbg_of
              have b3_83 : J_83 164 21 = 0 ∧ J_83 164 33 = 0 ∧ J_83 164 34 = 0 := by rw [← hj_83]; exact ⟨rfl, rfl, rfl⟩
              have s9_83 : J_83 164 9 = J 164 9 := (bl_83 9 (by decide) (by decide) (by decide)).trans ((MZ.up (k := 8) MZ.rf (by decide)).2 9 (by decide) (by decide))
              refine tz_aload_n (pc := 86) dX12_make_86 rfl rfl ?_
              refine tz_aload_n (pc := 87) dX12_make_87 rfl rfl ?_
              refine tz_iload_n (pc := 88) dX12_make_88 rfl rfl ?_
              refine tz_iload_n (pc := 89) dX12_make_89 rfl rfl ?_
              refine tz_iload_n (pc := 90) dX12_make_90 rfl rfl ?_
              refine tz_iload (pc := 91) dX12_make_91 rfl ?_
              have ea_93 : J_83 170 = J 170 := (bo_83 170 rfl)
              refine tz_cV (pc := 93) (m_termOf hl n _ _ _ _ _ (by omega) (by omega) (by omega) (by omega) 0 0 0 (J_83 164 9) m (a_83).1.1 (by omega) (fun _ => by rw [arh_pos (by omega)]; simp only [Int.zero_add, ea_93]; omega)) vl_X12_107 dX12_make_93 o_164 rfl rfl (Nat.le_of_ble_eq_true rfl) ⟨(Nat.le_of_ble_eq_true rfl), (Nat.le_of_ble_eq_true rfl)⟩ rfl rfl (Nat.le_of_ble_eq_true rfl) (Nat.le_of_ble_eq_true rfl) (fun r9 J_93 hq9 => ?_)
              obtain ⟨z_93, rfl, hz_93, m_93, g_93, h_93⟩ := hq9
              have a_93 := AM.grow0 a_83 g_93 (fun c hc => by simp at hc) (fun k x y => by simp; omega) rfl
              have lm_93 := a_93.1.2.2
              refine tz_cV (pc := 96) (m_keeps hl n _ _ (by omega) (a_93).2.2.2.1.1.1 (a_93).2.2.2.1.1.2) vl_X12_403 dX12_make_96 o_164 rfl rfl (Nat.le_of_ble_eq_true rfl) ⟨(Nat.le_of_ble_eq_true rfl), (Nat.le_of_ble_eq_true rfl)⟩ rfl rfl (Nat.le_of_ble_eq_true rfl) (Nat.le_of_ble_eq_true rfl) (fun r9 J_96 hq9 => ?_)
              obtain ⟨z_96, rfl, hz_96, k_96⟩ := hq9
              exact tz_iret (pc := 99) (z := z_96) dX12_make_99 rfl (Nat.le_of_ble_eq_true rfl) (Nat.le_of_ble_eq_true rfl) ⟨Nat.le_refl _, Nat.le_add_right _ _⟩ ⟨_, rfl, (by omega), AM.keep a_93 k_96⟩
            · refine tz_aload_n (pc := 66) dX12_make_66 rfl rfl ?_
              refine tz_iload (pc := 67) dX12_make_67 rfl ?_
              refine tz_cV (pc := 69) (m_isTerm hl n _ _ (by omega) (by rw [(show ((zup J 164 8 0) : zJ) 165 0 = (J 165 0) from rfl)]; omega)) vl_X12_376 dX12_make_69 o_164 rfl rfl (Nat.le_of_ble_eq_true rfl) ⟨(Nat.le_of_ble_eq_true rfl), (Nat.le_of_ble_eq_true rfl)⟩ rfl rfl (Nat.le_of_ble_eq_true rfl) (Nat.le_of_ble_eq_true rfl) (fun r9 J_69 hq9 => ?_)
              obtain ⟨z_69, rfl, hz_69, rfl, ht_69⟩ := hq9
              rw [(show ((zup J 164 8 0) : zJ) 165 0 = (J 165 0) from rfl)] at ht_69
              refine tz_if_ne (pc := 72) (tgt := 82) dX12_make_72 (by decide) (by omega) (fun h_72 => ?_) (fun h_72 => ?_)
              · refine tz_aload_n (pc := 82) dX12_make_82 rfl rfl ?_
                refine tz_cV (pc := 83) (m_begins hl n _) vl_X12_400 dX12_make_83 o_164 rfl rfl (Nat.le_of_ble_eq_true rfl) ⟨(Nat.le_of_ble_eq_true rfl), (Nat.le_of_ble_eq_true rfl)⟩ rfl rfl (Nat.le_of_ble_eq_true rfl) (Nat.le_of_ble_eq_true rfl) (fun r9 J_83 hq9 => ?_)
                obtain ⟨rfl, hj_83⟩ := hq9
                have a_83 : AM J_83 J m m := by rw [← hj_83]; exact AM.begin (hI.z (MZ.up (k := 8) MZ.rf (by decide))) ⟨MZ.lo (MZ.up (k := 8) MZ.rf (by decide)), SC.z (MZ.up (k := 8) MZ.rf (by decide))⟩
                have br_83 : ∀ k, (k < 63 ∨ 126 ≤ k) → J_83 165 k = ((zup J 164 8 0) : zJ) 165 k := fun k hk => by rw [← hj_83]; exact zbg_r hk
                have bl_83 : ∀ k, ¬ k = 34 → ¬ k = 33 → ¬ k = 21 → J_83 164 k = ((zup J 164 8 0) : zJ) 164 k := fun k u v w => by rw [← hj_83]; exact zbg_f u v w
                have bo_83 : zOf (zbut [164, 165]) J_83 (zup J 164 8 0) := by rw [← hj_83]; exact zbg_of
                have b3_83 : J_83 164 21 = 0 ∧ J_83 164 33 = 0 ∧ J_83 164 34 = 0 := by rw [← hj_83]; exact ⟨rfl, rfl, rfl⟩
                have s9_83 : J_83 164 9 = J 164 9 := (bl_83 9 (by decide) (by decide) (by decide)).trans ((MZ.up (k := 8) MZ.rf (by decide)).2 9 (by decide) (by decide))
                refine tz_aload_n (pc := 86) dX12_make_86 rfl rfl ?_
                refine tz_aload_n (pc := 87) dX12_make_87 rfl rfl ?_
                refine tz_iload_n (pc := 88) dX12_make_88 rfl rfl ?_
                refine tz_iload_n (pc := 89) dX12_make_89 rfl rfl ?_
                refine tz_iload_n (pc := 90) dX12_make_90 rfl rfl ?_
                refine tz_iload (pc := 91) dX12_make_91 rfl ?_
                have ea_93 : J_83 170 = J 170 := (bo_83 170 rfl)
                refine tz_cV (pc := 93) (m_termOf hl n _ _ _ _ _ (by omega) (by omega) (by omega) (by omega) 0 0 0 (J_83 164 9) m (a_83).1.1 (by omega) (fun _ => by rw [arh_pos (by omega)]; simp only [Int.zero_add, ea_93]; omega)) vl_X12_107 dX12_make_93 o_164 rfl rfl (Nat.le_of_ble_eq_true rfl) ⟨(Nat.le_of_ble_eq_true rfl), (Nat.le_of_ble_eq_true rfl)⟩ rfl rfl (Nat.le_of_ble_eq_true rfl) (Nat.le_of_ble_eq_true rfl) (fun r9 J_93 hq9 => ?_)
                obtain ⟨z_93, rfl, hz_93, m_93, g_93, h_93⟩ := hq9
                have a_93 := AM.grow0 a_83 g_93 (fun c hc => by simp at hc) (fun k x y => by simp; omega) rfl
                have lm_93 := a_93.1.2.2
                refine tz_cV (pc := 96) (m_keeps hl n _ _ (by omega) (a_93).2.2.2.1.1.1 (a_93).2.2.2.1.1.2) vl_X12_403 dX12_make_96 o_164 rfl rfl (Nat.le_of_ble_eq_true rfl) ⟨(Nat.le_of_ble_eq_true rfl), (Nat.le_of_ble_eq_true rfl)⟩ rfl rfl (Nat.le_of_ble_eq_true rfl) (Nat.le_of_ble_eq_true rfl) (fun r9 J_96 hq9 => ?_)
                obtain ⟨z_96, rfl, hz_96, k_96⟩ := hq9
                exact tz_iret (pc := 99) (z := z_96) dX12_make_99 rfl (Nat.le_of_ble_eq_true rfl) (Nat.le_of_ble_eq_true rfl) ⟨Nat.le_refl _, Nat.le_add_right _ _⟩ ⟨_, rfl, (by omega), AM.keep a_93 k_96⟩
              · refine tz_aload_n (pc := 75) dX12_make_75 rfl rfl ?_
                refine tz_iconst (pc := 76) dX12_make_76 ?_
                refine tz_iconst (pc := 77) dX12_make_77 ?_
                refine tz_cV (pc := 78) (m_refuses hl n _ _ _ (by decide) (by decide) (by decide)) vl_X12_391 dX12_make_78 o_164 rfl rfl (Nat.le_of_ble_eq_true rfl) ⟨(Nat.le_of_ble_eq_true rfl), (Nat.le_of_ble_eq_true rfl)⟩ rfl rfl (Nat.le_of_ble_eq_true rfl) (Nat.le_of_ble_eq_true rfl) (fun r9 J_78 hq9 => ?_)
                obtain ⟨z_78, rfl, hz_78, e_78, f_78⟩ := hq9
                have y_78 : MZ J_78 J := MZ.tr (MZ.up (k := 8) MZ.rf (by decide)) (MZ.c f_78 (by decide))
                exact tz_iret (pc := 81) (z := z_78) dX12_make_81 rfl (Nat.le_of_ble_eq_true rfl) (Nat.le_of_ble_eq_true rfl) ⟨Nat.le_refl _, Nat.le_add_right _ _⟩ ⟨_, rfl, (by omega), MQr.z hI y_78⟩
          · refine tz_aload_n (pc := 52) dX12_make_52 rfl rfl ?_
            refine tz_iload_n (pc := 53) dX12_make_53 rfl rfl ?_
            refine tz_cV (pc := 54) (m_isTerm hl n _ _ (by omega) (by rw [(show ((zup J 164 8 0) : zJ) 165 0 = (J 165 0) from rfl)]; omega)) vl_X12_376 dX12_make_54 o_164 rfl rfl (Nat.le_of_ble_eq_true rfl) ⟨(Nat.le_of_ble_eq_true rfl), (Nat.le_of_ble_eq_true rfl)⟩ rfl rfl (Nat.le_of_ble_eq_true rfl) (Nat.le_of_ble_eq_true rfl) (fun r9 J_54 hq9 => ?_)
            obtain ⟨z_54, rfl, hz_54, rfl, ht_54⟩ := hq9
            rw [(show ((zup J 164 8 0) : zJ) 165 0 = (J 165 0) from rfl)] at ht_54
            refine tz_if_eq (pc := 57) (tgt := 75) dX12_make_57 (by decide) (by omega) (fun h_57 => ?_) (fun h_57 => ?_)
            · refine tz_aload_n (pc := 75) dX12_make_75 rfl rfl ?_
              refine tz_iconst (pc := 76) dX12_make_76 ?_
              refine tz_iconst (pc := 77) dX12_make_77 ?_
              refine tz_cV (pc := 78) (m_refuses hl n _ _ _ (by decide) (by decide) (by decide)) vl_X12_391 dX12_make_78 o_164 rfl rfl (Nat.le_of_ble_eq_true rfl) ⟨(Nat.le_of_ble_eq_true rfl), (Nat.le_of_ble_eq_true rfl)⟩ rfl rfl (Nat.le_of_ble_eq_true rfl) (Nat.le_of_ble_eq_true rfl) (fun r9 J_78 hq9 => ?_)
              obtain ⟨z_78, rfl, hz_78, e_78, f_78⟩ := hq9
              have y_78 : MZ J_78 J := MZ.tr (MZ.up (k := 8) MZ.rf (by decide)) (MZ.c f_78 (by decide))
              exact tz_iret (pc := 81) (z := z_78) dX12_make_81 rfl (Nat.le_of_ble_eq_true rfl) (Nat.le_of_ble_eq_true rfl) ⟨Nat.le_refl _, Nat.le_add_right _ _⟩ ⟨_, rfl, (by omega), MQr.z hI y_78⟩
            · refine tz_iload (pc := 60) dX12_make_60 rfl ?_
              refine tz_iconst (pc := 62) dX12_make_62 ?_
              refine tz_icmp_le (pc := 63) (tgt := 82) dX12_make_63 (by decide) (by omega) (by decide) (fun h_63 => ?_) (fun h_63 => ?_)
              · refine tz_aload_n (pc := 82) dX12_make_82 rfl rfl ?_
                refine tz_cV (pc := 83) (m_begins hl n _) vl_X12_400 dX12_make_83 o_164 rfl rfl (Nat.le_of_ble_eq_true rfl) ⟨(Nat.le_of_ble_eq_true rfl), (Nat.le_of_ble_eq_true rfl)⟩ rfl rfl (Nat.le_of_ble_eq_true rfl) (Nat.le_of_ble_eq_true rfl) (fun r9 J_83 hq9 => ?_)
                obtain ⟨rfl, hj_83⟩ := hq9
                have a_83 : AM J_83 J m m := by rw [← hj_83]; exact AM.begin (hI.z (MZ.up (k := 8) MZ.rf (by decide))) ⟨MZ.lo (MZ.up (k := 8) MZ.rf (by decide)), SC.z (MZ.up (k := 8) MZ.rf (by decide))⟩
                have br_83 : ∀ k, (k < 63 ∨ 126 ≤ k) → J_83 165 k = ((zup J 164 8 0) : zJ) 165 k := fun k hk => by rw [← hj_83]; exact zbg_r hk
                have bl_83 : ∀ k, ¬ k = 34 → ¬ k = 33 → ¬ k = 21 → J_83 164 k = ((zup J 164 8 0) : zJ) 164 k := fun k u v w => by rw [← hj_83]; exact zbg_f u v w
                have bo_83 : zOf (zbut [164, 165]) J_83 (zup J 164 8 0) := by rw [← hj_83]; exact zbg_of
                have b3_83 : J_83 164 21 = 0 ∧ J_83 164 33 = 0 ∧ J_83 164 34 = 0 := by rw [← hj_83]; exact ⟨rfl, rfl, rfl⟩
                have s9_83 : J_83 164 9 = J 164 9 := (bl_83 9 (by decide) (by decide) (by decide)).trans ((MZ.up (k := 8) MZ.rf (by decide)).2 9 (by decide) (by decide))
                refine tz_aload_n (pc := 86) dX12_make_86 rfl rfl ?_
                refine tz_aload_n (pc := 87) dX12_make_87 rfl rfl ?_
                refine tz_iload_n (pc := 88) dX12_make_88 rfl rfl ?_
                refine tz_iload_n (pc := 89) dX12_make_89 rfl rfl ?_
                refine tz_iload_n (pc := 90) dX12_make_90 rfl rfl ?_
                refine tz_iload (pc := 91) dX12_make_91 rfl ?_
                have ea_93 : J_83 170 = J 170 := (bo_83 170 rfl)
                refine tz_cV (pc := 93) (m_termOf hl n _ _ _ _ _ (by omega) (by omega) (by omega) (by omega) 0 0 0 (J_83 164 9) m (a_83).1.1 (by omega) (fun _ => by rw [arh_pos (by omega)]; simp only [Int.zero_add, ea_93]; omega)) vl_X12_107 dX12_make_93 o_164 rfl rfl (Nat.le_of_ble_eq_true rfl) ⟨(Nat.le_of_ble_eq_true rfl), (Nat.le_of_ble_eq_true rfl)⟩ rfl rfl (Nat.le_of_ble_eq_true rfl) (Nat.le_of_ble_eq_true rfl) (fun r9 J_93 hq9 => ?_)
                obtain ⟨z_93, rfl, hz_93, m_93, g_93, h_93⟩ := hq9
                have a_93 := AM.grow0 a_83 g_93 (fun c hc => by simp at hc) (fun k x y => by simp; omega) rfl
                have lm_93 := a_93.1.2.2
                refine tz_cV (pc := 96) (m_keeps hl n _ _ (by omega) (a_93).2.2.2.1.1.1 (a_93).2.2.2.1.1.2) vl_X12_403 dX12_make_96 o_164 rfl rfl (Nat.le_of_ble_eq_true rfl) ⟨(Nat.le_of_ble_eq_true rfl), (Nat.le_of_ble_eq_true rfl)⟩ rfl rfl (Nat.le_of_ble_eq_true rfl) (Nat.le_of_ble_eq_true rfl) (fun r9 J_96 hq9 => ?_)
                obtain ⟨z_96, rfl, hz_96, k_96⟩ := hq9
                exact tz_iret (pc := 99) (z := z_96) dX12_make_99 rfl (Nat.le_of_ble_eq_true rfl) (Nat.le_of_ble_eq_true rfl) ⟨Nat.le_refl _, Nat.le_add_right _ _⟩ ⟨_, rfl, (by omega), AM.keep a_93 k_96⟩
              · refine tz_aload_n (pc := 66) dX12_make_66 rfl rfl ?_
                refine tz_iload (pc := 67) dX12_make_67 rfl ?_
                refine tz_cV (pc := 69) (m_isTerm hl n _ _ (by omega) (by rw [(show ((zup J 164 8 0) : zJ) 165 0 = (J 165 0) from rfl)]; omega)) vl_X12_376 dX12_make_69 o_164 rfl rfl (Nat.le_of_ble_eq_true rfl) ⟨(Nat.le_of_ble_eq_true rfl), (Nat.le_of_ble_eq_true rfl)⟩ rfl rfl (Nat.le_of_ble_eq_true rfl) (Nat.le_of_ble_eq_true rfl) (fun r9 J_69 hq9 => ?_)
                obtain ⟨z_69, rfl, hz_69, rfl, ht_69⟩ := hq9
                rw [(show ((zup J 164 8 0) : zJ) 165 0 = (J 165 0) from rfl)] at ht_69
                refine tz_if_ne (pc := 72) (tgt := 82) dX12_make_72 (by decide) (by omega) (fun h_72 => ?_) (fun h_72 => ?_)
                · refine tz_aload_n (pc := 82) dX12_make_82 rfl rfl ?_
                  refine tz_cV (pc := 83) (m_begins hl n _) vl_X12_400 dX12_make_83 o_164 rfl rfl (Nat.le_of_ble_eq_true rfl) ⟨(Nat.le_of_ble_eq_true rfl), (Nat.le_of_ble_eq_true rfl)⟩ rfl rfl (Nat.le_of_ble_eq_true rfl) (Nat.le_of_ble_eq_true rfl) (fun r9 J_83 hq9 => ?_)
                  obtain ⟨rfl, hj_83⟩ := hq9
                  have a_83 : AM J_83 J m m := by rw [← hj_83]; exact AM.begin (hI.z (MZ.up (k := 8) MZ.rf (by decide))) ⟨MZ.lo (MZ.up (k := 8) MZ.rf (by decide)), SC.z (MZ.up (k := 8) MZ.rf (by decide))⟩
                  have br_83 : ∀ k, (k < 63 ∨ 126 ≤ k) → J_83 165 k = ((zup J 164 8 0) : zJ) 165 k := fun k hk => by rw [← hj_83]; exact zbg_r hk
                  have bl_83 : ∀ k, ¬ k = 34 → ¬ k = 33 → ¬ k = 21 → J_83 164 k = ((zup J 164 8 0) : zJ) 164 k := fun k u v w => by rw [← hj_83]; exact zbg_f u v w
                  have bo_83 : zOf (zbut [164, 165]) J_83 (zup J 164 8 0) := by rw [← hj_83]; exact zbg_of
                  have b3_83 : J_83 164 21 = 0 ∧ J_83 164 33 = 0 ∧ J_83 164 34 = 0 := by rw [← hj_83]; exact ⟨rfl, rfl, rfl⟩
                  have s9_83 : J_83 164 9 = J 164 9 := (bl_83 9 (by decide) (by decide) (by decide)).trans ((MZ.up (k := 8) MZ.rf (by decide)).2 9 (by decide) (by decide))
                  refine tz_aload_n (pc := 86) dX12_make_86 rfl rfl ?_
                  refine tz_aload_n (pc := 87) dX12_make_87 rfl rfl ?_
                  refine tz_iload_n (pc := 88) dX12_make_88 rfl rfl ?_
                  refine tz_iload_n (pc := 89) dX12_make_89 rfl rfl ?_
                  refine tz_iload_n (pc := 90) dX12_make_90 rfl rfl ?_
                  refine tz_iload (pc := 91) dX12_make_91 rfl ?_
                  have ea_93 : J_83 170 = J 170 := (bo_83 170 rfl)
                  refine tz_cV (pc := 93) (m_termOf hl n _ _ _ _ _ (by omega) (by omega) (by omega) (by omega) 0 0 0 (J_83 164 9) m (a_83).1.1 (by omega) (fun _ => by rw [arh_pos (by omega)]; simp only [Int.zero_add, ea_93]; omega)) vl_X12_107 dX12_make_93 o_164 rfl rfl (Nat.le_of_ble_eq_true rfl) ⟨(Nat.le_of_ble_eq_true rfl), (Nat.le_of_ble_eq_true rfl)⟩ rfl rfl (Nat.le_of_ble_eq_true rfl) (Nat.le_of_ble_eq_true rfl) (fun r9 J_93 hq9 => ?_)
                  obtain ⟨z_93, rfl, hz_93, m_93, g_93, h_93⟩ := hq9
                  have a_93 := AM.grow0 a_83 g_93 (fun c hc => by simp at hc) (fun k x y => by simp; omega) rfl
                  have lm_93 := a_93.1.2.2
                  refine tz_cV (pc := 96) (m_keeps hl n _ _ (by omega) (a_93).2.2.2.1.1.1 (a_93).2.2.2.1.1.2) vl_X12_403 dX12_make_96 o_164 rfl rfl (Nat.le_of_ble_eq_true rfl) ⟨(Nat.le_of_ble_eq_true rfl), (Nat.le_of_ble_eq_true rfl)⟩ rfl rfl (Nat.le_of_ble_eq_true rfl) (Nat.le_of_ble_eq_true rfl) (fun r9 J_96 hq9 => ?_)
                  obtain ⟨z_96, rfl, hz_96, k_96⟩ := hq9
                  exact tz_iret (pc := 99) (z := z_96) dX12_make_99 rfl (Nat.le_of_ble_eq_true rfl) (Nat.le_of_ble_eq_true rfl) ⟨Nat.le_refl _, Nat.le_add_right _ _⟩ ⟨_, rfl, (by omega), AM.keep a_93 k_96⟩
                · refine tz_aload_n (pc := 75) dX12_make_75 rfl rfl ?_
                  refine tz_iconst (pc := 76) dX12_make_76 ?_
                  refine tz_iconst (pc := 77) dX12_make_77 ?_
                  refine tz_cV (pc := 78) (m_refuses hl n _ _ _ (by decide) (by decide) (by decide)) vl_X12_391 dX12_make_78 o_164 rfl rfl (Nat.le_of_ble_eq_true rfl) ⟨(Nat.le_of_ble_eq_true rfl), (Nat.le_of_ble_eq_true rfl)⟩ rfl rfl (Nat.le_of_ble_eq_true rfl) (Nat.le_of_ble_eq_true rfl) (fun r9 J_78 hq9 => ?_)
                  obtain ⟨z_78, rfl, hz_78, e_78, f_78⟩ := hq9
                  have y_78 : MZ J_78 J := MZ.tr (MZ.up (k := 8) MZ.rf (by decide)) (MZ.c f_78 (by decide))
                  exact tz_iret (pc := 81) (z := z_78) dX12_make_81 rfl (Nat.le_of_ble_eq_true rfl) (Nat.le_of_ble_eq_true rfl) ⟨Nat.le_refl _, Nat.le_add_right _ _⟩ ⟨_, rfl, (by omega), MQr.z hI y_78⟩

set_option maxHeartbeats 4000000 in
set_option maxRecDepth 100000 in
theorem q_bind {l : Launch} {G : tb_G} (hl : l.stackTraces = false) (n : Nat) (J : zJ) (x : Int) (y : Int) (hr_x : -2147483648 ≤ x ∧ x < 2147483648) (hr_y : -2147483648 ≤ y ∧ y < 2147483648) (m : Int) (hI : MI J m)  : tz_Ok l G M_X12_bind 3 0 0 [.ref 164, zi x, zi y] n J (zqi (fun z J' => MQr J' J)) zN := by
  refine tz_Ok.of hl (by decide +kernel) rfl (tb_c1 rfl) (Nat.le_of_ble_eq_true rfl) ?_
  show tz_At l G M_X12_bind (tb_rm 3 0 0) none (tb_ZM G 0 0 (zQ n 0 (zqi (fun z J' => MQr J' J))) (zX n 0 zN)) 0 0 n J 0 [some (.ref 164), some (zi x), some (zi y), none] []
  have hT := hI.told
  have hW := hI.row
  have hM := hI.1
  have hL := hI.2.1
  have hB := hL.2.2.2
  refine tz_aload_n (pc := 0) dX12_bind_0 rfl rfl ?_
  refine tz_iconst (pc := 1) dX12_bind_1 ?_
  refine tz_pI (pc := 2) (kz := 8) dX12_bind_2 fl_X12_68 i_164_8 rfl rfl (by decide) ?_
  refine tz_iload_n (pc := 5) dX12_bind_5 rfl rfl ?_
  refine tz_iconst (pc := 6) dX12_bind_6 ?_
  refine tz_bipush (pc := 7) dX12_bind_7 (by decide) ?_
  refine tz_cS (pc := 9) (m_within hl n _ _ _ _ (by omega) (by decide) (by decide)) sl_X12_283 dX12_bind_9 rfl rfl (Nat.le_of_ble_eq_true rfl) ⟨(Nat.le_of_ble_eq_true rfl), (Nat.le_of_ble_eq_true rfl)⟩ rfl rfl (Nat.le_of_ble_eq_true rfl) (Nat.le_of_ble_eq_true rfl) (fun r9 J_9 hq9 => ?_)
  obtain ⟨z_9, rfl, hz_9, rfl, hw_9⟩ := hq9
  refine tz_if_eq (pc := 12) (tgt := 42) dX12_bind_12 (by decide) (by omega) (fun h_12 => ?_) (fun h_12 => ?_)
  · refine tz_aload_n (pc := 42) dX12_bind_42 rfl rfl ?_
    refine tz_iconst (pc := 43) dX12_bind_43 ?_
    refine tz_bipush (pc := 44) dX12_bind_44 (by decide) ?_
    refine tz_cV (pc := 46) (m_refuses hl n _ _ _ (by decide) (by decide) (by decide)) vl_X12_391 dX12_bind_46 o_164 rfl rfl (Nat.le_of_ble_eq_true rfl) ⟨(Nat.le_of_ble_eq_true rfl), (Nat.le_of_ble_eq_true rfl)⟩ rfl rfl (Nat.le_of_ble_eq_true rfl) (Nat.le_of_ble_eq_true rfl) (fun r9 J_46 hq9 => ?_)
    obtain ⟨z_46, rfl, hz_46, e_46, f_46⟩ := hq9
    have y_46 : MZ J_46 J := MZ.tr (MZ.up (k := 8) MZ.rf (by decide)) (MZ.c f_46 (by decide))
    exact tz_iret (pc := 49) (z := z_46) dX12_bind_49 rfl (Nat.le_of_ble_eq_true rfl) (Nat.le_of_ble_eq_true rfl) ⟨Nat.le_refl _, Nat.le_add_right _ _⟩ ⟨_, rfl, (by omega), MQr.z hI y_46⟩
  · refine tz_iload_n (pc := 15) dX12_bind_15 rfl rfl ?_
    refine tz_iconst (pc := 16) dX12_bind_16 ?_
    refine tz_icmp_eq (pc := 17) (tgt := 28) dX12_bind_17 (by decide) (by omega) (by decide) (fun h_17 => ?_) (fun h_17 => ?_)
    · refine tz_aload_n (pc := 28) dX12_bind_28 rfl rfl ?_
      refine tz_fR (pc := 29) dX12_bind_29 fl_X12_9 r_164_0 ?_
      refine tz_iconst (pc := 32) dX12_bind_32 ?_
      refine tz_iload_n (pc := 33) dX12_bind_33 rfl rfl ?_
      refine tz_iadd (pc := 34) (v := 1 + x) dX12_bind_34 rfl ?_
      refine tz_aL (pc := 35) (z := (1 + x)) (v := (J 165 (1 + x))) dX12_bind_35 a_165 rfl (by omega) rfl (fun r_35 => ?_)
      refine tz_iload_n (pc := 36) dX12_bind_36 rfl rfl ?_
      refine tz_iconst (pc := 37) dX12_bind_37 ?_
      refine tz_iadd (pc := 38) (v := y + 1) dX12_bind_38 rfl ?_
      refine tz_icmp_ne (pc := 39) (tgt := 50) dX12_bind_39 (by decide) (by omega) (by omega) (fun h_39 => ?_) (fun h_39 => ?_)
      · refine tz_aload_n (pc := 50) dX12_bind_50 rfl rfl ?_
        refine tz_cV (pc := 51) (m_begins hl n _) vl_X12_400 dX12_bind_51 o_164 rfl rfl (Nat.le_of_ble_eq_true rfl) ⟨(Nat.le_of_ble_eq_true rfl), (Nat.le_of_ble_eq_true rfl)⟩ rfl rfl (Nat.le_of_ble_eq_true rfl) (Nat.le_of_ble_eq_true rfl) (fun r9 J_51 hq9 => ?_)
        obtain ⟨rfl, hj_51⟩ := hq9
        have a_51 : AM J_51 J m m := by rw [← hj_51]; exact AM.begin (hI.z (MZ.up (k := 8) MZ.rf (by decide))) ⟨MZ.lo (MZ.up (k := 8) MZ.rf (by decide)), SC.z (MZ.up (k := 8) MZ.rf (by decide))⟩
        have br_51 : ∀ k, (k < 63 ∨ 126 ≤ k) → J_51 165 k = ((zup J 164 8 0) : zJ) 165 k := fun k hk => by rw [← hj_51]; exact zbg_r hk
        have bl_51 : ∀ k, ¬ k = 34 → ¬ k = 33 → ¬ k = 21 → J_51 164 k = ((zup J 164 8 0) : zJ) 164 k := fun k u v w => by rw [← hj_51]; exact zbg_f u v w
        have bo_51 : zOf (zbut [164, 165]) J_51 (zup J 164 8 0) := by rw [← hj_51]; exact zbg_of
        have b3_51 : J_51 164 21 = 0 ∧ J_51 164 33 = 0 ∧ J_51 164 34 = 0 := by rw [← hj_51]; exact ⟨rfl, rfl, rfl⟩
        have s9_51 : J_51 164 9 = J 164 9 := (bl_51 9 (by decide) (by decide) (by decide)).trans ((MZ.up (k := 8) MZ.rf (by decide)).2 9 (by decide) (by decide))
        refine tz_aload_n (pc := 54) dX12_bind_54 rfl rfl ?_
        refine tz_fR (pc := 55) dX12_bind_55 fl_X12_9 r_164_0 ?_
        refine tz_iconst (pc := 58) dX12_bind_58 ?_
        refine tz_iload_n (pc := 59) dX12_bind_59 rfl rfl ?_
        refine tz_iadd (pc := 60) (v := 1 + x) dX12_bind_60 rfl ?_
        refine tz_aL (pc := 61) (z := (1 + x)) (v := (J 165 (1 + x))) dX12_bind_61 a_165 rfl (by omega) (Eq.trans (br_51 (1 + x) (by omega)) rfl) (fun r_61 => ?_)
        refine tz_iconst (pc := 62) dX12_bind_62 ?_
        refine tz_isub (pc := 63) (v := (J 165 (1 + x)) - 1) dX12_bind_63 rfl ?_
        refine tz_istore_n (pc := 64) (L2 := [_, _, _, _]) dX12_bind_64 rfl (by decide) rfl ?_
        refine tz_aload_n (pc := 65) dX12_bind_65 rfl rfl ?_
        refine tz_fR (pc := 66) dX12_bind_66 fl_X12_9 r_164_0 ?_
        refine tz_iconst (pc := 69) dX12_bind_69 ?_
        refine tz_iload_n (pc := 70) dX12_bind_70 rfl rfl ?_
        refine tz_iadd (pc := 71) (v := 1 + x) dX12_bind_71 rfl ?_
        refine tz_iload_n (pc := 72) dX12_bind_72 rfl rfl ?_
        refine tz_iconst (pc := 73) dX12_bind_73 ?_
        refine tz_iadd (pc := 74) (v := y + 1) dX12_bind_74 rfl ?_
        refine tz_aS (pc := 75) (z := (1 + x)) dX12_bind_75 a_165 rfl (by omega) (by omega) ?_
        refine tz_aload_n (pc := 76) dX12_bind_76 rfl rfl ?_
        refine tz_iload_n (pc := 77) dX12_bind_77 rfl rfl ?_
        refine tz_tw ?_
        have rw_78 := zw_rg ((J 165 (1 + x)) - 1)
        refine tz_cV (pc := 78) (m_keeps hl n _ _ (by omega) ((AM.bind a_51 (by omega) (by omega))).2.2.2.1.1.1 ((AM.bind a_51 (by omega) (by omega))).2.2.2.1.1.2) vl_X12_403 dX12_bind_78 o_164 rfl rfl (Nat.le_of_ble_eq_true rfl) ⟨(Nat.le_of_ble_eq_true rfl), (Nat.le_of_ble_eq_true rfl)⟩ rfl rfl (Nat.le_of_ble_eq_true rfl) (Nat.le_of_ble_eq_true rfl) (fun r9 J_78 hq9 => ?_)
        obtain ⟨z_78, rfl, hz_78, k_78⟩ := hq9
        exact tz_iret (pc := 81) (z := z_78) dX12_bind_81 rfl (Nat.le_of_ble_eq_true rfl) (Nat.le_of_ble_eq_true rfl) ⟨Nat.le_refl _, Nat.le_add_right _ _⟩ ⟨_, rfl, (by omega), AM.keep (AM.bind a_51 (by omega) (by omega)) k_78⟩
      · refine tz_aload_n (pc := 42) dX12_bind_42 rfl rfl ?_
        refine tz_iconst (pc := 43) dX12_bind_43 ?_
        refine tz_bipush (pc := 44) dX12_bind_44 (by decide) ?_
        refine tz_cV (pc := 46) (m_refuses hl n _ _ _ (by decide) (by decide) (by decide)) vl_X12_391 dX12_bind_46 o_164 rfl rfl (Nat.le_of_ble_eq_true rfl) ⟨(Nat.le_of_ble_eq_true rfl), (Nat.le_of_ble_eq_true rfl)⟩ rfl rfl (Nat.le_of_ble_eq_true rfl) (Nat.le_of_ble_eq_true rfl) (fun r9 J_46 hq9 => ?_)
        obtain ⟨z_46, rfl, hz_46, e_46, f_46⟩ := hq9
        have y_46 : MZ J_46 J := MZ.tr (MZ.up (k := 8) MZ.rf (by decide)) (MZ.c f_46 (by decide))
        exact tz_iret (pc := 49) (z := z_46) dX12_bind_49 rfl (Nat.le_of_ble_eq_true rfl) (Nat.le_of_ble_eq_true rfl) ⟨Nat.le_refl _, Nat.le_add_right _ _⟩ ⟨_, rfl, (by omega), MQr.z hI y_46⟩
    · refine tz_aload_n (pc := 20) dX12_bind_20 rfl rfl ?_
      refine tz_iload_n (pc := 21) dX12_bind_21 rfl rfl ?_
      refine tz_cV (pc := 22) (m_isTerm hl n _ _ (by omega) (by rw [(show ((zup J 164 8 0) : zJ) 165 0 = (J 165 0) from rfl)]; omega)) vl_X12_376 dX12_bind_22 o_164 rfl rfl (Nat.le_of_ble_eq_true rfl) ⟨(Nat.le_of_ble_eq_true rfl), (Nat.le_of_ble_eq_true rfl)⟩ rfl rfl (Nat.le_of_ble_eq_true rfl) (Nat.le_of_ble_eq_true rfl) (fun r9 J_22 hq9 => ?_)
      obtain ⟨z_22, rfl, hz_22, rfl, ht_22⟩ := hq9
      rw [(show ((zup J 164 8 0) : zJ) 165 0 = (J 165 0) from rfl)] at ht_22
      refine tz_if_eq (pc := 25) (tgt := 42) dX12_bind_25 (by decide) (by omega) (fun h_25 => ?_) (fun h_25 => ?_)
      · refine tz_aload_n (pc := 42) dX12_bind_42 rfl rfl ?_
        refine tz_iconst (pc := 43) dX12_bind_43 ?_
        refine tz_bipush (pc := 44) dX12_bind_44 (by decide) ?_
        refine tz_cV (pc := 46) (m_refuses hl n _ _ _ (by decide) (by decide) (by decide)) vl_X12_391 dX12_bind_46 o_164 rfl rfl (Nat.le_of_ble_eq_true rfl) ⟨(Nat.le_of_ble_eq_true rfl), (Nat.le_of_ble_eq_true rfl)⟩ rfl rfl (Nat.le_of_ble_eq_true rfl) (Nat.le_of_ble_eq_true rfl) (fun r9 J_46 hq9 => ?_)
        obtain ⟨z_46, rfl, hz_46, e_46, f_46⟩ := hq9
        have y_46 : MZ J_46 J := MZ.tr (MZ.up (k := 8) MZ.rf (by decide)) (MZ.c f_46 (by decide))
        exact tz_iret (pc := 49) (z := z_46) dX12_bind_49 rfl (Nat.le_of_ble_eq_true rfl) (Nat.le_of_ble_eq_true rfl) ⟨Nat.le_refl _, Nat.le_add_right _ _⟩ ⟨_, rfl, (by omega), MQr.z hI y_46⟩
      · refine tz_aload_n (pc := 28) dX12_bind_28 rfl rfl ?_
        refine tz_fR (pc := 29) dX12_bind_29 fl_X12_9 r_164_0 ?_
        refine tz_iconst (pc := 32) dX12_bind_32 ?_
        refine tz_iload_n (pc := 33) dX12_bind_33 rfl rfl ?_
        refine tz_iadd (pc := 34) (v := 1 + x) dX12_bind_34 rfl ?_
        refine tz_aL (pc := 35) (z := (1 + x)) (v := (J 165 (1 + x))) dX12_bind_35 a_165 rfl (by omega) rfl (fun r_35 => ?_)
        refine tz_iload_n (pc := 36) dX12_bind_36 rfl rfl ?_
        refine tz_iconst (pc := 37) dX12_bind_37 ?_
        refine tz_iadd (pc := 38) (v := y + 1) dX12_bind_38 rfl ?_
        refine tz_icmp_ne (pc := 39) (tgt := 50) dX12_bind_39 (by decide) (by omega) (by omega) (fun h_39 => ?_) (fun h_39 => ?_)
        · refine tz_aload_n (pc := 50) dX12_bind_50 rfl rfl ?_
          refine tz_cV (pc := 51) (m_begins hl n _) vl_X12_400 dX12_bind_51 o_164 rfl rfl (Nat.le_of_ble_eq_true rfl) ⟨(Nat.le_of_ble_eq_true rfl), (Nat.le_of_ble_eq_true rfl)⟩ rfl rfl (Nat.le_of_ble_eq_true rfl) (Nat.le_of_ble_eq_true rfl) (fun r9 J_51 hq9 => ?_)
          obtain ⟨rfl, hj_51⟩ := hq9
          have a_51 : AM J_51 J m m := by rw [← hj_51]; exact AM.begin (hI.z (MZ.up (k := 8) MZ.rf (by decide))) ⟨MZ.lo (MZ.up (k := 8) MZ.rf (by decide)), SC.z (MZ.up (k := 8) MZ.rf (by decide))⟩
          have br_51 : ∀ k, (k < 63 ∨ 126 ≤ k) → J_51 165 k = ((zup J 164 8 0) : zJ) 165 k := fun k hk => by rw [← hj_51]; exact zbg_r hk
          have bl_51 : ∀ k, ¬ k = 34 → ¬ k = 33 → ¬ k = 21 → J_51 164 k = ((zup J 164 8 0) : zJ) 164 k := fun k u v w => by rw [← hj_51]; exact zbg_f u v w
          have bo_51 : zOf (zbut [164, 165]) J_51 (zup J 164 8 0) := by rw [← hj_51]; exact zbg_of
          have b3_51 : J_51 164 21 = 0 ∧ J_51 164 33 = 0 ∧ J_51 164 34 = 0 := by rw [← hj_51]; exact ⟨rfl, rfl, rfl⟩
          have s9_51 : J_51 164 9 = J 164 9 := (bl_51 9 (by decide) (by decide) (by decide)).trans ((MZ.up (k := 8) MZ.rf (by decide)).2 9 (by decide) (by decide))
          refine tz_aload_n (pc := 54) dX12_bind_54 rfl rfl ?_
          refine tz_fR (pc := 55) dX12_bind_55 fl_X12_9 r_164_0 ?_
          refine tz_iconst (pc := 58) dX12_bind_58 ?_
          refine tz_iload_n (pc := 59) dX12_bind_59 rfl rfl ?_
          refine tz_iadd (pc := 60) (v := 1 + x) dX12_bind_60 rfl ?_
          refine tz_aL (pc := 61) (z := (1 + x)) (v := (J 165 (1 + x))) dX12_bind_61 a_165 rfl (by omega) (Eq.trans (br_51 (1 + x) (by omega)) rfl) (fun r_61 => ?_)
          refine tz_iconst (pc := 62) dX12_bind_62 ?_
          refine tz_isub (pc := 63) (v := (J 165 (1 + x)) - 1) dX12_bind_63 rfl ?_
          refine tz_istore_n (pc := 64) (L2 := [_, _, _, _]) dX12_bind_64 rfl (by decide) rfl ?_
          refine tz_aload_n (pc := 65) dX12_bind_65 rfl rfl ?_
          refine tz_fR (pc := 66) dX12_bind_66 fl_X12_9 r_164_0 ?_
          refine tz_iconst (pc := 69) dX12_bind_69 ?_
          refine tz_iload_n (pc := 70) dX12_bind_70 rfl rfl ?_
          refine tz_iadd (pc := 71) (v := 1 + x) dX12_bind_71 rfl ?_
          refine tz_iload_n (pc := 72) dX12_bind_72 rfl rfl ?_
          refine tz_iconst (pc := 73) dX12_bind_73 ?_
          refine tz_iadd (pc := 74) (v := y + 1) dX12_bind_74 rfl ?_
          refine tz_aS (pc := 75) (z := (1 + x)) dX12_bind_75 a_165 rfl (by omega) (by omega) ?_
          refine tz_aload_n (pc := 76) dX12_bind_76 rfl rfl ?_
          refine tz_iload_n (pc := 77) dX12_bind_77 rfl rfl ?_
          refine tz_tw ?_
          have rw_78 := zw_rg ((J 165 (1 + x)) - 1)
          refine tz_cV (pc := 78) (m_keeps hl n _ _ (by omega) ((AM.bind a_51 (by omega) (by omega))).2.2.2.1.1.1 ((AM.bind a_51 (by omega) (by omega))).2.2.2.1.1.2) vl_X12_403 dX12_bind_78 o_164 rfl rfl (Nat.le_of_ble_eq_true rfl) ⟨(Nat.le_of_ble_eq_true rfl), (Nat.le_of_ble_eq_true rfl)⟩ rfl rfl (Nat.le_of_ble_eq_true rfl) (Nat.le_of_ble_eq_true rfl) (fun r9 J_78 hq9 => ?_)
          obtain ⟨z_78, rfl, hz_78, k_78⟩ := hq9
          exact tz_iret (pc := 81) (z := z_78) dX12_bind_81 rfl (Nat.le_of_ble_eq_true rfl) (Nat.le_of_ble_eq_true rfl) ⟨Nat.le_refl _, Nat.le_add_right _ _⟩ ⟨_, rfl, (by omega), AM.keep (AM.bind a_51 (by omega) (by omega)) k_78⟩
        · refine tz_aload_n (pc := 42) dX12_bind_42 rfl rfl ?_
          refine tz_iconst (pc := 43) dX12_bind_43 ?_
          refine tz_bipush (pc := 44) dX12_bind_44 (by decide) ?_
          refine tz_cV (pc := 46) (m_refuses hl n _ _ _ (by decide) (by decide) (by decide)) vl_X12_391 dX12_bind_46 o_164 rfl rfl (Nat.le_of_ble_eq_true rfl) ⟨(Nat.le_of_ble_eq_true rfl), (Nat.le_of_ble_eq_true rfl)⟩ rfl rfl (Nat.le_of_ble_eq_true rfl) (Nat.le_of_ble_eq_true rfl) (fun r9 J_46 hq9 => ?_)
          obtain ⟨z_46, rfl, hz_46, e_46, f_46⟩ := hq9
          have y_46 : MZ J_46 J := MZ.tr (MZ.up (k := 8) MZ.rf (by decide)) (MZ.c f_46 (by decide))
          exact tz_iret (pc := 49) (z := z_46) dX12_bind_49 rfl (Nat.le_of_ble_eq_true rfl) (Nat.le_of_ble_eq_true rfl) ⟨Nat.le_refl _, Nat.le_add_right _ _⟩ ⟨_, rfl, (by omega), MQr.z hI y_46⟩

set_option maxHeartbeats 4000000 in
set_option maxRecDepth 100000 in
theorem q_room {l : Launch} {G : tb_G} (hl : l.stackTraces = false) (n : Nat) (J : zJ) (x : Int) (hr_x : -2147483648 ≤ x ∧ x < 2147483648) (m : Int) (hI : MI J m)  : tz_Ok l G M_X12_room 3 0 0 [.ref 164, zi x] n J (zqi (fun z J' => MQr J' J)) zN := by
  refine tz_Ok.of hl (by decide +kernel) rfl (tb_c1 rfl) (Nat.le_of_ble_eq_true rfl) ?_
  show tz_At l G M_X12_room (tb_rm 3 0 0) none (tb_ZM G 0 0 (zQ n 0 (zqi (fun z J' => MQr J' J))) (zX n 0 zN)) 0 0 n J 0 [some (.ref 164), some (zi x), none] []
  have hT := hI.told
  have hW := hI.row
  have hM := hI.1
  have hL := hI.2.1
  refine tz_aload_n (pc := 0) dX12_room_0 rfl rfl ?_
  refine tz_iconst (pc := 1) dX12_room_1 ?_
  refine tz_pI (pc := 2) (kz := 8) dX12_room_2 fl_X12_68 i_164_8 rfl rfl (by decide) ?_
  refine tz_iload_n (pc := 5) dX12_room_5 rfl rfl ?_
  refine tz_iconst (pc := 6) dX12_room_6 ?_
  refine tz_bipush (pc := 7) dX12_room_7 (by decide) ?_
  refine tz_cS (pc := 9) (m_within hl n _ _ _ _ (by omega) (by decide) (by decide)) sl_X12_283 dX12_room_9 rfl rfl (Nat.le_of_ble_eq_true rfl) ⟨(Nat.le_of_ble_eq_true rfl), (Nat.le_of_ble_eq_true rfl)⟩ rfl rfl (Nat.le_of_ble_eq_true rfl) (Nat.le_of_ble_eq_true rfl) (fun r9 J_9 hq9 => ?_)
  obtain ⟨z_9, rfl, hz_9, rfl, hw_9⟩ := hq9
  refine tz_if_ne (pc := 12) (tgt := 22) dX12_room_12 (by decide) (by omega) (fun h_12 => ?_) (fun h_12 => ?_)
  · refine tz_aload_n (pc := 22) dX12_room_22 rfl rfl ?_
    refine tz_cV (pc := 23) (m_begins hl n _) vl_X12_400 dX12_room_23 o_164 rfl rfl (Nat.le_of_ble_eq_true rfl) ⟨(Nat.le_of_ble_eq_true rfl), (Nat.le_of_ble_eq_true rfl)⟩ rfl rfl (Nat.le_of_ble_eq_true rfl) (Nat.le_of_ble_eq_true rfl) (fun r9 J_23 hq9 => ?_)
    obtain ⟨rfl, hj_23⟩ := hq9
    have a_23 : AM J_23 J m m := by rw [← hj_23]; exact AM.begin (hI.z (MZ.up (k := 8) MZ.rf (by decide))) ⟨MZ.lo (MZ.up (k := 8) MZ.rf (by decide)), SC.z (MZ.up (k := 8) MZ.rf (by decide))⟩
    have br_23 : ∀ k, (k < 63 ∨ 126 ≤ k) → J_23 165 k = ((zup J 164 8 0) : zJ) 165 k := fun k hk => by rw [← hj_23]; exact zbg_r hk
    have bl_23 : ∀ k, ¬ k = 34 → ¬ k = 33 → ¬ k = 21 → J_23 164 k = ((zup J 164 8 0) : zJ) 164 k := fun k u v w => by rw [← hj_23]; exact zbg_f u v w
    have bo_23 : zOf (zbut [164, 165]) J_23 (zup J 164 8 0) := by rw [← hj_23]; exact zbg_of
    have b3_23 : J_23 164 21 = 0 ∧ J_23 164 33 = 0 ∧ J_23 164 34 = 0 := by rw [← hj_23]; exact ⟨rfl, rfl, rfl⟩
    have s9_23 : J_23 164 9 = J 164 9 := (bl_23 9 (by decide) (by decide) (by decide)).trans ((MZ.up (k := 8) MZ.rf (by decide)).2 9 (by decide) (by decide))
    refine tz_aload_n (pc := 26) dX12_room_26 rfl rfl ?_
    refine tz_fR (pc := 27) dX12_room_27 fl_X12_9 r_164_0 ?_
    refine tz_bipush (pc := 30) dX12_room_30 (by decide) ?_
    refine tz_aL (pc := 32) (z := 39) (v := (J 165 39)) dX12_room_32 a_165 rfl (by decide) (Eq.trans (br_23 39 (by omega)) rfl) (fun r_32 => ?_)
    refine tz_istore_n (pc := 33) (L2 := [_, _, _]) dX12_room_33 rfl (by decide) rfl ?_
    refine tz_aload_n (pc := 34) dX12_room_34 rfl rfl ?_
    refine tz_fR (pc := 35) dX12_room_35 fl_X12_9 r_164_0 ?_
    refine tz_bipush (pc := 38) dX12_room_38 (by decide) ?_
    refine tz_iload_n (pc := 40) dX12_room_40 rfl rfl ?_
    refine tz_aS (pc := 41) (z := 39) dX12_room_41 a_165 rfl (by decide) (by omega) ?_
    refine tz_aload_n (pc := 42) dX12_room_42 rfl rfl ?_
    refine tz_fR (pc := 43) dX12_room_43 fl_X12_9 r_164_0 ?_
    refine tz_bipush (pc := 46) dX12_room_46 (by decide) ?_
    refine tz_iconst (pc := 48) dX12_room_48 ?_
    refine tz_aS (pc := 49) (z := 40) dX12_room_49 a_165 rfl (by decide) (by decide) ?_
    refine tz_aload_n (pc := 50) dX12_room_50 rfl rfl ?_
    refine tz_iload_n (pc := 51) dX12_room_51 rfl rfl ?_
    refine tz_cV (pc := 52) (m_keeps hl n _ _ (by omega) ((AM.room a_23 (by omega))).2.2.2.1.1.1 ((AM.room a_23 (by omega))).2.2.2.1.1.2) vl_X12_403 dX12_room_52 o_164 rfl rfl (Nat.le_of_ble_eq_true rfl) ⟨(Nat.le_of_ble_eq_true rfl), (Nat.le_of_ble_eq_true rfl)⟩ rfl rfl (Nat.le_of_ble_eq_true rfl) (Nat.le_of_ble_eq_true rfl) (fun r9 J_52 hq9 => ?_)
    obtain ⟨z_52, rfl, hz_52, k_52⟩ := hq9
    exact tz_iret (pc := 55) (z := z_52) dX12_room_55 rfl (Nat.le_of_ble_eq_true rfl) (Nat.le_of_ble_eq_true rfl) ⟨Nat.le_refl _, Nat.le_add_right _ _⟩ ⟨_, rfl, (by omega), AM.keep (AM.room a_23 (by omega)) k_52⟩
  · refine tz_aload_n (pc := 15) dX12_room_15 rfl rfl ?_
    refine tz_iconst (pc := 16) dX12_room_16 ?_
    refine tz_iconst (pc := 17) dX12_room_17 ?_
    refine tz_cV (pc := 18) (m_refuses hl n _ _ _ (by decide) (by decide) (by decide)) vl_X12_391 dX12_room_18 o_164 rfl rfl (Nat.le_of_ble_eq_true rfl) ⟨(Nat.le_of_ble_eq_true rfl), (Nat.le_of_ble_eq_true rfl)⟩ rfl rfl (Nat.le_of_ble_eq_true rfl) (Nat.le_of_ble_eq_true rfl) (fun r9 J_18 hq9 => ?_)
    obtain ⟨z_18, rfl, hz_18, e_18, f_18⟩ := hq9
    have y_18 : MZ J_18 J := MZ.tr (MZ.up (k := 8) MZ.rf (by decide)) (MZ.c f_18 (by decide))
    exact tz_iret (pc := 21) (z := z_18) dX12_room_21 rfl (Nat.le_of_ble_eq_true rfl) (Nat.le_of_ble_eq_true rfl) ⟨Nat.le_refl _, Nat.le_add_right _ _⟩ ⟨_, rfl, (by omega), MQr.z hI y_18⟩

set_option maxHeartbeats 4000000 in
set_option maxRecDepth 100000 in
theorem q_apply {l : Launch} {G : tb_G} (hl : l.stackTraces = false) (n : Nat) (J : zJ) (x : Int) (hr_x : -2147483648 ≤ x ∧ x < 2147483648) (m : Int) (hI : MI J m)  : tz_Ok l G M_X12_apply 12 0 0 [.ref 164, zi x] n J (zqi (fun z J' => MQr J' J)) zN := by
  refine tz_Ok.of hl (by decide +kernel) rfl (tb_c1 rfl) (Nat.le_of_ble_eq_true rfl) ?_
  show tz_At l G M_X12_apply (tb_rm 12 0 0) none (tb_ZM G 0 0 (zQ n 0 (zqi (fun z J' => MQr J' J))) (zX n 0 zN)) 0 0 n J 0 [some (.ref 164), some (zi x)] []
  have hT := hI.told
  have hW := hI.row
  have hM := hI.1
  have hL := hI.2.1
  refine tz_aload_n (pc := 0) dX12_apply_0 rfl rfl ?_
  refine tz_iconst (pc := 1) dX12_apply_1 ?_
  refine tz_pI (pc := 2) (kz := 8) dX12_apply_2 fl_X12_68 i_164_8 rfl rfl (by decide) ?_
  refine tz_aload_n (pc := 5) dX12_apply_5 rfl rfl ?_
  refine tz_iload_n (pc := 6) dX12_apply_6 rfl rfl ?_
  refine tz_cV (pc := 7) (m_isTerm hl n _ _ (by omega) (by rw [(show ((zup J 164 8 0) : zJ) 165 0 = (J 165 0) from rfl)]; omega)) vl_X12_376 dX12_apply_7 o_164 rfl rfl (Nat.le_of_ble_eq_true rfl) ⟨(Nat.le_of_ble_eq_true rfl), (Nat.le_of_ble_eq_true rfl)⟩ rfl rfl (Nat.le_of_ble_eq_true rfl) (Nat.le_of_ble_eq_true rfl) (fun r9 J_7 hq9 => ?_)
  obtain ⟨z_7, rfl, hz_7, rfl, ht_7⟩ := hq9
  rw [(show ((zup J 164 8 0) : zJ) 165 0 = (J 165 0) from rfl)] at ht_7
  refine tz_if_ne (pc := 10) (tgt := 20) dX12_apply_10 (by decide) (by omega) (fun h_10 => ?_) (fun h_10 => ?_)
  · refine tz_aload_n (pc := 20) dX12_apply_20 rfl rfl ?_
    refine tz_cV (pc := 21) (m_begins hl n _) vl_X12_400 dX12_apply_21 o_164 rfl rfl (Nat.le_of_ble_eq_true rfl) ⟨(Nat.le_of_ble_eq_true rfl), (Nat.le_of_ble_eq_true rfl)⟩ rfl rfl (Nat.le_of_ble_eq_true rfl) (Nat.le_of_ble_eq_true rfl) (fun r9 J_21 hq9 => ?_)
    obtain ⟨rfl, hj_21⟩ := hq9
    have a_21 : AM J_21 J m m := by rw [← hj_21]; exact AM.begin (hI.z (MZ.up (k := 8) MZ.rf (by decide))) ⟨MZ.lo (MZ.up (k := 8) MZ.rf (by decide)), SC.z (MZ.up (k := 8) MZ.rf (by decide))⟩
    have br_21 : ∀ k, (k < 63 ∨ 126 ≤ k) → J_21 165 k = ((zup J 164 8 0) : zJ) 165 k := fun k hk => by rw [← hj_21]; exact zbg_r hk
    have bl_21 : ∀ k, ¬ k = 34 → ¬ k = 33 → ¬ k = 21 → J_21 164 k = ((zup J 164 8 0) : zJ) 164 k := fun k u v w => by rw [← hj_21]; exact zbg_f u v w
    have bo_21 : zOf (zbut [164, 165]) J_21 (zup J 164 8 0) := by rw [← hj_21]; exact zbg_of
    have b3_21 : J_21 164 21 = 0 ∧ J_21 164 33 = 0 ∧ J_21 164 34 = 0 := by rw [← hj_21]; exact ⟨rfl, rfl, rfl⟩
    have s9_21 : J_21 164 9 = J 164 9 := (bl_21 9 (by decide) (by decide) (by decide)).trans ((MZ.up (k := 8) MZ.rf (by decide)).2 9 (by decide) (by decide))
    refine tz_aload_n (pc := 24) dX12_apply_24 rfl rfl ?_
    refine tz_cV (pc := 25) (m_laysB hl n _ m ((a_21).2.1 b3_21.1).2.2.2 (by omega)) vl_X12_406 dX12_apply_25 o_164 rfl rfl (Nat.le_of_ble_eq_true rfl) ⟨(Nat.le_of_ble_eq_true rfl), (Nat.le_of_ble_eq_true rfl)⟩ rfl rfl (Nat.le_of_ble_eq_true rfl) (Nat.le_of_ble_eq_true rfl) (fun r9 J_25 hq9 => ?_)
    obtain ⟨rfl, g_25, f_25⟩ := hq9
    have a_25 := AM.z a_21 (MZ.c f_25 (by decide)) (by rw [f_25 164 rfl]; exact id)
    refine tz_aload_n (pc := 28) dX12_apply_28 rfl rfl ?_
    refine tz_aload_n (pc := 29) dX12_apply_29 rfl rfl ?_
    refine tz_iload_n (pc := 30) dX12_apply_30 rfl rfl ?_
    refine tz_aload_n (pc := 31) dX12_apply_31 rfl rfl ?_
    refine tz_fR (pc := 32) dX12_apply_32 fl_X12_44 r_164_23 ?_
    refine tz_cV (pc := 35) (m_appB hl n _ _ (by omega) 0 0 0 (J_25 164 9) m (a_25).1.1 (by omega) g_25) vl_X12_148 dX12_apply_35 o_164 rfl rfl (Nat.le_of_ble_eq_true rfl) ⟨(Nat.le_of_ble_eq_true rfl), (Nat.le_of_ble_eq_true rfl)⟩ rfl rfl (Nat.le_of_ble_eq_true rfl) (Nat.le_of_ble_eq_true rfl) (fun r9 J_35 hq9 => ?_)
    obtain ⟨z_35, rfl, hz_35, m_35, g_35, h_35⟩ := hq9
    have a_35 := AM.grow0 a_25 g_35 (fun c hc => by simp at hc) (fun k x y => by simp; omega) rfl
    have lm_35 := a_35.1.2.2
    refine tz_cV (pc := 38) (m_keeps hl n _ _ (by omega) (a_35).2.2.2.1.1.1 (a_35).2.2.2.1.1.2) vl_X12_403 dX12_apply_38 o_164 rfl rfl (Nat.le_of_ble_eq_true rfl) ⟨(Nat.le_of_ble_eq_true rfl), (Nat.le_of_ble_eq_true rfl)⟩ rfl rfl (Nat.le_of_ble_eq_true rfl) (Nat.le_of_ble_eq_true rfl) (fun r9 J_38 hq9 => ?_)
    obtain ⟨z_38, rfl, hz_38, k_38⟩ := hq9
    exact tz_iret (pc := 41) (z := z_38) dX12_apply_41 rfl (Nat.le_of_ble_eq_true rfl) (Nat.le_of_ble_eq_true rfl) ⟨Nat.le_refl _, Nat.le_add_right _ _⟩ ⟨_, rfl, (by omega), AM.keep a_35 k_38⟩
  · refine tz_aload_n (pc := 13) dX12_apply_13 rfl rfl ?_
    refine tz_iconst (pc := 14) dX12_apply_14 ?_
    refine tz_iconst (pc := 15) dX12_apply_15 ?_
    refine tz_cV (pc := 16) (m_refuses hl n _ _ _ (by decide) (by decide) (by decide)) vl_X12_391 dX12_apply_16 o_164 rfl rfl (Nat.le_of_ble_eq_true rfl) ⟨(Nat.le_of_ble_eq_true rfl), (Nat.le_of_ble_eq_true rfl)⟩ rfl rfl (Nat.le_of_ble_eq_true rfl) (Nat.le_of_ble_eq_true rfl) (fun r9 J_16 hq9 => ?_)
    obtain ⟨z_16, rfl, hz_16, e_16, f_16⟩ := hq9
    have y_16 : MZ J_16 J := MZ.tr (MZ.up (k := 8) MZ.rf (by decide)) (MZ.c f_16 (by decide))
    exact tz_iret (pc := 19) (z := z_16) dX12_apply_19 rfl (Nat.le_of_ble_eq_true rfl) (Nat.le_of_ble_eq_true rfl) ⟨Nat.le_refl _, Nat.le_add_right _ _⟩ ⟨_, rfl, (by omega), MQr.z hI y_16⟩

set_option maxHeartbeats 4000000 in
set_option maxRecDepth 100000 in
theorem q_close {l : Launch} {G : tb_G} (hl : l.stackTraces = false) (n : Nat) (J : zJ) (x : Int) (hr_x : -2147483648 ≤ x ∧ x < 2147483648) (m : Int) (hI : MI J m)  : tz_Ok l G M_X12_close 23 0 0 [.ref 164, zi x] n J (zqi (fun z J' => MQr J' J)) zN := by
  refine tz_Ok.of hl (by decide +kernel) rfl (tb_c1 rfl) (Nat.le_of_ble_eq_true rfl) ?_
  show tz_At l G M_X12_close (tb_rm 23 0 0) none (tb_ZM G 0 0 (zQ n 0 (zqi (fun z J' => MQr J' J))) (zX n 0 zN)) 0 0 n J 0 [some (.ref 164), some (zi x)] []
  have hT := hI.told
  have hW := hI.row
  have hM := hI.1
  have hL := hI.2.1
  refine tz_aload_n (pc := 0) dX12_close_0 rfl rfl ?_
  refine tz_iconst (pc := 1) dX12_close_1 ?_
  refine tz_pI (pc := 2) (kz := 8) dX12_close_2 fl_X12_68 i_164_8 rfl rfl (by decide) ?_
  refine tz_aload_n (pc := 5) dX12_close_5 rfl rfl ?_
  refine tz_iload_n (pc := 6) dX12_close_6 rfl rfl ?_
  refine tz_cV (pc := 7) (m_isTerm hl n _ _ (by omega) (by rw [(show ((zup J 164 8 0) : zJ) 165 0 = (J 165 0) from rfl)]; omega)) vl_X12_376 dX12_close_7 o_164 rfl rfl (Nat.le_of_ble_eq_true rfl) ⟨(Nat.le_of_ble_eq_true rfl), (Nat.le_of_ble_eq_true rfl)⟩ rfl rfl (Nat.le_of_ble_eq_true rfl) (Nat.le_of_ble_eq_true rfl) (fun r9 J_7 hq9 => ?_)
  obtain ⟨z_7, rfl, hz_7, rfl, ht_7⟩ := hq9
  rw [(show ((zup J 164 8 0) : zJ) 165 0 = (J 165 0) from rfl)] at ht_7
  refine tz_if_ne (pc := 10) (tgt := 20) dX12_close_10 (by decide) (by omega) (fun h_10 => ?_) (fun h_10 => ?_)
  · refine tz_aload_n (pc := 20) dX12_close_20 rfl rfl ?_
    refine tz_cV (pc := 21) (m_laysB hl n _ m hL.2.2.2 (by omega)) vl_X12_406 dX12_close_21 o_164 rfl rfl (Nat.le_of_ble_eq_true rfl) ⟨(Nat.le_of_ble_eq_true rfl), (Nat.le_of_ble_eq_true rfl)⟩ rfl rfl (Nat.le_of_ble_eq_true rfl) (Nat.le_of_ble_eq_true rfl) (fun r9 J_21 hq9 => ?_)
    obtain ⟨rfl, g_21, f_21⟩ := hq9
    have y_21 : MZ J_21 J := MZ.tr (MZ.up (k := 8) MZ.rf (by decide)) (MZ.c f_21 (by decide))
    refine tz_aload_n (pc := 24) dX12_close_24 rfl rfl ?_
    refine tz_iload_n (pc := 25) dX12_close_25 rfl rfl ?_
    refine tz_cV (pc := 26) (m_ring hl n _ _ (by omega) 0 0 0 (J 164 9) m (hM.z y_21) (by omega) g_21) vl_X12_409 dX12_close_26 o_164 rfl rfl (Nat.le_of_ble_eq_true rfl) ⟨(Nat.le_of_ble_eq_true rfl), (Nat.le_of_ble_eq_true rfl)⟩ rfl rfl (Nat.le_of_ble_eq_true rfl) (Nat.le_of_ble_eq_true rfl) (fun r9 J_26 hq9 => ?_)
    obtain ⟨z_26, rfl, hz_26, f_26, b_26, r_26⟩ := hq9
    have y_26 : MZ J_26 J := MZ.tr y_21 (MZ.c f_26 (by decide))
    refine tz_if_eq (pc := 29) (tgt := 40) dX12_close_29 (by decide) (by omega) (fun h_29 => ?_) (fun h_29 => ?_)
    · refine tz_aload_n (pc := 40) dX12_close_40 rfl rfl ?_
      refine tz_cV (pc := 41) (m_begins hl n _) vl_X12_400 dX12_close_41 o_164 rfl rfl (Nat.le_of_ble_eq_true rfl) ⟨(Nat.le_of_ble_eq_true rfl), (Nat.le_of_ble_eq_true rfl)⟩ rfl rfl (Nat.le_of_ble_eq_true rfl) (Nat.le_of_ble_eq_true rfl) (fun r9 J_41 hq9 => ?_)
      obtain ⟨rfl, hj_41⟩ := hq9
      have a_41 : AM J_41 J m m := by rw [← hj_41]; exact AM.begin (hI.z y_26) ⟨MZ.lo y_26, SC.z y_26⟩
      have br_41 : ∀ k, (k < 63 ∨ 126 ≤ k) → J_41 165 k = (J_26 : zJ) 165 k := fun k hk => by rw [← hj_41]; exact zbg_r hk
      have bl_41 : ∀ k, ¬ k = 34 → ¬ k = 33 → ¬ k = 21 → J_41 164 k = (J_26 : zJ) 164 k := fun k u v w => by rw [← hj_41]; exact zbg_f u v w
      have bo_41 : zOf (zbut [164, 165]) J_41 J_26 := by rw [← hj_41]; exact zbg_of
      have b3_41 : J_41 164 21 = 0 ∧ J_41 164 33 = 0 ∧ J_41 164 34 = 0 := by rw [← hj_41]; exact ⟨rfl, rfl, rfl⟩
      have s9_41 : J_41 164 9 = J 164 9 := (bl_41 9 (by decide) (by decide) (by decide)).trans (y_26.2 9 (by decide) (by decide))
      refine tz_aload_n (pc := 44) dX12_close_44 rfl rfl ?_
      refine tz_aload_n (pc := 45) dX12_close_45 rfl rfl ?_
      refine tz_iload_n (pc := 46) dX12_close_46 rfl rfl ?_
      refine tz_iconst (pc := 47) dX12_close_47 ?_
      refine tz_cV (pc := 48) (m_closed hl n _ _ (by omega) 0 0 0 (J_41 164 9) m (a_41).1.1 (by omega) (by rw [bo_41 175 rfl, f_26 175 rfl]; exact g_21) (NR.of (J := J_21) (r_26 (by omega)) (by rw [bo_41 166 rfl, f_26 166 rfl]) (by rw [bo_41 167 rfl, f_26 167 rfl]) (by rw [bo_41 170 rfl, f_26 170 rfl]) (by rw [bo_41 175 rfl, f_26 175 rfl]))) vl_X12_158 dX12_close_48 o_164 rfl rfl (Nat.le_of_ble_eq_true rfl) ⟨(Nat.le_of_ble_eq_true rfl), (Nat.le_of_ble_eq_true rfl)⟩ rfl rfl (Nat.le_of_ble_eq_true rfl) (Nat.le_of_ble_eq_true rfl) (fun r9 J_48 hq9 => ?_)
      obtain ⟨z_48, rfl, hz_48, m_48, g_48, h_48⟩ := hq9
      have a_48 := AM.grow0 a_41 g_48 (fun c hc => by simp at hc) (fun k x y => by simp; omega) rfl
      have lm_48 := a_48.1.2.2
      refine tz_cV (pc := 51) (m_keeps hl n _ _ (by omega) (a_48).2.2.2.1.1.1 (a_48).2.2.2.1.1.2) vl_X12_403 dX12_close_51 o_164 rfl rfl (Nat.le_of_ble_eq_true rfl) ⟨(Nat.le_of_ble_eq_true rfl), (Nat.le_of_ble_eq_true rfl)⟩ rfl rfl (Nat.le_of_ble_eq_true rfl) (Nat.le_of_ble_eq_true rfl) (fun r9 J_51 hq9 => ?_)
      obtain ⟨z_51, rfl, hz_51, k_51⟩ := hq9
      exact tz_iret (pc := 54) (z := z_51) dX12_close_54 rfl (Nat.le_of_ble_eq_true rfl) (Nat.le_of_ble_eq_true rfl) ⟨Nat.le_refl _, Nat.le_add_right _ _⟩ ⟨_, rfl, (by omega), AM.keep a_48 k_51⟩
    · refine tz_aload_n (pc := 32) dX12_close_32 rfl rfl ?_
      refine tz_iconst (pc := 33) dX12_close_33 ?_
      refine tz_bipush (pc := 34) dX12_close_34 (by decide) ?_
      refine tz_cV (pc := 36) (m_refuses hl n _ _ _ (by decide) (by decide) (by decide)) vl_X12_391 dX12_close_36 o_164 rfl rfl (Nat.le_of_ble_eq_true rfl) ⟨(Nat.le_of_ble_eq_true rfl), (Nat.le_of_ble_eq_true rfl)⟩ rfl rfl (Nat.le_of_ble_eq_true rfl) (Nat.le_of_ble_eq_true rfl) (fun r9 J_36 hq9 => ?_)
      obtain ⟨z_36, rfl, hz_36, e_36, f_36⟩ := hq9
      have y_36 : MZ J_36 J := MZ.tr y_26 (MZ.c f_36 (by decide))
      exact tz_iret (pc := 39) (z := z_36) dX12_close_39 rfl (Nat.le_of_ble_eq_true rfl) (Nat.le_of_ble_eq_true rfl) ⟨Nat.le_refl _, Nat.le_add_right _ _⟩ ⟨_, rfl, (by omega), MQr.z hI y_36⟩
  · refine tz_aload_n (pc := 13) dX12_close_13 rfl rfl ?_
    refine tz_iconst (pc := 14) dX12_close_14 ?_
    refine tz_iconst (pc := 15) dX12_close_15 ?_
    refine tz_cV (pc := 16) (m_refuses hl n _ _ _ (by decide) (by decide) (by decide)) vl_X12_391 dX12_close_16 o_164 rfl rfl (Nat.le_of_ble_eq_true rfl) ⟨(Nat.le_of_ble_eq_true rfl), (Nat.le_of_ble_eq_true rfl)⟩ rfl rfl (Nat.le_of_ble_eq_true rfl) (Nat.le_of_ble_eq_true rfl) (fun r9 J_16 hq9 => ?_)
    obtain ⟨z_16, rfl, hz_16, e_16, f_16⟩ := hq9
    have y_16 : MZ J_16 J := MZ.tr (MZ.up (k := 8) MZ.rf (by decide)) (MZ.c f_16 (by decide))
    exact tz_iret (pc := 19) (z := z_16) dX12_close_19 rfl (Nat.le_of_ble_eq_true rfl) (Nat.le_of_ble_eq_true rfl) ⟨Nat.le_refl _, Nat.le_add_right _ _⟩ ⟨_, rfl, (by omega), MQr.z hI y_16⟩

