/-! ===== the class follows the reading: terms ===== -/
theorem XC.z {J g : zJ} (h : XC J g) (h9 : g 0 4 = 0) : J 163 8 = 0 := (h.resolve_left (by omega)).1.trans h9
theorem pMx_f {g : zJ} {h x y w : Int} (q : ¬ g 0 4 = 0) : pMx g h x y w = (g, 0) := by unfold pMx; rw [if_neg q]
theorem pA_0 {T : zJ → Int → zJ × Int} (hF : ∀ g d, ¬ g 0 4 = 0 → T g d = (g, 0)) {g : zJ} {B d : Int} (h : (pA4 T g B d) 0 4 = 0) : (pA3 T g B d).1 0 4 = 0 ∧ (pA2 T g B d).1 0 4 = 0 ∧ (pA1 T g B d).1 0 4 = 0 := by
  have k : ∀ (u : zJ) (c e : Int), (T (pP u c) e).1 0 4 = 0 → u 0 4 = 0 := fun u c e q => Classical.byContradiction (fun p => by
    rw [pP_f p, hF u e p] at q
    exact p q)
  have h3 : (pA3 T g B d).1 0 4 = 0 := by
    unfold pA4 at h
    split at h
    · exact Classical.byContradiction (fun p => by rw [pP_f p] at h; exact p h)
    · exact h
  have h2 : (pA2 T g B d).1 0 4 = 0 := by
    unfold pA3 at h3
    split at h3
    · exact k _ _ _ h3
    · exact h3
  refine ⟨h3, h2, ?_⟩
  unfold pA2 at h2
  split at h2
  · exact k _ _ _ h2
  · exact h2
set_option maxHeartbeats 4000000 in
set_option maxRecDepth 100000 in
theorem w_readVar {l : Launch} {G : tb_G} (hl : l.stackTraces = false) (n : Nat) (J : zJ)   (m : Int) (g : zJ) (C : CT J m) (hm : J 6 12 = m) (hD : RD2 J) (hX : XC J g) (hS : SI g) (h9 : g 0 4 = 0) : tz_Ok l G M_X5_readVariable 4 0 0 [.ref 163] n J (zqi (fun z J' => ∃ m', RT J' J m m' ∧ (J' 163 8 = 0 → 0 ≤ z ∧ z < m') ∧ XC J' (pV g).1 ∧ VQ z (pV g))) zN := by
  refine tz_Ok.of hl (by decide +kernel) rfl (tb_c1 rfl) (Nat.le_of_ble_eq_true rfl) ?_
  show tz_At l G M_X5_readVariable (tb_rm 4 0 0) none (tb_ZM G 0 0 (zQ n 0 (zqi (fun z J' => ∃ m', RT J' J m m' ∧ (J' 163 8 = 0 → 0 ≤ z ∧ z < m') ∧ XC J' (pV g).1 ∧ VQ z (pV g)))) (zX n 0 zN)) 0 0 n J 0 [some (.ref 163), none] []
  have g0 : RT J J m m := RT.rf C hm hD
  have hb := C.told
  have h8 := hX.z h9
  have nx9 : pNx g = pN g := by unfold pNx; rw [if_pos h9]
  refine tz_aload_n (pc := 0) dX5_readVariable_0 rfl rfl ?_
  have b_1 := (g0).2.1
  obtain ⟨⟨⟨b1_1, b2_1⟩, b3_1, b4_1⟩, b5_1⟩ := id b_1
  refine tz_cV (pc := 1) (w_next hl n _ g b_1 hX (by omega)) vl_X5_65 dX5_readVariable_1 o_163 rfl rfl (Nat.le_of_ble_eq_true rfl) ⟨(Nat.le_of_ble_eq_true rfl), (Nat.le_of_ble_eq_true rfl)⟩ rfl rfl (Nat.le_of_ble_eq_true rfl) (Nat.le_of_ble_eq_true rfl) (fun r9 J_1 hq9 => ?_)
  obtain ⟨rfl, g_1, d_1, v_1, x_1⟩ := hq9
  have q_1 := RT.rn g0 g_1 d_1
  have f_1 := g_1.2.2
  refine tz_aload_n (pc := 4) dX5_readVariable_4 rfl rfl ?_
  refine tz_iconst (pc := 5) dX5_readVariable_5 ?_
  refine tz_bipush (pc := 6) dX5_readVariable_6 (by decide) ?_
  have b_8 := (q_1).2.1
  obtain ⟨⟨⟨b1_8, b2_8⟩, b3_8, b4_8⟩, b5_8⟩ := id b_8
  refine tz_cV (pc := 8) (w_readNum hl n _ _ _ (by decide) (by decide) (pNx g) b_8 x_1 (SI.nx hS) (Or.inl rfl) (by decide)) vl_X5_128 dX5_readVariable_8 o_163 rfl rfl (Nat.le_of_ble_eq_true rfl) ⟨(Nat.le_of_ble_eq_true rfl), (Nat.le_of_ble_eq_true rfl)⟩ rfl rfl (Nat.le_of_ble_eq_true rfl) (Nat.le_of_ble_eq_true rfl) (fun r9 J_8 hq9 => ?_)
  obtain ⟨z_8, rfl, hz_8, g_8, d_8, u_8, x_8, y_8⟩ := hq9
  have q_8 := RT.rn q_1 g_8 d_8
  have f_8 := g_8.2.2
  refine tz_istore_n (pc := 11) (L2 := [_, _]) dX5_readVariable_11 rfl (by decide) rfl ?_
  refine tz_aload_n (pc := 12) dX5_readVariable_12 rfl rfl ?_
  refine tz_fI (pc := 13) (kz := 8) (v := (J_8 163 8)) dX5_readVariable_13 fl_X5_24 i_163_8 rfl rfl (fun r_13 => ?_)
  refine tz_if_ne (pc := 16) (tgt := 37) dX5_readVariable_16 (by decide) (by omega) (fun h_16 => ?_) (fun h_16 => ?_)
  · refine tz_iconst (pc := 37) dX5_readVariable_37 ?_
    exact tz_iret (pc := 38) (z := (-1)) dX5_readVariable_38 rfl (Nat.le_of_ble_eq_true rfl) (Nat.le_of_ble_eq_true rfl) ⟨Nat.le_refl _, Nat.le_add_right _ _⟩ ⟨_, rfl, (by decide), (by have e : pV g = ((pU (pNx g) 0 7).1, 0) := (by rw [pV_x, ← nx9]; exact pMx_f (XC.no x_8 (by omega))); rw [e]; exact ⟨m, q_8, fun k => by omega, x_8, fun k => absurd k (XC.no x_8 (by omega))⟩)⟩
  · refine tz_aload_n (pc := 19) dX5_readVariable_19 rfl rfl ?_
    refine tz_aload_n (pc := 20) dX5_readVariable_20 rfl rfl ?_
    refine tz_fR (pc := 21) dX5_readVariable_21 fl_X5_38 r_163_1 ?_
    refine tz_fR (pc := 24) dX5_readVariable_24 fl_X5_42 r_5_0 ?_
    refine tz_iload_n (pc := 27) dX5_readVariable_27 rfl rfl ?_
    have t_28 := (q_8).1.2.1.told
    have r_28 : arh (J_8 3) (-1 - z_8) = 0 := if_pos (by omega)
    refine tz_cV (pc := 28) (c_varTerm hl n _ _ (by omega) m (q_8).1.2.1 (q_8).1.2.2.1 (by omega)) vl_X5_177 dX5_readVariable_28 o_6 rfl rfl (Nat.le_of_ble_eq_true rfl) ⟨(Nat.le_of_ble_eq_true rfl), (Nat.le_of_ble_eq_true rfl)⟩ rfl rfl (Nat.le_of_ble_eq_true rfl) (Nat.le_of_ble_eq_true rfl) (fun r9 J_28 hq9 => ?_)
    obtain ⟨z_28, rfl, hz_28, p_28⟩ := hq9
    obtain ⟨m_28, y_28, h_28⟩ := GR.made p_28 (by omega)
    have q_28 := RT.made q_8 y_28
    have x_28 := XC.made (x := 0) (y := 0) (w := 0) x_8 (by omega) (q_8).1.2.1 (q_8).1.2.2.1 (by omega) (fun _ => ⟨fun k => by omega, fun k => by omega, fun k => by omega⟩) ⟨fun k => by omega, fun k => by omega, fun k => by omega⟩ p_28
    refine tz_cV (pc := 31) (w_held hl n _ _ (by omega) _ x_28.1 x_28.2.2) vl_X5_180 dX5_readVariable_31 o_163 rfl rfl (Nat.le_of_ble_eq_true rfl) ⟨(Nat.le_of_ble_eq_true rfl), (Nat.le_of_ble_eq_true rfl)⟩ rfl rfl (Nat.le_of_ble_eq_true rfl) (Nat.le_of_ble_eq_true rfl) (fun r9 J_31 hq9 => ?_)
    obtain ⟨z_31, rfl, hz_31, g_31, d_31, u_31, x_31, o_31⟩ := hq9
    have q_31 := RT.rn q_28 g_31 (d_31 (q_28).2.1)
    refine tz_goto (pc := 34) (tgt := 38) dX5_readVariable_34 (by decide) ?_
    exact tz_iret (pc := 38) (z := z_31) dX5_readVariable_38 rfl (Nat.le_of_ble_eq_true rfl) (Nat.le_of_ble_eq_true rfl) ⟨Nat.le_refl _, Nat.le_add_right _ _⟩ ⟨_, rfl, (by omega), (by have e : pV g = pMx (pU (pNx g) 0 7).1 (-1 - z_8) 0 0 0 := (by rw [pV_x, ← nx9]; exact (pMx_h (fun k => by rw [y_8 k])).symm); rw [e]; exact ⟨m_28, q_31, fun k => by have := u_31 k; omega, x_31, fun k => by have a := x_28.2.1 k; rcases (show z_28 < 0 ∨ 0 ≤ z_28 by omega) with b | b; (have := x_28.2.2 b; omega); exact (o_31 b).trans a⟩)⟩

