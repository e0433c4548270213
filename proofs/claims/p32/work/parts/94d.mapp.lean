section
/-! ===== appliedBy of the reference, exact ===== -/
theorem mst {T : zJ → Int → zJ × Int} {J1 J0 : zJ} {t A i z : Int} (h : 0 ≤ 3 * (0 + t) + i ∧ 3 * (0 + t) + i < 1200) (a : (i < A ∧ (tb0 J1, z) = T (tb0 J0) (J0 167 (3 * (0 + t) + i))) ∨ (¬ i < A ∧ J1 = J0 ∧ z = 0)) : apA T (tb0 J0) t A i = (tb0 J1, z) := by
  unfold apA
  rcases a with ⟨p, q⟩ | ⟨p, q, r⟩
  · rw [if_pos p, tb0_7, if_pos h, q]
  · rw [if_neg p, q, r]
theorem mp_end {T : zJ → Int → zJ × Int} {J J0 J1 J2 J' : zJ} {s m t z0 z1 z2 z : Int} (hM : MS J 0 0 0 s m) (ht : 0 ≤ t ∧ t < m) (a0 : (0 < mar J 0 0 t ∧ (tb0 J0, z0) = T (tb0 J) (J 167 (3 * (0 + t) + 0))) ∨ (¬ 0 < mar J 0 0 t ∧ J0 = J ∧ z0 = 0)) (a1 : (1 < mar J 0 0 t ∧ (tb0 J1, z1) = T (tb0 J0) (J0 167 (3 * (0 + t) + 1))) ∨ (¬ 1 < mar J 0 0 t ∧ J1 = J0 ∧ z1 = 0)) (a2 : (2 < mar J 0 0 t ∧ (tb0 J2, z2) = T (tb0 J1) (J1 167 (3 * (0 + t) + 2))) ∨ (¬ 2 < mar J 0 0 t ∧ J2 = J1 ∧ z2 = 0)) (p : (tb0 J', z) = tmO (tb0 J2) (J 166 (0 + t)) z0 z1 z2) : (tb0 J', z) = apR T (tb0 J) t := by
  have hT := hM.told
  have h6 : tb0 J 166 (0 + t) = J 166 (0 + t) := by rw [tb0_6, if_pos (by omega)]
  have hd := (hM.ar ht).2.1
  have eA : oar (tb0 J) (tb0 J 166 (0 + t)) = mar J 0 0 t := by
    rw [h6]
    unfold mar oar
    exact arh_cg (fun q => by rw [tb0_0, if_pos (by omega)])
  have e0 : ap0 T (tb0 J) t = (tb0 J0, z0) := by unfold ap0; rw [eA]; exact mst (by omega) a0
  have e1 : ap1 T (tb0 J) t = (tb0 J1, z1) := by unfold ap1; rw [eA, e0]; exact mst (by omega) a1
  have e2 : ap2 T (tb0 J) t = (tb0 J2, z2) := by unfold ap2; rw [eA, e1]; exact mst (by omega) a2
  unfold apR
  rw [e0, e1, e2, h6]
  exact p
set_option maxHeartbeats 4000000 in
set_option maxRecDepth 100000 in
theorem o_remade {l : Launch} {G : tb_G} (hl : l.stackTraces = false) (n : Nat) (J : zJ) (t : Int) (x : Int) (y : Int) (w : Int) (hr_t : -2147483648 ≤ t ∧ t < 2147483648) (hr_x : -2147483648 ≤ x ∧ x < 2147483648) (hr_y : -2147483648 ≤ y ∧ y < 2147483648) (hr_w : -2147483648 ≤ w ∧ w < 2147483648) (s m : Int) (hM : MS J 0 0 0 s m) (hs : J 164 9 = s) (ht : 0 ≤ t ∧ t < m) (hg : J 164 21 = 0 → (0 < mar J 0 0 t → 0 ≤ x ∧ x < m) ∧ (1 < mar J 0 0 t → 0 ≤ y ∧ y < m) ∧ (2 < mar J 0 0 t → 0 ≤ w ∧ w < m)) : tz_Ok l G M_X12_remade 3 0 0 [.ref 164, zi t, zi x, zi y, zi w] n J (zqi (fun z J' => ∃ m', MG [] [] (fun _ => false) J' J 0 0 0 s m m' ∧ (J' 164 21 = 0 → 0 ≤ z ∧ z < m') ∧ (tb0 J', z) = tmO (tb0 J) (J 166 (0 + t)) x y w)) zN := by
  refine tz_Ok.of hl (by decide +kernel) rfl (tb_c1 rfl) (Nat.le_of_ble_eq_true rfl) ?_
  show tz_At l G M_X12_remade (tb_rm 3 0 0) none (tb_ZM G 0 0 (zQ n 0 (zqi (fun z J' => ∃ m', MG [] [] (fun _ => false) J' J 0 0 0 s m m' ∧ (J' 164 21 = 0 → 0 ≤ z ∧ z < m') ∧ (tb0 J', z) = tmO (tb0 J) (J 166 (0 + t)) x y w))) (zX n 0 zN)) 0 0 n J 0 [some (.ref 164), some (zi t), some (zi x), some (zi y), some (zi w)] []
  have hT := hM.told
  have ha := hM.ar ht
  refine tz_aload_n (pc := 0) dX12_remade_0 rfl rfl ?_
  refine tz_aload_n (pc := 1) dX12_remade_1 rfl rfl ?_
  refine tz_iload_n (pc := 2) dX12_remade_2 rfl rfl ?_
  refine tz_cV (pc := 3) (m_head hl n _ _ (by omega) 0 0 0 s m hM (by omega)) vl_X12_74 dX12_remade_3 o_164 rfl rfl (Nat.le_of_ble_eq_true rfl) ⟨(Nat.le_of_ble_eq_true rfl), (Nat.le_of_ble_eq_true rfl)⟩ rfl rfl (Nat.le_of_ble_eq_true rfl) (Nat.le_of_ble_eq_true rfl) (fun r9 J_3 hq9 => ?_)
  obtain ⟨z_3, rfl, hz_3, rfl, rfl⟩ := hq9
  refine tz_iload_n (pc := 6) dX12_remade_6 rfl rfl ?_
  refine tz_iload_n (pc := 7) dX12_remade_7 rfl rfl ?_
  refine tz_iload (pc := 8) dX12_remade_8 rfl ?_
  refine tz_cV (pc := 10) (o_termOf hl n _ _ _ _ _ (by omega) (by omega) (by omega) (by omega) s m hM hs (by omega) hg) vl_X12_107 dX12_remade_10 o_164 rfl rfl (Nat.le_of_ble_eq_true rfl) ⟨(Nat.le_of_ble_eq_true rfl), (Nat.le_of_ble_eq_true rfl)⟩ rfl rfl (Nat.le_of_ble_eq_true rfl) (Nat.le_of_ble_eq_true rfl) (fun r9 J_10 hq9 => ?_)
  obtain ⟨z_10, rfl, hz_10, e1, m1, g1, h1⟩ := hq9
  exact tz_iret (pc := 13) (z := z_10) dX12_remade_13 rfl (Nat.le_of_ble_eq_true rfl) (Nat.le_of_ble_eq_true rfl) ⟨Nat.le_refl _, Nat.le_add_right _ _⟩ ⟨_, rfl, (by omega), ⟨m1, g1, h1, Prod.ext e1.1 e1.2⟩⟩

theorem op_c {β : Int → Int} {J J' : zJ} {s m t z : Int} {k : Nat} (hM : MS J 0 0 0 s m) (ht : 0 ≤ t ∧ t < m) (hv : ¬ J 166 (0 + t) < 0) (hk : J 168 (0 + t) ≤ k) (e : ∀ k9 : Nat, k = k9 + 1 → (tb0 J', z) = apR (apO β k9) (tb0 J) t) (h21 : J 164 21 = 0) : (tb0 J', z) = apO β k (tb0 J) t := by
  have hT := hM.told
  have dp := (hM.ar ht).2.2.1
  obtain ⟨k9, rfl⟩ : ∃ k9, k = k9 + 1 := ⟨k - 1, by omega⟩
  have h6 : tb0 J 166 (0 + t) = J 166 (0 + t) := by rw [tb0_6, if_pos (by omega)]
  rw [apO_s, if_pos (show tb0 J 164 21 = 0 from h21), h6, if_neg hv]
  exact e k9 rfl
theorem op_v {β f : Int → Int} {J : zJ} {s m t z : Int} {k : Nat} (hM : MS J 0 0 0 s m) (ht : 0 ≤ t ∧ t < m) (hβ : ∀ v, 0 ≤ v → v < 8 → β v = f v) (hk : J 168 (0 + t) ≤ k) (e : (¬ J 164 21 = 0 ∧ z = 0) ∨ (J 164 21 = 0 ∧ J 166 (0 + t) < 0 ∧ ((f (-1 - J 166 (0 + t)) = -1 ∧ z = t) ∨ (¬ f (-1 - J 166 (0 + t)) = -1 ∧ z = f (-1 - J 166 (0 + t)))))) : (tb0 J, z) = apO β k (tb0 J) t := by
  have hT := hM.told
  have dp := (hM.ar ht).2.2.1
  have hd := (hM.ar ht).2.1
  obtain ⟨k9, rfl⟩ : ∃ k9, k = k9 + 1 := ⟨k - 1, by omega⟩
  rw [apO_s]
  rcases e with ⟨a, b⟩ | ⟨a, b, c⟩
  · rw [if_neg (show ¬ tb0 J 164 21 = 0 from a), b]
  · have h6 : tb0 J 166 (0 + t) = J 166 (0 + t) := by rw [tb0_6, if_pos (by omega)]
    rw [if_pos (show tb0 J 164 21 = 0 from a), h6, if_pos b, hβ _ (by omega) (by omega)]
    rcases c with ⟨c, d⟩ | ⟨c, d⟩
    · rw [if_pos c, d]
    · rw [if_neg c, d]
set_option maxHeartbeats 4000000 in
set_option maxRecDepth 100000 in
theorem o_appBR {l : Launch} {G : tb_G} (hl : l.stackTraces = false) (n : Nat) : ∀ (r9 : Nat) (J : zJ) (t : Int) (hr_t : -2147483648 ≤ t ∧ t < 2147483648) (s m : Int) (hM : MS J 0 0 0 s m) (hs : J 164 9 = s) (ht : 0 ≤ t ∧ t < m) (hy : gOK (J 175) m), ((J 168 (0 + t)).toNat) < r9 → tz_Ok l G M_X12_appliedBy (4 + 1 * r9) 0 0 [.ref 164, zi t, .ref 175] n J (zqi (fun z J' => ∃ m', MG [] [] (fun _ => false) J' J 0 0 0 s m m' ∧ (J' 164 21 = 0 → 0 ≤ z ∧ z < m') ∧ ∀ (k : Nat) (β : Int → Int), (∀ v, 0 ≤ v → v < 8 → β v = J 175 v) → J 168 (0 + t) ≤ k → (tb0 J', z) = apO β k (tb0 J) t)) zN := by
  intro r9
  induction r9 with
  | zero => intro J t hr_t s m hM hs ht hy hm9; exact absurd hm9 (Nat.not_lt_zero _)
  | succ r9 ih =>
    intro J t hr_t s m hM hs ht hy hm9
    refine tz_Ok.of hl (by decide +kernel) rfl (tb_c1 rfl) (Nat.le_of_ble_eq_true rfl) ?_
    show tz_At l G M_X12_appliedBy (tb_rm (4 + 1 * (r9 + 1)) 0 0) none (tb_ZM G 0 0 (zQ n 0 (zqi (fun z J' => ∃ m', MG [] [] (fun _ => false) J' J 0 0 0 s m m' ∧ (J' 164 21 = 0 → 0 ≤ z ∧ z < m') ∧ ∀ (k : Nat) (β : Int → Int), (∀ v, 0 ≤ v → v < 8 → β v = J 175 v) → J 168 (0 + t) ≤ k → (tb0 J', z) = apO β k (tb0 J) t))) (zX n 0 zN)) 0 0 n J 0 [some (.ref 164), some (zi t), some (.ref 175), none, none, none, none] []
    have hT := hM.told
    have ha := hM.ar ht
    have g0 : MG [] [] (fun _ => false) J J 0 0 0 s m m := MG.rf hM
    refine tz_aload_n (pc := 0) dX12_appliedBy_0 rfl rfl ?_
    refine tz_fI (pc := 1) (kz := 21) (v := (J 164 21)) dX12_appliedBy_1 fl_X12_92 i_164_21 rfl rfl (fun r_1 => ?_)
    refine tz_if_eq (pc := 4) (tgt := 9) dX12_appliedBy_4 (by decide) (by omega) (fun h_4 => ?_) (fun h_4 => ?_)
    · refine tz_aload_n (pc := 9) dX12_appliedBy_9 rfl rfl ?_
      refine tz_iload_n (pc := 10) dX12_appliedBy_10 rfl rfl ?_
      refine tz_cV (pc := 11) (m_isVar hl n _ _ (by omega) 0 0 0 s m hM (by omega)) vl_X12_78 dX12_appliedBy_11 o_164 rfl rfl (Nat.le_of_ble_eq_true rfl) ⟨(show 1 + 1 ≤ 4 + 1 * (r9 + 1) by omega), (show 8 + (2 + 11) + 40 * (1) ≤ 40 * (4 + 1 * (r9 + 1)) by omega)⟩ rfl rfl (Nat.le_of_ble_eq_true rfl) (Nat.le_of_ble_eq_true rfl) (fun r9 J_11 hq9 => ?_)
      obtain ⟨z_11, rfl, hz_11, rfl, rfl⟩ := hq9
      by_cases hw_14 : J 166 (0 + t) < 0
      · rw [show (if J 166 (0 + t) < 0 then 1 else 0 : Int) = 1 from if_pos hw_14]
        refine tz_if_eqF (pc := 14) (tgt := 40) (by decide) dX12_appliedBy_14 (by decide) (by decide) ?_
        refine tz_aload_n (pc := 17) dX12_appliedBy_17 rfl rfl ?_
        refine tz_aload_n (pc := 18) dX12_appliedBy_18 rfl rfl ?_
        refine tz_iload_n (pc := 19) dX12_appliedBy_19 rfl rfl ?_
        refine tz_cV (pc := 20) (m_varOf hl n _ _ (by omega) 0 0 0 s m hM (by omega)) vl_X12_123 dX12_appliedBy_20 o_164 rfl rfl (Nat.le_of_ble_eq_true rfl) ⟨(show 1 + 1 ≤ 4 + 1 * (r9 + 1) by omega), (show 8 + (2 + 11) + 40 * (1) ≤ 40 * (4 + 1 * (r9 + 1)) by omega)⟩ rfl rfl (Nat.le_of_ble_eq_true rfl) (Nat.le_of_ble_eq_true rfl) (fun r9 J_20 hq9 => ?_)
        obtain ⟨z_20, rfl, hz_20, rfl, rfl⟩ := hq9
        have hv9 := hy (-1 - J 166 (0 + t)) (by omega) (by omega)
        refine tz_aL (pc := 23) (z := (-1 - J 166 (0 + t))) (v := (J 175 (-1 - J 166 (0 + t)))) dX12_appliedBy_23 a_175 rfl (by omega) rfl (fun r_23 => ?_)
        refine tz_iconst (pc := 24) dX12_appliedBy_24 ?_
        refine tz_icmp_ne (pc := 25) (tgt := 32) dX12_appliedBy_25 (by decide) (by omega) (by decide) (fun h_25 => ?_) (fun h_25 => ?_)
        · refine tz_aload_n (pc := 32) dX12_appliedBy_32 rfl rfl ?_
          refine tz_aload_n (pc := 33) dX12_appliedBy_33 rfl rfl ?_
          refine tz_iload_n (pc := 34) dX12_appliedBy_34 rfl rfl ?_
          refine tz_cV (pc := 35) (m_varOf hl n _ _ (by omega) 0 0 0 s m hM (by omega)) vl_X12_123 dX12_appliedBy_35 o_164 rfl rfl (Nat.le_of_ble_eq_true rfl) ⟨(show 1 + 1 ≤ 4 + 1 * (r9 + 1) by omega), (show 8 + (2 + 11) + 40 * (1) ≤ 40 * (4 + 1 * (r9 + 1)) by omega)⟩ rfl rfl (Nat.le_of_ble_eq_true rfl) (Nat.le_of_ble_eq_true rfl) (fun r9 J_35 hq9 => ?_)
          obtain ⟨z_35, rfl, hz_35, rfl, rfl⟩ := hq9
          refine tz_aL (pc := 38) (z := (-1 - J 166 (0 + t))) (v := (J 175 (-1 - J 166 (0 + t)))) dX12_appliedBy_38 a_175 rfl (by omega) rfl (fun r_38 => ?_)
          exact tz_iret (pc := 39) (z := (J 175 (-1 - J 166 (0 + t)))) dX12_appliedBy_39 rfl (Nat.le_of_ble_eq_true rfl) (Nat.le_of_ble_eq_true rfl) ⟨Nat.le_refl _, Nat.le_add_right _ _⟩ ⟨_, rfl, (by omega), ⟨m, g0, fun q9 => by omega, fun k β hβ hk => op_v hM ht hβ hk (by omega)⟩⟩
        · refine tz_iload_n (pc := 28) dX12_appliedBy_28 rfl rfl ?_
          refine tz_goto (pc := 29) (tgt := 39) dX12_appliedBy_29 (by decide) ?_
          exact tz_iret (pc := 39) (z := t) dX12_appliedBy_39 rfl (Nat.le_of_ble_eq_true rfl) (Nat.le_of_ble_eq_true rfl) ⟨Nat.le_refl _, Nat.le_add_right _ _⟩ ⟨_, rfl, (by omega), ⟨m, g0, fun q9 => by omega, fun k β hβ hk => op_v hM ht hβ hk (by omega)⟩⟩
      · rw [show (if J 166 (0 + t) < 0 then 1 else 0 : Int) = 0 from if_neg hw_14]
        refine tz_if_eqT (pc := 14) (tgt := 40) (by decide) dX12_appliedBy_14 (by decide) (by decide) ?_
        refine tz_aload_n (pc := 40) dX12_appliedBy_40 rfl rfl ?_
        refine tz_iload_n (pc := 41) dX12_appliedBy_41 rfl rfl ?_
        refine tz_cV (pc := 42) (m_arity hl n _ _ (by omega) 0 0 0 s m hM (by omega)) vl_X12_111 dX12_appliedBy_42 o_164 rfl rfl (Nat.le_of_ble_eq_true rfl) ⟨(show 2 + 1 ≤ 4 + 1 * (r9 + 1) by omega), (show 8 + (2 + 11) + 40 * (2) ≤ 40 * (4 + 1 * (r9 + 1)) by omega)⟩ rfl rfl (Nat.le_of_ble_eq_true rfl) (Nat.le_of_ble_eq_true rfl) (fun r9 J_42 hq9 => ?_)
        obtain ⟨z_42, rfl, hz_42, rfl, rfl⟩ := hq9
        refine tz_istore_n (pc := 45) (L2 := [_, _, _, _, _, _, _]) dX12_appliedBy_45 rfl (by decide) rfl ?_
        refine tz_iload_n (pc := 46) dX12_appliedBy_46 rfl rfl ?_
        refine tz_if_le (pc := 47) (tgt := 64) dX12_appliedBy_47 (by decide) (by omega) (fun h_47 => ?_) (fun h_47 => ?_)
        · refine tz_iconst (pc := 64) dX12_appliedBy_64 ?_
          refine tz_istore (pc := 65) (L2 := [_, _, _, _, _, _, _]) dX12_appliedBy_65 (by decide) rfl ?_
          refine tz_iload_n (pc := 67) dX12_appliedBy_67 rfl rfl ?_
          refine tz_iconst (pc := 68) dX12_appliedBy_68 ?_
          refine tz_icmp_le (pc := 69) (tgt := 86) dX12_appliedBy_69 (by decide) (by omega) (by decide) (fun h_69 => ?_) (fun h_69 => ?_)
          · refine tz_iconst (pc := 86) dX12_appliedBy_86 ?_
            refine tz_istore (pc := 87) (L2 := [_, _, _, _, _, _, _]) dX12_appliedBy_87 (by decide) rfl ?_
            refine tz_iload_n (pc := 89) dX12_appliedBy_89 rfl rfl ?_
            refine tz_iconst (pc := 90) dX12_appliedBy_90 ?_
            refine tz_icmp_le (pc := 91) (tgt := 108) dX12_appliedBy_91 (by decide) (by omega) (by decide) (fun h_91 => ?_) (fun h_91 => ?_)
            · refine tz_iconst (pc := 108) dX12_appliedBy_108 ?_
              refine tz_istore (pc := 109) (L2 := [_, _, _, _, _, _, _]) dX12_appliedBy_109 (by decide) rfl ?_
              refine tz_aload_n (pc := 111) dX12_appliedBy_111 rfl rfl ?_
              refine tz_iload_n (pc := 112) dX12_appliedBy_112 rfl rfl ?_
              refine tz_iload (pc := 113) dX12_appliedBy_113 rfl ?_
              refine tz_iload (pc := 115) dX12_appliedBy_115 rfl ?_
              refine tz_iload (pc := 117) dX12_appliedBy_117 rfl ?_
              have l0_119 := (g0).1.2
              have t0_119 := (g0).1.1.told
              refine tz_cV (pc := 119) (o_remade hl n _ _ _ _ _ (by omega) (by omega) (by omega) (by omega) s m (g0).1.1 (((g0).2.2.1.2.2.1 9 rfl).trans hs) (by omega) (fun q9 => by have e9 := (g0).ar ht ((g0).2.2.1.2.2.2 170 rfl); rw [e9]; omega)) vl_X12_152 dX12_appliedBy_119 o_164 rfl rfl (Nat.le_of_ble_eq_true rfl) ⟨(show 3 + 1 ≤ 4 + 1 * (r9 + 1) by omega), (show 8 + (5 + 11) + 40 * (3) ≤ 40 * (4 + 1 * (r9 + 1)) by omega)⟩ rfl rfl (Nat.le_of_ble_eq_true rfl) (Nat.le_of_ble_eq_true rfl) (fun r9 J_119 hq9 => ?_)
              obtain ⟨z_119, rfl, hz_119, m_119, g_119, h_119, x_119⟩ := hq9
              have q_119 := MG.tr g0 g_119
              have f_119 := g_119.2.2.2
              have l_119 := g_119.1.2
              exact tz_iret (pc := 122) (z := z_119) dX12_appliedBy_122 rfl (Nat.le_of_ble_eq_true rfl) (Nat.le_of_ble_eq_true rfl) ⟨Nat.le_refl _, Nat.le_add_right _ _⟩ ⟨_, rfl, (by omega), ⟨m_119, q_119, h_119, fun k β hβ hk => op_c hM ht (by omega) hk (fun k9 hk9 => mp_end (T := apO β k9) hM ht (Or.inr ⟨by omega, rfl, rfl⟩) (Or.inr ⟨by omega, rfl, rfl⟩) (Or.inr ⟨by omega, rfl, rfl⟩) (by have e7 := x_119; rw [show J 166 (0 + t) = J 166 (0 + t) from rfl] at e7; exact e7)) (by omega)⟩⟩
            · refine tz_aload_n (pc := 94) dX12_appliedBy_94 rfl rfl ?_
              refine tz_aload_n (pc := 95) dX12_appliedBy_95 rfl rfl ?_
              refine tz_iload_n (pc := 96) dX12_appliedBy_96 rfl rfl ?_
              refine tz_iconst (pc := 97) dX12_appliedBy_97 ?_
              refine tz_cV (pc := 98) (m_arg hl n _ _ _ (by omega) (by decide) 0 0 0 s m hM (by omega) (by omega)) vl_X12_88 dX12_appliedBy_98 o_164 rfl rfl (Nat.le_of_ble_eq_true rfl) ⟨(show 0 + 1 ≤ 4 + 1 * (r9 + 1) by omega), (show 8 + (3 + 11) + 40 * (0) ≤ 40 * (4 + 1 * (r9 + 1)) by omega)⟩ rfl rfl (Nat.le_of_ble_eq_true rfl) (Nat.le_of_ble_eq_true rfl) (fun r9 J_98 hq9 => ?_)
              obtain ⟨z_98, rfl, hz_98, rfl, rfl⟩ := hq9
              refine tz_aload_n (pc := 101) dX12_appliedBy_101 rfl rfl ?_
              have l0_102 := (g0).1.2
              have t0_102 := (g0).1.1.told
              have a_102 := hM.arg (t := t) (i := 2) ht (by omega)
              refine tz_cV (pc := 102) (ih _ _ (by omega) s m (g0).1.1 (((g0).2.2.1.2.2.1 9 rfl).trans hs) (by omega) (fun v x9 y9 => by have := hy v x9 y9; rw [(g0).2.2.1.2.2.2 175 rfl]; omega) (by rw [((g0).2.1 _ (by omega) (by omega)).1.2]; omega)) vl_X12_148 dX12_appliedBy_102 o_164 rfl rfl (Nat.le_of_ble_eq_true rfl) ⟨(show (4 + 1 * r9) + 1 ≤ 4 + 1 * (r9 + 1) by omega), (show 8 + (7 + 11) + 40 * ((4 + 1 * r9)) ≤ 40 * (4 + 1 * (r9 + 1)) by omega)⟩ rfl rfl (Nat.le_of_ble_eq_true rfl) (Nat.le_of_ble_eq_true rfl) (fun r9 J_102 hq9 => ?_)
              obtain ⟨z_102, rfl, hz_102, m_102, g_102, h_102, x_102⟩ := hq9
              have q_102 := MG.tr g0 g_102
              have f_102 := g_102.2.2.2
              have l_102 := g_102.1.2
              have w_102 : J 167 (3 * (0 + t) + 2) = J 167 (3 * (0 + t) + 2) := rfl
              have v_102 : J 175 = J 175 := rfl
              have y_102 : J 168 (0 + J 167 (3 * (0 + t) + 2)) = J 168 (0 + J 167 (3 * (0 + t) + 2)) := rfl
              refine tz_goto (pc := 105) (tgt := 109) dX12_appliedBy_105 (by decide) ?_
              refine tz_istore (pc := 109) (L2 := [_, _, _, _, _, _, _]) dX12_appliedBy_109 (by decide) rfl ?_
              refine tz_aload_n (pc := 111) dX12_appliedBy_111 rfl rfl ?_
              refine tz_iload_n (pc := 112) dX12_appliedBy_112 rfl rfl ?_
              refine tz_iload (pc := 113) dX12_appliedBy_113 rfl ?_
              refine tz_iload (pc := 115) dX12_appliedBy_115 rfl ?_
              refine tz_iload (pc := 117) dX12_appliedBy_117 rfl ?_
              have l0_119 := (q_102).1.2
              have t0_119 := (q_102).1.1.told
              refine tz_cV (pc := 119) (o_remade hl n _ _ _ _ _ (by omega) (by omega) (by omega) (by omega) s m_102 (q_102).1.1 (((q_102).2.2.1.2.2.1 9 rfl).trans hs) (by omega) (fun q9 => by have e9 := (q_102).ar ht ((q_102).2.2.1.2.2.2 170 rfl); rw [e9]; omega)) vl_X12_152 dX12_appliedBy_119 o_164 rfl rfl (Nat.le_of_ble_eq_true rfl) ⟨(show 3 + 1 ≤ 4 + 1 * (r9 + 1) by omega), (show 8 + (5 + 11) + 40 * (3) ≤ 40 * (4 + 1 * (r9 + 1)) by omega)⟩ rfl rfl (Nat.le_of_ble_eq_true rfl) (Nat.le_of_ble_eq_true rfl) (fun r9 J_119 hq9 => ?_)
              obtain ⟨z_119, rfl, hz_119, m_119, g_119, h_119, x_119⟩ := hq9
              have q_119 := MG.tr q_102 g_119
              have f_119 := g_119.2.2.2
              have l_119 := g_119.1.2
              exact tz_iret (pc := 122) (z := z_119) dX12_appliedBy_122 rfl (Nat.le_of_ble_eq_true rfl) (Nat.le_of_ble_eq_true rfl) ⟨Nat.le_refl _, Nat.le_add_right _ _⟩ ⟨_, rfl, (by omega), ⟨m_119, q_119, h_119, fun k β hβ hk => op_c hM ht (by omega) hk (fun k9 hk9 => mp_end (T := apO β k9) hM ht (Or.inr ⟨by omega, rfl, rfl⟩) (Or.inr ⟨by omega, rfl, rfl⟩) (Or.inl ⟨by omega, by rw [w_102]; exact x_102 k9 β (fun v a c => by rw [v_102]; exact hβ v a c) (by rw [y_102]; have d9 := (hM.td t ht.1 ht.2).2.2 2 (by decide) (by omega); dsimp only at d9; unfold mag at d9; omega)⟩) (by have e7 := x_119; rw [show J_102 166 (0 + t) = J 166 (0 + t) from ((q_102).2.1 t ht.1 ht.2).1.1] at e7; exact e7)) (by omega)⟩⟩
          · refine tz_aload_n (pc := 72) dX12_appliedBy_72 rfl rfl ?_
            refine tz_aload_n (pc := 73) dX12_appliedBy_73 rfl rfl ?_
            refine tz_iload_n (pc := 74) dX12_appliedBy_74 rfl rfl ?_
            refine tz_iconst (pc := 75) dX12_appliedBy_75 ?_
            refine tz_cV (pc := 76) (m_arg hl n _ _ _ (by omega) (by decide) 0 0 0 s m hM (by omega) (by omega)) vl_X12_88 dX12_appliedBy_76 o_164 rfl rfl (Nat.le_of_ble_eq_true rfl) ⟨(show 0 + 1 ≤ 4 + 1 * (r9 + 1) by omega), (show 8 + (3 + 11) + 40 * (0) ≤ 40 * (4 + 1 * (r9 + 1)) by omega)⟩ rfl rfl (Nat.le_of_ble_eq_true rfl) (Nat.le_of_ble_eq_true rfl) (fun r9 J_76 hq9 => ?_)
            obtain ⟨z_76, rfl, hz_76, rfl, rfl⟩ := hq9
            refine tz_aload_n (pc := 79) dX12_appliedBy_79 rfl rfl ?_
            have l0_80 := (g0).1.2
            have t0_80 := (g0).1.1.told
            have a_80 := hM.arg (t := t) (i := 1) ht (by omega)
            refine tz_cV (pc := 80) (ih _ _ (by omega) s m (g0).1.1 (((g0).2.2.1.2.2.1 9 rfl).trans hs) (by omega) (fun v x9 y9 => by have := hy v x9 y9; rw [(g0).2.2.1.2.2.2 175 rfl]; omega) (by rw [((g0).2.1 _ (by omega) (by omega)).1.2]; omega)) vl_X12_148 dX12_appliedBy_80 o_164 rfl rfl (Nat.le_of_ble_eq_true rfl) ⟨(show (4 + 1 * r9) + 1 ≤ 4 + 1 * (r9 + 1) by omega), (show 8 + (7 + 11) + 40 * ((4 + 1 * r9)) ≤ 40 * (4 + 1 * (r9 + 1)) by omega)⟩ rfl rfl (Nat.le_of_ble_eq_true rfl) (Nat.le_of_ble_eq_true rfl) (fun r9 J_80 hq9 => ?_)
            obtain ⟨z_80, rfl, hz_80, m_80, g_80, h_80, x_80⟩ := hq9
            have q_80 := MG.tr g0 g_80
            have f_80 := g_80.2.2.2
            have l_80 := g_80.1.2
            have w_80 : J 167 (3 * (0 + t) + 1) = J 167 (3 * (0 + t) + 1) := rfl
            have v_80 : J 175 = J 175 := rfl
            have y_80 : J 168 (0 + J 167 (3 * (0 + t) + 1)) = J 168 (0 + J 167 (3 * (0 + t) + 1)) := rfl
            refine tz_goto (pc := 83) (tgt := 87) dX12_appliedBy_83 (by decide) ?_
            refine tz_istore (pc := 87) (L2 := [_, _, _, _, _, _, _]) dX12_appliedBy_87 (by decide) rfl ?_
            refine tz_iload_n (pc := 89) dX12_appliedBy_89 rfl rfl ?_
            refine tz_iconst (pc := 90) dX12_appliedBy_90 ?_
            refine tz_icmp_le (pc := 91) (tgt := 108) dX12_appliedBy_91 (by decide) (by omega) (by decide) (fun h_91 => ?_) (fun h_91 => ?_)
            · refine tz_iconst (pc := 108) dX12_appliedBy_108 ?_
              refine tz_istore (pc := 109) (L2 := [_, _, _, _, _, _, _]) dX12_appliedBy_109 (by decide) rfl ?_
              refine tz_aload_n (pc := 111) dX12_appliedBy_111 rfl rfl ?_
              refine tz_iload_n (pc := 112) dX12_appliedBy_112 rfl rfl ?_
              refine tz_iload (pc := 113) dX12_appliedBy_113 rfl ?_
              refine tz_iload (pc := 115) dX12_appliedBy_115 rfl ?_
              refine tz_iload (pc := 117) dX12_appliedBy_117 rfl ?_
              have l0_119 := (q_80).1.2
              have t0_119 := (q_80).1.1.told
              refine tz_cV (pc := 119) (o_remade hl n _ _ _ _ _ (by omega) (by omega) (by omega) (by omega) s m_80 (q_80).1.1 (((q_80).2.2.1.2.2.1 9 rfl).trans hs) (by omega) (fun q9 => by have e9 := (q_80).ar ht ((q_80).2.2.1.2.2.2 170 rfl); rw [e9]; omega)) vl_X12_152 dX12_appliedBy_119 o_164 rfl rfl (Nat.le_of_ble_eq_true rfl) ⟨(show 3 + 1 ≤ 4 + 1 * (r9 + 1) by omega), (show 8 + (5 + 11) + 40 * (3) ≤ 40 * (4 + 1 * (r9 + 1)) by omega)⟩ rfl rfl (Nat.le_of_ble_eq_true rfl) (Nat.le_of_ble_eq_true rfl) (fun r9 J_119 hq9 => ?_)
              obtain ⟨z_119, rfl, hz_119, m_119, g_119, h_119, x_119⟩ := hq9
              have q_119 := MG.tr q_80 g_119
              have f_119 := g_119.2.2.2
              have l_119 := g_119.1.2
              exact tz_iret (pc := 122) (z := z_119) dX12_appliedBy_122 rfl (Nat.le_of_ble_eq_true rfl) (Nat.le_of_ble_eq_true rfl) ⟨Nat.le_refl _, Nat.le_add_right _ _⟩ ⟨_, rfl, (by omega), ⟨m_119, q_119, h_119, fun k β hβ hk => op_c hM ht (by omega) hk (fun k9 hk9 => mp_end (T := apO β k9) hM ht (Or.inr ⟨by omega, rfl, rfl⟩) (Or.inl ⟨by omega, by rw [w_80]; exact x_80 k9 β (fun v a c => by rw [v_80]; exact hβ v a c) (by rw [y_80]; have d9 := (hM.td t ht.1 ht.2).2.2 1 (by decide) (by omega); dsimp only at d9; unfold mag at d9; omega)⟩) (Or.inr ⟨by omega, rfl, rfl⟩) (by have e7 := x_119; rw [show J_80 166 (0 + t) = J 166 (0 + t) from ((q_80).2.1 t ht.1 ht.2).1.1] at e7; exact e7)) (by omega)⟩⟩
            · refine tz_aload_n (pc := 94) dX12_appliedBy_94 rfl rfl ?_
              refine tz_aload_n (pc := 95) dX12_appliedBy_95 rfl rfl ?_
              refine tz_iload_n (pc := 96) dX12_appliedBy_96 rfl rfl ?_
              refine tz_iconst (pc := 97) dX12_appliedBy_97 ?_
              have l_98 := (q_80).1.2
              have tt_98 := (q_80).1.1.told
              refine tz_cV (pc := 98) (m_arg hl n _ _ _ (by omega) (by decide) 0 0 0 s m_80 (q_80).1.1 (by omega) (by omega)) vl_X12_88 dX12_appliedBy_98 o_164 rfl rfl (Nat.le_of_ble_eq_true rfl) ⟨(show 0 + 1 ≤ 4 + 1 * (r9 + 1) by omega), (show 8 + (3 + 11) + 40 * (0) ≤ 40 * (4 + 1 * (r9 + 1)) by omega)⟩ rfl rfl (Nat.le_of_ble_eq_true rfl) (Nat.le_of_ble_eq_true rfl) (fun r9 J_98 hq9 => ?_)
              obtain ⟨z_98, rfl, hz_98, rfl, hv_98⟩ := hq9
              have he_98 : J_80 167 (3 * (0 + t) + 2) = J 167 (3 * (0 + t) + 2) := ((q_80).2.1 t ht.1 ht.2).2 2 (by omega) (by omega)
              rw [he_98] at hv_98
              obtain rfl : J 167 (3 * (0 + t) + 2) = z_98 := hv_98
              refine tz_aload_n (pc := 101) dX12_appliedBy_101 rfl rfl ?_
              have l0_102 := (q_80).1.2
              have t0_102 := (q_80).1.1.told
              have a_102 := hM.arg (t := t) (i := 2) ht (by omega)
              refine tz_cV (pc := 102) (ih _ _ (by omega) s m_80 (q_80).1.1 (((q_80).2.2.1.2.2.1 9 rfl).trans hs) (by omega) (fun v x9 y9 => by have := hy v x9 y9; rw [(q_80).2.2.1.2.2.2 175 rfl]; omega) (by rw [((q_80).2.1 _ (by omega) (by omega)).1.2]; omega)) vl_X12_148 dX12_appliedBy_102 o_164 rfl rfl (Nat.le_of_ble_eq_true rfl) ⟨(show (4 + 1 * r9) + 1 ≤ 4 + 1 * (r9 + 1) by omega), (show 8 + (7 + 11) + 40 * ((4 + 1 * r9)) ≤ 40 * (4 + 1 * (r9 + 1)) by omega)⟩ rfl rfl (Nat.le_of_ble_eq_true rfl) (Nat.le_of_ble_eq_true rfl) (fun r9 J_102 hq9 => ?_)
              obtain ⟨z_102, rfl, hz_102, m_102, g_102, h_102, x_102⟩ := hq9
              have q_102 := MG.tr q_80 g_102
              have f_102 := g_102.2.2.2
              have l_102 := g_102.1.2
              have w_102 : J_80 167 (3 * (0 + t) + 2) = J 167 (3 * (0 + t) + 2) := ((q_80).2.1 t ht.1 ht.2).2 2 (by decide) (by decide)
              have v_102 : J_80 175 = J 175 := (q_80).2.2.1.2.2.2 175 rfl
              have y_102 : J_80 168 (0 + J 167 (3 * (0 + t) + 2)) = J 168 (0 + J 167 (3 * (0 + t) + 2)) := ((q_80).2.1 _ (by omega) (by omega)).1.2
              refine tz_goto (pc := 105) (tgt := 109) dX12_appliedBy_105 (by decide) ?_
              refine tz_istore (pc := 109) (L2 := [_, _, _, _, _, _, _]) dX12_appliedBy_109 (by decide) rfl ?_
              refine tz_aload_n (pc := 111) dX12_appliedBy_111 rfl rfl ?_
              refine tz_iload_n (pc := 112) dX12_appliedBy_112 rfl rfl ?_
              refine tz_iload (pc := 113) dX12_appliedBy_113 rfl ?_
              refine tz_iload (pc := 115) dX12_appliedBy_115 rfl ?_
              refine tz_iload (pc := 117) dX12_appliedBy_117 rfl ?_
              have l0_119 := (q_102).1.2
              have t0_119 := (q_102).1.1.told
              refine tz_cV (pc := 119) (o_remade hl n _ _ _ _ _ (by omega) (by omega) (by omega) (by omega) s m_102 (q_102).1.1 (((q_102).2.2.1.2.2.1 9 rfl).trans hs) (by omega) (fun q9 => by have e9 := (q_102).ar ht ((q_102).2.2.1.2.2.2 170 rfl); rw [e9]; omega)) vl_X12_152 dX12_appliedBy_119 o_164 rfl rfl (Nat.le_of_ble_eq_true rfl) ⟨(show 3 + 1 ≤ 4 + 1 * (r9 + 1) by omega), (show 8 + (5 + 11) + 40 * (3) ≤ 40 * (4 + 1 * (r9 + 1)) by omega)⟩ rfl rfl (Nat.le_of_ble_eq_true rfl) (Nat.le_of_ble_eq_true rfl) (fun r9 J_119 hq9 => ?_)
              obtain ⟨z_119, rfl, hz_119, m_119, g_119, h_119, x_119⟩ := hq9
              have q_119 := MG.tr q_102 g_119
              have f_119 := g_119.2.2.2
              have l_119 := g_119.1.2
              exact tz_iret (pc := 122) (z := z_119) dX12_appliedBy_122 rfl (Nat.le_of_ble_eq_true rfl) (Nat.le_of_ble_eq_true rfl) ⟨Nat.le_refl _, Nat.le_add_right _ _⟩ ⟨_, rfl, (by omega), ⟨m_119, q_119, h_119, fun k β hβ hk => op_c hM ht (by omega) hk (fun k9 hk9 => mp_end (T := apO β k9) hM ht (Or.inr ⟨by omega, rfl, rfl⟩) (Or.inl ⟨by omega, by rw [w_80]; exact x_80 k9 β (fun v a c => by rw [v_80]; exact hβ v a c) (by rw [y_80]; have d9 := (hM.td t ht.1 ht.2).2.2 1 (by decide) (by omega); dsimp only at d9; unfold mag at d9; omega)⟩) (Or.inl ⟨by omega, by rw [w_102]; exact x_102 k9 β (fun v a c => by rw [v_102]; exact hβ v a c) (by rw [y_102]; have d9 := (hM.td t ht.1 ht.2).2.2 2 (by decide) (by omega); dsimp only at d9; unfold mag at d9; omega)⟩) (by have e7 := x_119; rw [show J_102 166 (0 + t) = J 166 (0 + t) from ((q_102).2.1 t ht.1 ht.2).1.1] at e7; exact e7)) (by omega)⟩⟩
        · refine tz_aload_n (pc := 50) dX12_appliedBy_50 rfl rfl ?_
          refine tz_aload_n (pc := 51) dX12_appliedBy_51 rfl rfl ?_
          refine tz_iload_n (pc := 52) dX12_appliedBy_52 rfl rfl ?_
          refine tz_iconst (pc := 53) dX12_appliedBy_53 ?_
          refine tz_cV (pc := 54) (m_arg hl n _ _ _ (by omega) (by decide) 0 0 0 s m hM (by omega) (by omega)) vl_X12_88 dX12_appliedBy_54 o_164 rfl rfl (Nat.le_of_ble_eq_true rfl) ⟨(show 0 + 1 ≤ 4 + 1 * (r9 + 1) by omega), (show 8 + (3 + 11) + 40 * (0) ≤ 40 * (4 + 1 * (r9 + 1)) by omega)⟩ rfl rfl (Nat.le_of_ble_eq_true rfl) (Nat.le_of_ble_eq_true rfl) (fun r9 J_54 hq9 => ?_)
          obtain ⟨z_54, rfl, hz_54, rfl, rfl⟩ := hq9
          refine tz_aload_n (pc := 57) dX12_appliedBy_57 rfl rfl ?_
          have l0_58 := (g0).1.2
          have t0_58 := (g0).1.1.told
          have a_58 := hM.arg (t := t) (i := 0) ht (by omega)
          refine tz_cV (pc := 58) (ih _ _ (by omega) s m (g0).1.1 (((g0).2.2.1.2.2.1 9 rfl).trans hs) (by omega) (fun v x9 y9 => by have := hy v x9 y9; rw [(g0).2.2.1.2.2.2 175 rfl]; omega) (by rw [((g0).2.1 _ (by omega) (by omega)).1.2]; omega)) vl_X12_148 dX12_appliedBy_58 o_164 rfl rfl (Nat.le_of_ble_eq_true rfl) ⟨(show (4 + 1 * r9) + 1 ≤ 4 + 1 * (r9 + 1) by omega), (show 8 + (7 + 11) + 40 * ((4 + 1 * r9)) ≤ 40 * (4 + 1 * (r9 + 1)) by omega)⟩ rfl rfl (Nat.le_of_ble_eq_true rfl) (Nat.le_of_ble_eq_true rfl) (fun r9 J_58 hq9 => ?_)
          obtain ⟨z_58, rfl, hz_58, m_58, g_58, h_58, x_58⟩ := hq9
          have q_58 := MG.tr g0 g_58
          have f_58 := g_58.2.2.2
          have l_58 := g_58.1.2
          have w_58 : J 167 (3 * (0 + t) + 0) = J 167 (3 * (0 + t) + 0) := rfl
          have v_58 : J 175 = J 175 := rfl
          have y_58 : J 168 (0 + J 167 (3 * (0 + t) + 0)) = J 168 (0 + J 167 (3 * (0 + t) + 0)) := rfl
          refine tz_goto (pc := 61) (tgt := 65) dX12_appliedBy_61 (by decide) ?_
          refine tz_istore (pc := 65) (L2 := [_, _, _, _, _, _, _]) dX12_appliedBy_65 (by decide) rfl ?_
          refine tz_iload_n (pc := 67) dX12_appliedBy_67 rfl rfl ?_
          refine tz_iconst (pc := 68) dX12_appliedBy_68 ?_
          refine tz_icmp_le (pc := 69) (tgt := 86) dX12_appliedBy_69 (by decide) (by omega) (by decide) (fun h_69 => ?_) (fun h_69 => ?_)
          · refine tz_iconst (pc := 86) dX12_appliedBy_86 ?_
            refine tz_istore (pc := 87) (L2 := [_, _, _, _, _, _, _]) dX12_appliedBy_87 (by decide) rfl ?_
            refine tz_iload_n (pc := 89) dX12_appliedBy_89 rfl rfl ?_
            refine tz_iconst (pc := 90) dX12_appliedBy_90 ?_
            refine tz_icmp_le (pc := 91) (tgt := 108) dX12_appliedBy_91 (by decide) (by omega) (by decide) (fun h_91 => ?_) (fun h_91 => ?_)
            · refine tz_iconst (pc := 108) dX12_appliedBy_108 ?_
              refine tz_istore (pc := 109) (L2 := [_, _, _, _, _, _, _]) dX12_appliedBy_109 (by decide) rfl ?_
              refine tz_aload_n (pc := 111) dX12_appliedBy_111 rfl rfl ?_
              refine tz_iload_n (pc := 112) dX12_appliedBy_112 rfl rfl ?_
              refine tz_iload (pc := 113) dX12_appliedBy_113 rfl ?_
              refine tz_iload (pc := 115) dX12_appliedBy_115 rfl ?_
              refine tz_iload (pc := 117) dX12_appliedBy_117 rfl ?_
              have l0_119 := (q_58).1.2
              have t0_119 := (q_58).1.1.told
              refine tz_cV (pc := 119) (o_remade hl n _ _ _ _ _ (by omega) (by omega) (by omega) (by omega) s m_58 (q_58).1.1 (((q_58).2.2.1.2.2.1 9 rfl).trans hs) (by omega) (fun q9 => by have e9 := (q_58).ar ht ((q_58).2.2.1.2.2.2 170 rfl); rw [e9]; omega)) vl_X12_152 dX12_appliedBy_119 o_164 rfl rfl (Nat.le_of_ble_eq_true rfl) ⟨(show 3 + 1 ≤ 4 + 1 * (r9 + 1) by omega), (show 8 + (5 + 11) + 40 * (3) ≤ 40 * (4 + 1 * (r9 + 1)) by omega)⟩ rfl rfl (Nat.le_of_ble_eq_true rfl) (Nat.le_of_ble_eq_true rfl) (fun r9 J_119 hq9 => ?_)
              obtain ⟨z_119, rfl, hz_119, m_119, g_119, h_119, x_119⟩ := hq9
              have q_119 := MG.tr q_58 g_119
              have f_119 := g_119.2.2.2
              have l_119 := g_119.1.2
              exact tz_iret (pc := 122) (z := z_119) dX12_appliedBy_122 rfl (Nat.le_of_ble_eq_true rfl) (Nat.le_of_ble_eq_true rfl) ⟨Nat.le_refl _, Nat.le_add_right _ _⟩ ⟨_, rfl, (by omega), ⟨m_119, q_119, h_119, fun k β hβ hk => op_c hM ht (by omega) hk (fun k9 hk9 => mp_end (T := apO β k9) hM ht (Or.inl ⟨by omega, by rw [w_58]; exact x_58 k9 β (fun v a c => by rw [v_58]; exact hβ v a c) (by rw [y_58]; have d9 := (hM.td t ht.1 ht.2).2.2 0 (by decide) (by omega); dsimp only at d9; unfold mag at d9; omega)⟩) (Or.inr ⟨by omega, rfl, rfl⟩) (Or.inr ⟨by omega, rfl, rfl⟩) (by have e7 := x_119; rw [show J_58 166 (0 + t) = J 166 (0 + t) from ((q_58).2.1 t ht.1 ht.2).1.1] at e7; exact e7)) (by omega)⟩⟩
            · refine tz_aload_n (pc := 94) dX12_appliedBy_94 rfl rfl ?_
              refine tz_aload_n (pc := 95) dX12_appliedBy_95 rfl rfl ?_
              refine tz_iload_n (pc := 96) dX12_appliedBy_96 rfl rfl ?_
              refine tz_iconst (pc := 97) dX12_appliedBy_97 ?_
              have l_98 := (q_58).1.2
              have tt_98 := (q_58).1.1.told
              refine tz_cV (pc := 98) (m_arg hl n _ _ _ (by omega) (by decide) 0 0 0 s m_58 (q_58).1.1 (by omega) (by omega)) vl_X12_88 dX12_appliedBy_98 o_164 rfl rfl (Nat.le_of_ble_eq_true rfl) ⟨(show 0 + 1 ≤ 4 + 1 * (r9 + 1) by omega), (show 8 + (3 + 11) + 40 * (0) ≤ 40 * (4 + 1 * (r9 + 1)) by omega)⟩ rfl rfl (Nat.le_of_ble_eq_true rfl) (Nat.le_of_ble_eq_true rfl) (fun r9 J_98 hq9 => ?_)
              obtain ⟨z_98, rfl, hz_98, rfl, hv_98⟩ := hq9
              have he_98 : J_58 167 (3 * (0 + t) + 2) = J 167 (3 * (0 + t) + 2) := ((q_58).2.1 t ht.1 ht.2).2 2 (by omega) (by omega)
              rw [he_98] at hv_98
              obtain rfl : J 167 (3 * (0 + t) + 2) = z_98 := hv_98
              refine tz_aload_n (pc := 101) dX12_appliedBy_101 rfl rfl ?_
              have l0_102 := (q_58).1.2
              have t0_102 := (q_58).1.1.told
              have a_102 := hM.arg (t := t) (i := 2) ht (by omega)
              refine tz_cV (pc := 102) (ih _ _ (by omega) s m_58 (q_58).1.1 (((q_58).2.2.1.2.2.1 9 rfl).trans hs) (by omega) (fun v x9 y9 => by have := hy v x9 y9; rw [(q_58).2.2.1.2.2.2 175 rfl]; omega) (by rw [((q_58).2.1 _ (by omega) (by omega)).1.2]; omega)) vl_X12_148 dX12_appliedBy_102 o_164 rfl rfl (Nat.le_of_ble_eq_true rfl) ⟨(show (4 + 1 * r9) + 1 ≤ 4 + 1 * (r9 + 1) by omega), (show 8 + (7 + 11) + 40 * ((4 + 1 * r9)) ≤ 40 * (4 + 1 * (r9 + 1)) by omega)⟩ rfl rfl (Nat.le_of_ble_eq_true rfl) (Nat.le_of_ble_eq_true rfl) (fun r9 J_102 hq9 => ?_)
              obtain ⟨z_102, rfl, hz_102, m_102, g_102, h_102, x_102⟩ := hq9
              have q_102 := MG.tr q_58 g_102
              have f_102 := g_102.2.2.2
              have l_102 := g_102.1.2
              have w_102 : J_58 167 (3 * (0 + t) + 2) = J 167 (3 * (0 + t) + 2) := ((q_58).2.1 t ht.1 ht.2).2 2 (by decide) (by decide)
              have v_102 : J_58 175 = J 175 := (q_58).2.2.1.2.2.2 175 rfl
              have y_102 : J_58 168 (0 + J 167 (3 * (0 + t) + 2)) = J 168 (0 + J 167 (3 * (0 + t) + 2)) := ((q_58).2.1 _ (by omega) (by omega)).1.2
              refine tz_goto (pc := 105) (tgt := 109) dX12_appliedBy_105 (by decide) ?_
              refine tz_istore (pc := 109) (L2 := [_, _, _, _, _, _, _]) dX12_appliedBy_109 (by decide) rfl ?_
              refine tz_aload_n (pc := 111) dX12_appliedBy_111 rfl rfl ?_
              refine tz_iload_n (pc := 112) dX12_appliedBy_112 rfl rfl ?_
              refine tz_iload (pc := 113) dX12_appliedBy_113 rfl ?_
              refine tz_iload (pc := 115) dX12_appliedBy_115 rfl ?_
              refine tz_iload (pc := 117) dX12_appliedBy_117 rfl ?_
              have l0_119 := (q_102).1.2
              have t0_119 := (q_102).1.1.told
              refine tz_cV (pc := 119) (o_remade hl n _ _ _ _ _ (by omega) (by omega) (by omega) (by omega) s m_102 (q_102).1.1 (((q_102).2.2.1.2.2.1 9 rfl).trans hs) (by omega) (fun q9 => by have e9 := (q_102).ar ht ((q_102).2.2.1.2.2.2 170 rfl); rw [e9]; omega)) vl_X12_152 dX12_appliedBy_119 o_164 rfl rfl (Nat.le_of_ble_eq_true rfl) ⟨(show 3 + 1 ≤ 4 + 1 * (r9 + 1) by omega), (show 8 + (5 + 11) + 40 * (3) ≤ 40 * (4 + 1 * (r9 + 1)) by omega)⟩ rfl rfl (Nat.le_of_ble_eq_true rfl) (Nat.le_of_ble_eq_true rfl) (fun r9 J_119 hq9 => ?_)
              obtain ⟨z_119, rfl, hz_119, m_119, g_119, h_119, x_119⟩ := hq9
              have q_119 := MG.tr q_102 g_119
              have f_119 := g_119.2.2.2
              have l_119 := g_119.1.2
              exact tz_iret (pc := 122) (z := z_119) dX12_appliedBy_122 rfl (Nat.le_of_ble_eq_true rfl) (Nat.le_of_ble_eq_true rfl) ⟨Nat.le_refl _, Nat.le_add_right _ _⟩ ⟨_, rfl, (by omega), ⟨m_119, q_119, h_119, fun k β hβ hk => op_c hM ht (by omega) hk (fun k9 hk9 => mp_end (T := apO β k9) hM ht (Or.inl ⟨by omega, by rw [w_58]; exact x_58 k9 β (fun v a c => by rw [v_58]; exact hβ v a c) (by rw [y_58]; have d9 := (hM.td t ht.1 ht.2).2.2 0 (by decide) (by omega); dsimp only at d9; unfold mag at d9; omega)⟩) (Or.inr ⟨by omega, rfl, rfl⟩) (Or.inl ⟨by omega, by rw [w_102]; exact x_102 k9 β (fun v a c => by rw [v_102]; exact hβ v a c) (by rw [y_102]; have d9 := (hM.td t ht.1 ht.2).2.2 2 (by decide) (by omega); dsimp only at d9; unfold mag at d9; omega)⟩) (by have e7 := x_119; rw [show J_102 166 (0 + t) = J 166 (0 + t) from ((q_102).2.1 t ht.1 ht.2).1.1] at e7; exact e7)) (by omega)⟩⟩
          · refine tz_aload_n (pc := 72) dX12_appliedBy_72 rfl rfl ?_
            refine tz_aload_n (pc := 73) dX12_appliedBy_73 rfl rfl ?_
            refine tz_iload_n (pc := 74) dX12_appliedBy_74 rfl rfl ?_
            refine tz_iconst (pc := 75) dX12_appliedBy_75 ?_
            have l_76 := (q_58).1.2
            have tt_76 := (q_58).1.1.told
            refine tz_cV (pc := 76) (m_arg hl n _ _ _ (by omega) (by decide) 0 0 0 s m_58 (q_58).1.1 (by omega) (by omega)) vl_X12_88 dX12_appliedBy_76 o_164 rfl rfl (Nat.le_of_ble_eq_true rfl) ⟨(show 0 + 1 ≤ 4 + 1 * (r9 + 1) by omega), (show 8 + (3 + 11) + 40 * (0) ≤ 40 * (4 + 1 * (r9 + 1)) by omega)⟩ rfl rfl (Nat.le_of_ble_eq_true rfl) (Nat.le_of_ble_eq_true rfl) (fun r9 J_76 hq9 => ?_)
            obtain ⟨z_76, rfl, hz_76, rfl, hv_76⟩ := hq9
            have he_76 : J_58 167 (3 * (0 + t) + 1) = J 167 (3 * (0 + t) + 1) := ((q_58).2.1 t ht.1 ht.2).2 1 (by omega) (by omega)
            rw [he_76] at hv_76
            obtain rfl : J 167 (3 * (0 + t) + 1) = z_76 := hv_76
            refine tz_aload_n (pc := 79) dX12_appliedBy_79 rfl rfl ?_
            have l0_80 := (q_58).1.2
            have t0_80 := (q_58).1.1.told
            have a_80 := hM.arg (t := t) (i := 1) ht (by omega)
            refine tz_cV (pc := 80) (ih _ _ (by omega) s m_58 (q_58).1.1 (((q_58).2.2.1.2.2.1 9 rfl).trans hs) (by omega) (fun v x9 y9 => by have := hy v x9 y9; rw [(q_58).2.2.1.2.2.2 175 rfl]; omega) (by rw [((q_58).2.1 _ (by omega) (by omega)).1.2]; omega)) vl_X12_148 dX12_appliedBy_80 o_164 rfl rfl (Nat.le_of_ble_eq_true rfl) ⟨(show (4 + 1 * r9) + 1 ≤ 4 + 1 * (r9 + 1) by omega), (show 8 + (7 + 11) + 40 * ((4 + 1 * r9)) ≤ 40 * (4 + 1 * (r9 + 1)) by omega)⟩ rfl rfl (Nat.le_of_ble_eq_true rfl) (Nat.le_of_ble_eq_true rfl) (fun r9 J_80 hq9 => ?_)
            obtain ⟨z_80, rfl, hz_80, m_80, g_80, h_80, x_80⟩ := hq9
            have q_80 := MG.tr q_58 g_80
            have f_80 := g_80.2.2.2
            have l_80 := g_80.1.2
            have w_80 : J_58 167 (3 * (0 + t) + 1) = J 167 (3 * (0 + t) + 1) := ((q_58).2.1 t ht.1 ht.2).2 1 (by decide) (by decide)
            have v_80 : J_58 175 = J 175 := (q_58).2.2.1.2.2.2 175 rfl
            have y_80 : J_58 168 (0 + J 167 (3 * (0 + t) + 1)) = J 168 (0 + J 167 (3 * (0 + t) + 1)) := ((q_58).2.1 _ (by omega) (by omega)).1.2
            refine tz_goto (pc := 83) (tgt := 87) dX12_appliedBy_83 (by decide) ?_
            refine tz_istore (pc := 87) (L2 := [_, _, _, _, _, _, _]) dX12_appliedBy_87 (by decide) rfl ?_
            refine tz_iload_n (pc := 89) dX12_appliedBy_89 rfl rfl ?_
            refine tz_iconst (pc := 90) dX12_appliedBy_90 ?_
            refine tz_icmp_le (pc := 91) (tgt := 108) dX12_appliedBy_91 (by decide) (by omega) (by decide) (fun h_91 => ?_) (fun h_91 => ?_)
            · refine tz_iconst (pc := 108) dX12_appliedBy_108 ?_
              refine tz_istore (pc := 109) (L2 := [_, _, _, _, _, _, _]) dX12_appliedBy_109 (by decide) rfl ?_
              refine tz_aload_n (pc := 111) dX12_appliedBy_111 rfl rfl ?_
              refine tz_iload_n (pc := 112) dX12_appliedBy_112 rfl rfl ?_
              refine tz_iload (pc := 113) dX12_appliedBy_113 rfl ?_
              refine tz_iload (pc := 115) dX12_appliedBy_115 rfl ?_
              refine tz_iload (pc := 117) dX12_appliedBy_117 rfl ?_
              have l0_119 := (q_80).1.2
              have t0_119 := (q_80).1.1.told
              refine tz_cV (pc := 119) (o_remade hl n _ _ _ _ _ (by omega) (by omega) (by omega) (by omega) s m_80 (q_80).1.1 (((q_80).2.2.1.2.2.1 9 rfl).trans hs) (by omega) (fun q9 => by have e9 := (q_80).ar ht ((q_80).2.2.1.2.2.2 170 rfl); rw [e9]; omega)) vl_X12_152 dX12_appliedBy_119 o_164 rfl rfl (Nat.le_of_ble_eq_true rfl) ⟨(show 3 + 1 ≤ 4 + 1 * (r9 + 1) by omega), (show 8 + (5 + 11) + 40 * (3) ≤ 40 * (4 + 1 * (r9 + 1)) by omega)⟩ rfl rfl (Nat.le_of_ble_eq_true rfl) (Nat.le_of_ble_eq_true rfl) (fun r9 J_119 hq9 => ?_)
              obtain ⟨z_119, rfl, hz_119, m_119, g_119, h_119, x_119⟩ := hq9
              have q_119 := MG.tr q_80 g_119
              have f_119 := g_119.2.2.2
              have l_119 := g_119.1.2
              exact tz_iret (pc := 122) (z := z_119) dX12_appliedBy_122 rfl (Nat.le_of_ble_eq_true rfl) (Nat.le_of_ble_eq_true rfl) ⟨Nat.le_refl _, Nat.le_add_right _ _⟩ ⟨_, rfl, (by omega), ⟨m_119, q_119, h_119, fun k β hβ hk => op_c hM ht (by omega) hk (fun k9 hk9 => mp_end (T := apO β k9) hM ht (Or.inl ⟨by omega, by rw [w_58]; exact x_58 k9 β (fun v a c => by rw [v_58]; exact hβ v a c) (by rw [y_58]; have d9 := (hM.td t ht.1 ht.2).2.2 0 (by decide) (by omega); dsimp only at d9; unfold mag at d9; omega)⟩) (Or.inl ⟨by omega, by rw [w_80]; exact x_80 k9 β (fun v a c => by rw [v_80]; exact hβ v a c) (by rw [y_80]; have d9 := (hM.td t ht.1 ht.2).2.2 1 (by decide) (by omega); dsimp only at d9; unfold mag at d9; omega)⟩) (Or.inr ⟨by omega, rfl, rfl⟩) (by have e7 := x_119; rw [show J_80 166 (0 + t) = J 166 (0 + t) from ((q_80).2.1 t ht.1 ht.2).1.1] at e7; exact e7)) (by omega)⟩⟩
            · refine tz_aload_n (pc := 94) dX12_appliedBy_94 rfl rfl ?_
              refine tz_aload_n (pc := 95) dX12_appliedBy_95 rfl rfl ?_
              refine tz_iload_n (pc := 96) dX12_appliedBy_96 rfl rfl ?_
              refine tz_iconst (pc := 97) dX12_appliedBy_97 ?_
              have l_98 := (q_80).1.2
              have tt_98 := (q_80).1.1.told
              refine tz_cV (pc := 98) (m_arg hl n _ _ _ (by omega) (by decide) 0 0 0 s m_80 (q_80).1.1 (by omega) (by omega)) vl_X12_88 dX12_appliedBy_98 o_164 rfl rfl (Nat.le_of_ble_eq_true rfl) ⟨(show 0 + 1 ≤ 4 + 1 * (r9 + 1) by omega), (show 8 + (3 + 11) + 40 * (0) ≤ 40 * (4 + 1 * (r9 + 1)) by omega)⟩ rfl rfl (Nat.le_of_ble_eq_true rfl) (Nat.le_of_ble_eq_true rfl) (fun r9 J_98 hq9 => ?_)
              obtain ⟨z_98, rfl, hz_98, rfl, hv_98⟩ := hq9
              have he_98 : J_80 167 (3 * (0 + t) + 2) = J 167 (3 * (0 + t) + 2) := ((q_80).2.1 t ht.1 ht.2).2 2 (by omega) (by omega)
              rw [he_98] at hv_98
              obtain rfl : J 167 (3 * (0 + t) + 2) = z_98 := hv_98
              refine tz_aload_n (pc := 101) dX12_appliedBy_101 rfl rfl ?_
              have l0_102 := (q_80).1.2
              have t0_102 := (q_80).1.1.told
              have a_102 := hM.arg (t := t) (i := 2) ht (by omega)
              refine tz_cV (pc := 102) (ih _ _ (by omega) s m_80 (q_80).1.1 (((q_80).2.2.1.2.2.1 9 rfl).trans hs) (by omega) (fun v x9 y9 => by have := hy v x9 y9; rw [(q_80).2.2.1.2.2.2 175 rfl]; omega) (by rw [((q_80).2.1 _ (by omega) (by omega)).1.2]; omega)) vl_X12_148 dX12_appliedBy_102 o_164 rfl rfl (Nat.le_of_ble_eq_true rfl) ⟨(show (4 + 1 * r9) + 1 ≤ 4 + 1 * (r9 + 1) by omega), (show 8 + (7 + 11) + 40 * ((4 + 1 * r9)) ≤ 40 * (4 + 1 * (r9 + 1)) by omega)⟩ rfl rfl (Nat.le_of_ble_eq_true rfl) (Nat.le_of_ble_eq_true rfl) (fun r9 J_102 hq9 => ?_)
              obtain ⟨z_102, rfl, hz_102, m_102, g_102, h_102, x_102⟩ := hq9
              have q_102 := MG.tr q_80 g_102
              have f_102 := g_102.2.2.2
              have l_102 := g_102.1.2
              have w_102 : J_80 167 (3 * (0 + t) + 2) = J 167 (3 * (0 + t) + 2) := ((q_80).2.1 t ht.1 ht.2).2 2 (by decide) (by decide)
              have v_102 : J_80 175 = J 175 := (q_80).2.2.1.2.2.2 175 rfl
              have y_102 : J_80 168 (0 + J 167 (3 * (0 + t) + 2)) = J 168 (0 + J 167 (3 * (0 + t) + 2)) := ((q_80).2.1 _ (by omega) (by omega)).1.2
              refine tz_goto (pc := 105) (tgt := 109) dX12_appliedBy_105 (by decide) ?_
              refine tz_istore (pc := 109) (L2 := [_, _, _, _, _, _, _]) dX12_appliedBy_109 (by decide) rfl ?_
              refine tz_aload_n (pc := 111) dX12_appliedBy_111 rfl rfl ?_
              refine tz_iload_n (pc := 112) dX12_appliedBy_112 rfl rfl ?_
              refine tz_iload (pc := 113) dX12_appliedBy_113 rfl ?_
              refine tz_iload (pc := 115) dX12_appliedBy_115 rfl ?_
              refine tz_iload (pc := 117) dX12_appliedBy_117 rfl ?_
              have l0_119 := (q_102).1.2
              have t0_119 := (q_102).1.1.told
              refine tz_cV (pc := 119) (o_remade hl n _ _ _ _ _ (by omega) (by omega) (by omega) (by omega) s m_102 (q_102).1.1 (((q_102).2.2.1.2.2.1 9 rfl).trans hs) (by omega) (fun q9 => by have e9 := (q_102).ar ht ((q_102).2.2.1.2.2.2 170 rfl); rw [e9]; omega)) vl_X12_152 dX12_appliedBy_119 o_164 rfl rfl (Nat.le_of_ble_eq_true rfl) ⟨(show 3 + 1 ≤ 4 + 1 * (r9 + 1) by omega), (show 8 + (5 + 11) + 40 * (3) ≤ 40 * (4 + 1 * (r9 + 1)) by omega)⟩ rfl rfl (Nat.le_of_ble_eq_true rfl) (Nat.le_of_ble_eq_true rfl) (fun r9 J_119 hq9 => ?_)
              obtain ⟨z_119, rfl, hz_119, m_119, g_119, h_119, x_119⟩ := hq9
              have q_119 := MG.tr q_102 g_119
              have f_119 := g_119.2.2.2
              have l_119 := g_119.1.2
              exact tz_iret (pc := 122) (z := z_119) dX12_appliedBy_122 rfl (Nat.le_of_ble_eq_true rfl) (Nat.le_of_ble_eq_true rfl) ⟨Nat.le_refl _, Nat.le_add_right _ _⟩ ⟨_, rfl, (by omega), ⟨m_119, q_119, h_119, fun k β hβ hk => op_c hM ht (by omega) hk (fun k9 hk9 => mp_end (T := apO β k9) hM ht (Or.inl ⟨by omega, by rw [w_58]; exact x_58 k9 β (fun v a c => by rw [v_58]; exact hβ v a c) (by rw [y_58]; have d9 := (hM.td t ht.1 ht.2).2.2 0 (by decide) (by omega); dsimp only at d9; unfold mag at d9; omega)⟩) (Or.inl ⟨by omega, by rw [w_80]; exact x_80 k9 β (fun v a c => by rw [v_80]; exact hβ v a c) (by rw [y_80]; have d9 := (hM.td t ht.1 ht.2).2.2 1 (by decide) (by omega); dsimp only at d9; unfold mag at d9; omega)⟩) (Or.inl ⟨by omega, by rw [w_102]; exact x_102 k9 β (fun v a c => by rw [v_102]; exact hβ v a c) (by rw [y_102]; have d9 := (hM.td t ht.1 ht.2).2.2 2 (by decide) (by omega); dsimp only at d9; unfold mag at d9; omega)⟩) (by have e7 := x_119; rw [show J_102 166 (0 + t) = J 166 (0 + t) from ((q_102).2.1 t ht.1 ht.2).1.1] at e7; exact e7)) (by omega)⟩⟩
    · refine tz_iconst (pc := 7) dX12_appliedBy_7 ?_
      exact tz_iret (pc := 8) (z := 0) dX12_appliedBy_8 rfl (Nat.le_of_ble_eq_true rfl) (Nat.le_of_ble_eq_true rfl) ⟨Nat.le_refl _, Nat.le_add_right _ _⟩ ⟨_, rfl, (by decide), ⟨m, g0, fun q9 => by omega, fun k β hβ hk => op_v hM ht hβ hk (by omega)⟩⟩

set_option maxHeartbeats 4000000 in
set_option maxRecDepth 100000 in
theorem o_appMR {l : Launch} {G : tb_G} (hl : l.stackTraces = false) (n : Nat) : ∀ (r9 : Nat) (J : zJ) (t : Int) (hr_t : -2147483648 ≤ t ∧ t < 2147483648) (s m : Int) (hM : MS J 0 0 0 s m) (hs : J 164 9 = s) (ht : 0 ≤ t ∧ t < m) (hy : gOK (J 174) m), ((J 168 (0 + t)).toNat) < r9 → tz_Ok l G M_X12_appliedBy (4 + 1 * r9) 0 0 [.ref 164, zi t, .ref 174] n J (zqi (fun z J' => ∃ m', MG [] [] (fun _ => false) J' J 0 0 0 s m m' ∧ (J' 164 21 = 0 → 0 ≤ z ∧ z < m') ∧ ∀ (k : Nat) (β : Int → Int), (∀ v, 0 ≤ v → v < 8 → β v = J 174 v) → J 168 (0 + t) ≤ k → (tb0 J', z) = apO β k (tb0 J) t)) zN := by
  intro r9
  induction r9 with
  | zero => intro J t hr_t s m hM hs ht hy hm9; exact absurd hm9 (Nat.not_lt_zero _)
  | succ r9 ih =>
    intro J t hr_t s m hM hs ht hy hm9
    refine tz_Ok.of hl (by decide +kernel) rfl (tb_c1 rfl) (Nat.le_of_ble_eq_true rfl) ?_
    show tz_At l G M_X12_appliedBy (tb_rm (4 + 1 * (r9 + 1)) 0 0) none (tb_ZM G 0 0 (zQ n 0 (zqi (fun z J' => ∃ m', MG [] [] (fun _ => false) J' J 0 0 0 s m m' ∧ (J' 164 21 = 0 → 0 ≤ z ∧ z < m') ∧ ∀ (k : Nat) (β : Int → Int), (∀ v, 0 ≤ v → v < 8 → β v = J 174 v) → J 168 (0 + t) ≤ k → (tb0 J', z) = apO β k (tb0 J) t))) (zX n 0 zN)) 0 0 n J 0 [some (.ref 164), some (zi t), some (.ref 174), none, none, none, none] []
    have hT := hM.told
    have ha := hM.ar ht
    have g0 : MG [] [] (fun _ => false) J J 0 0 0 s m m := MG.rf hM
    refine tz_aload_n (pc := 0) dX12_appliedBy_0 rfl rfl ?_
    refine tz_fI (pc := 1) (kz := 21) (v := (J 164 21)) dX12_appliedBy_1 fl_X12_92 i_164_21 rfl rfl (fun r_1 => ?_)
    refine tz_if_eq (pc := 4) (tgt := 9) dX12_appliedBy_4 (by decide) (by omega) (fun h_4 => ?_) (fun h_4 => ?_)
    · refine tz_aload_n (pc := 9) dX12_appliedBy_9 rfl rfl ?_
      refine tz_iload_n (pc := 10) dX12_appliedBy_10 rfl rfl ?_
      refine tz_cV (pc := 11) (m_isVar hl n _ _ (by omega) 0 0 0 s m hM (by omega)) vl_X12_78 dX12_appliedBy_11 o_164 rfl rfl (Nat.le_of_ble_eq_true rfl) ⟨(show 1 + 1 ≤ 4 + 1 * (r9 + 1) by omega), (show 8 + (2 + 11) + 40 * (1) ≤ 40 * (4 + 1 * (r9 + 1)) by omega)⟩ rfl rfl (Nat.le_of_ble_eq_true rfl) (Nat.le_of_ble_eq_true rfl) (fun r9 J_11 hq9 => ?_)
      obtain ⟨z_11, rfl, hz_11, rfl, rfl⟩ := hq9
      by_cases hw_14 : J 166 (0 + t) < 0
      · rw [show (if J 166 (0 + t) < 0 then 1 else 0 : Int) = 1 from if_pos hw_14]
        refine tz_if_eqF (pc := 14) (tgt := 40) (by decide) dX12_appliedBy_14 (by decide) (by decide) ?_
        refine tz_aload_n (pc := 17) dX12_appliedBy_17 rfl rfl ?_
        refine tz_aload_n (pc := 18) dX12_appliedBy_18 rfl rfl ?_
        refine tz_iload_n (pc := 19) dX12_appliedBy_19 rfl rfl ?_
        refine tz_cV (pc := 20) (m_varOf hl n _ _ (by omega) 0 0 0 s m hM (by omega)) vl_X12_123 dX12_appliedBy_20 o_164 rfl rfl (Nat.le_of_ble_eq_true rfl) ⟨(show 1 + 1 ≤ 4 + 1 * (r9 + 1) by omega), (show 8 + (2 + 11) + 40 * (1) ≤ 40 * (4 + 1 * (r9 + 1)) by omega)⟩ rfl rfl (Nat.le_of_ble_eq_true rfl) (Nat.le_of_ble_eq_true rfl) (fun r9 J_20 hq9 => ?_)
        obtain ⟨z_20, rfl, hz_20, rfl, rfl⟩ := hq9
        have hv9 := hy (-1 - J 166 (0 + t)) (by omega) (by omega)
        refine tz_aL (pc := 23) (z := (-1 - J 166 (0 + t))) (v := (J 174 (-1 - J 166 (0 + t)))) dX12_appliedBy_23 a_174 rfl (by omega) rfl (fun r_23 => ?_)
        refine tz_iconst (pc := 24) dX12_appliedBy_24 ?_
        refine tz_icmp_ne (pc := 25) (tgt := 32) dX12_appliedBy_25 (by decide) (by omega) (by decide) (fun h_25 => ?_) (fun h_25 => ?_)
        · refine tz_aload_n (pc := 32) dX12_appliedBy_32 rfl rfl ?_
          refine tz_aload_n (pc := 33) dX12_appliedBy_33 rfl rfl ?_
          refine tz_iload_n (pc := 34) dX12_appliedBy_34 rfl rfl ?_
          refine tz_cV (pc := 35) (m_varOf hl n _ _ (by omega) 0 0 0 s m hM (by omega)) vl_X12_123 dX12_appliedBy_35 o_164 rfl rfl (Nat.le_of_ble_eq_true rfl) ⟨(show 1 + 1 ≤ 4 + 1 * (r9 + 1) by omega), (show 8 + (2 + 11) + 40 * (1) ≤ 40 * (4 + 1 * (r9 + 1)) by omega)⟩ rfl rfl (Nat.le_of_ble_eq_true rfl) (Nat.le_of_ble_eq_true rfl) (fun r9 J_35 hq9 => ?_)
          obtain ⟨z_35, rfl, hz_35, rfl, rfl⟩ := hq9
          refine tz_aL (pc := 38) (z := (-1 - J 166 (0 + t))) (v := (J 174 (-1 - J 166 (0 + t)))) dX12_appliedBy_38 a_174 rfl (by omega) rfl (fun r_38 => ?_)
          exact tz_iret (pc := 39) (z := (J 174 (-1 - J 166 (0 + t)))) dX12_appliedBy_39 rfl (Nat.le_of_ble_eq_true rfl) (Nat.le_of_ble_eq_true rfl) ⟨Nat.le_refl _, Nat.le_add_right _ _⟩ ⟨_, rfl, (by omega), ⟨m, g0, fun q9 => by omega, fun k β hβ hk => op_v hM ht hβ hk (by omega)⟩⟩
        · refine tz_iload_n (pc := 28) dX12_appliedBy_28 rfl rfl ?_
          refine tz_goto (pc := 29) (tgt := 39) dX12_appliedBy_29 (by decide) ?_
          exact tz_iret (pc := 39) (z := t) dX12_appliedBy_39 rfl (Nat.le_of_ble_eq_true rfl) (Nat.le_of_ble_eq_true rfl) ⟨Nat.le_refl _, Nat.le_add_right _ _⟩ ⟨_, rfl, (by omega), ⟨m, g0, fun q9 => by omega, fun k β hβ hk => op_v hM ht hβ hk (by omega)⟩⟩
      · rw [show (if J 166 (0 + t) < 0 then 1 else 0 : Int) = 0 from if_neg hw_14]
        refine tz_if_eqT (pc := 14) (tgt := 40) (by decide) dX12_appliedBy_14 (by decide) (by decide) ?_
        refine tz_aload_n (pc := 40) dX12_appliedBy_40 rfl rfl ?_
        refine tz_iload_n (pc := 41) dX12_appliedBy_41 rfl rfl ?_
        refine tz_cV (pc := 42) (m_arity hl n _ _ (by omega) 0 0 0 s m hM (by omega)) vl_X12_111 dX12_appliedBy_42 o_164 rfl rfl (Nat.le_of_ble_eq_true rfl) ⟨(show 2 + 1 ≤ 4 + 1 * (r9 + 1) by omega), (show 8 + (2 + 11) + 40 * (2) ≤ 40 * (4 + 1 * (r9 + 1)) by omega)⟩ rfl rfl (Nat.le_of_ble_eq_true rfl) (Nat.le_of_ble_eq_true rfl) (fun r9 J_42 hq9 => ?_)
        obtain ⟨z_42, rfl, hz_42, rfl, rfl⟩ := hq9
        refine tz_istore_n (pc := 45) (L2 := [_, _, _, _, _, _, _]) dX12_appliedBy_45 rfl (by decide) rfl ?_
        refine tz_iload_n (pc := 46) dX12_appliedBy_46 rfl rfl ?_
        refine tz_if_le (pc := 47) (tgt := 64) dX12_appliedBy_47 (by decide) (by omega) (fun h_47 => ?_) (fun h_47 => ?_)
        · refine tz_iconst (pc := 64) dX12_appliedBy_64 ?_
          refine tz_istore (pc := 65) (L2 := [_, _, _, _, _, _, _]) dX12_appliedBy_65 (by decide) rfl ?_
          refine tz_iload_n (pc := 67) dX12_appliedBy_67 rfl rfl ?_
          refine tz_iconst (pc := 68) dX12_appliedBy_68 ?_
          refine tz_icmp_le (pc := 69) (tgt := 86) dX12_appliedBy_69 (by decide) (by omega) (by decide) (fun h_69 => ?_) (fun h_69 => ?_)
          · refine tz_iconst (pc := 86) dX12_appliedBy_86 ?_
            refine tz_istore (pc := 87) (L2 := [_, _, _, _, _, _, _]) dX12_appliedBy_87 (by decide) rfl ?_
            refine tz_iload_n (pc := 89) dX12_appliedBy_89 rfl rfl ?_
            refine tz_iconst (pc := 90) dX12_appliedBy_90 ?_
            refine tz_icmp_le (pc := 91) (tgt := 108) dX12_appliedBy_91 (by decide) (by omega) (by decide) (fun h_91 => ?_) (fun h_91 => ?_)
            · refine tz_iconst (pc := 108) dX12_appliedBy_108 ?_
              refine tz_istore (pc := 109) (L2 := [_, _, _, _, _, _, _]) dX12_appliedBy_109 (by decide) rfl ?_
              refine tz_aload_n (pc := 111) dX12_appliedBy_111 rfl rfl ?_
              refine tz_iload_n (pc := 112) dX12_appliedBy_112 rfl rfl ?_
              refine tz_iload (pc := 113) dX12_appliedBy_113 rfl ?_
              refine tz_iload (pc := 115) dX12_appliedBy_115 rfl ?_
              refine tz_iload (pc := 117) dX12_appliedBy_117 rfl ?_
              have l0_119 := (g0).1.2
              have t0_119 := (g0).1.1.told
              refine tz_cV (pc := 119) (o_remade hl n _ _ _ _ _ (by omega) (by omega) (by omega) (by omega) s m (g0).1.1 (((g0).2.2.1.2.2.1 9 rfl).trans hs) (by omega) (fun q9 => by have e9 := (g0).ar ht ((g0).2.2.1.2.2.2 170 rfl); rw [e9]; omega)) vl_X12_152 dX12_appliedBy_119 o_164 rfl rfl (Nat.le_of_ble_eq_true rfl) ⟨(show 3 + 1 ≤ 4 + 1 * (r9 + 1) by omega), (show 8 + (5 + 11) + 40 * (3) ≤ 40 * (4 + 1 * (r9 + 1)) by omega)⟩ rfl rfl (Nat.le_of_ble_eq_true rfl) (Nat.le_of_ble_eq_true rfl) (fun r9 J_119 hq9 => ?_)
              obtain ⟨z_119, rfl, hz_119, m_119, g_119, h_119, x_119⟩ := hq9
              have q_119 := MG.tr g0 g_119
              have f_119 := g_119.2.2.2
              have l_119 := g_119.1.2
              exact tz_iret (pc := 122) (z := z_119) dX12_appliedBy_122 rfl (Nat.le_of_ble_eq_true rfl) (Nat.le_of_ble_eq_true rfl) ⟨Nat.le_refl _, Nat.le_add_right _ _⟩ ⟨_, rfl, (by omega), ⟨m_119, q_119, h_119, fun k β hβ hk => op_c hM ht (by omega) hk (fun k9 hk9 => mp_end (T := apO β k9) hM ht (Or.inr ⟨by omega, rfl, rfl⟩) (Or.inr ⟨by omega, rfl, rfl⟩) (Or.inr ⟨by omega, rfl, rfl⟩) (by have e7 := x_119; rw [show J 166 (0 + t) = J 166 (0 + t) from rfl] at e7; exact e7)) (by omega)⟩⟩
            · refine tz_aload_n (pc := 94) dX12_appliedBy_94 rfl rfl ?_
              refine tz_aload_n (pc := 95) dX12_appliedBy_95 rfl rfl ?_
              refine tz_iload_n (pc := 96) dX12_appliedBy_96 rfl rfl ?_
              refine tz_iconst (pc := 97) dX12_appliedBy_97 ?_
              refine tz_cV (pc := 98) (m_arg hl n _ _ _ (by omega) (by decide) 0 0 0 s m hM (by omega) (by omega)) vl_X12_88 dX12_appliedBy_98 o_164 rfl rfl (Nat.le_of_ble_eq_true rfl) ⟨(show 0 + 1 ≤ 4 + 1 * (r9 + 1) by omega), (show 8 + (3 + 11) + 40 * (0) ≤ 40 * (4 + 1 * (r9 + 1)) by omega)⟩ rfl rfl (Nat.le_of_ble_eq_true rfl) (Nat.le_of_ble_eq_true rfl) (fun r9 J_98 hq9 => ?_)
              obtain ⟨z_98, rfl, hz_98, rfl, rfl⟩ := hq9
              refine tz_aload_n (pc := 101) dX12_appliedBy_101 rfl rfl ?_
              have l0_102 := (g0).1.2
              have t0_102 := (g0).1.1.told
              have a_102 := hM.arg (t := t) (i := 2) ht (by omega)
              refine tz_cV (pc := 102) (ih _ _ (by omega) s m (g0).1.1 (((g0).2.2.1.2.2.1 9 rfl).trans hs) (by omega) (fun v x9 y9 => by have := hy v x9 y9; rw [(g0).2.2.1.2.2.2 174 rfl]; omega) (by rw [((g0).2.1 _ (by omega) (by omega)).1.2]; omega)) vl_X12_148 dX12_appliedBy_102 o_164 rfl rfl (Nat.le_of_ble_eq_true rfl) ⟨(show (4 + 1 * r9) + 1 ≤ 4 + 1 * (r9 + 1) by omega), (show 8 + (7 + 11) + 40 * ((4 + 1 * r9)) ≤ 40 * (4 + 1 * (r9 + 1)) by omega)⟩ rfl rfl (Nat.le_of_ble_eq_true rfl) (Nat.le_of_ble_eq_true rfl) (fun r9 J_102 hq9 => ?_)
              obtain ⟨z_102, rfl, hz_102, m_102, g_102, h_102, x_102⟩ := hq9
              have q_102 := MG.tr g0 g_102
              have f_102 := g_102.2.2.2
              have l_102 := g_102.1.2
              have w_102 : J 167 (3 * (0 + t) + 2) = J 167 (3 * (0 + t) + 2) := rfl
              have v_102 : J 174 = J 174 := rfl
              have y_102 : J 168 (0 + J 167 (3 * (0 + t) + 2)) = J 168 (0 + J 167 (3 * (0 + t) + 2)) := rfl
              refine tz_goto (pc := 105) (tgt := 109) dX12_appliedBy_105 (by decide) ?_
              refine tz_istore (pc := 109) (L2 := [_, _, _, _, _, _, _]) dX12_appliedBy_109 (by decide) rfl ?_
              refine tz_aload_n (pc := 111) dX12_appliedBy_111 rfl rfl ?_
              refine tz_iload_n (pc := 112) dX12_appliedBy_112 rfl rfl ?_
              refine tz_iload (pc := 113) dX12_appliedBy_113 rfl ?_
              refine tz_iload (pc := 115) dX12_appliedBy_115 rfl ?_
              refine tz_iload (pc := 117) dX12_appliedBy_117 rfl ?_
              have l0_119 := (q_102).1.2
              have t0_119 := (q_102).1.1.told
              refine tz_cV (pc := 119) (o_remade hl n _ _ _ _ _ (by omega) (by omega) (by omega) (by omega) s m_102 (q_102).1.1 (((q_102).2.2.1.2.2.1 9 rfl).trans hs) (by omega) (fun q9 => by have e9 := (q_102).ar ht ((q_102).2.2.1.2.2.2 170 rfl); rw [e9]; omega)) vl_X12_152 dX12_appliedBy_119 o_164 rfl rfl (Nat.le_of_ble_eq_true rfl) ⟨(show 3 + 1 ≤ 4 + 1 * (r9 + 1) by omega), (show 8 + (5 + 11) + 40 * (3) ≤ 40 * (4 + 1 * (r9 + 1)) by omega)⟩ rfl rfl (Nat.le_of_ble_eq_true rfl) (Nat.le_of_ble_eq_true rfl) (fun r9 J_119 hq9 => ?_)
              obtain ⟨z_119, rfl, hz_119, m_119, g_119, h_119, x_119⟩ := hq9
              have q_119 := MG.tr q_102 g_119
              have f_119 := g_119.2.2.2
              have l_119 := g_119.1.2
              exact tz_iret (pc := 122) (z := z_119) dX12_appliedBy_122 rfl (Nat.le_of_ble_eq_true rfl) (Nat.le_of_ble_eq_true rfl) ⟨Nat.le_refl _, Nat.le_add_right _ _⟩ ⟨_, rfl, (by omega), ⟨m_119, q_119, h_119, fun k β hβ hk => op_c hM ht (by omega) hk (fun k9 hk9 => mp_end (T := apO β k9) hM ht (Or.inr ⟨by omega, rfl, rfl⟩) (Or.inr ⟨by omega, rfl, rfl⟩) (Or.inl ⟨by omega, by rw [w_102]; exact x_102 k9 β (fun v a c => by rw [v_102]; exact hβ v a c) (by rw [y_102]; have d9 := (hM.td t ht.1 ht.2).2.2 2 (by decide) (by omega); dsimp only at d9; unfold mag at d9; omega)⟩) (by have e7 := x_119; rw [show J_102 166 (0 + t) = J 166 (0 + t) from ((q_102).2.1 t ht.1 ht.2).1.1] at e7; exact e7)) (by omega)⟩⟩
          · refine tz_aload_n (pc := 72) dX12_appliedBy_72 rfl rfl ?_
            refine tz_aload_n (pc := 73) dX12_appliedBy_73 rfl rfl ?_
            refine tz_iload_n (pc := 74) dX12_appliedBy_74 rfl rfl ?_
            refine tz_iconst (pc := 75) dX12_appliedBy_75 ?_
            refine tz_cV (pc := 76) (m_arg hl n _ _ _ (by omega) (by decide) 0 0 0 s m hM (by omega) (by omega)) vl_X12_88 dX12_appliedBy_76 o_164 rfl rfl (Nat.le_of_ble_eq_true rfl) ⟨(show 0 + 1 ≤ 4 + 1 * (r9 + 1) by omega), (show 8 + (3 + 11) + 40 * (0) ≤ 40 * (4 + 1 * (r9 + 1)) by omega)⟩ rfl rfl (Nat.le_of_ble_eq_true rfl) (Nat.le_of_ble_eq_true rfl) (fun r9 J_76 hq9 => ?_)
            obtain ⟨z_76, rfl, hz_76, rfl, rfl⟩ := hq9
            refine tz_aload_n (pc := 79) dX12_appliedBy_79 rfl rfl ?_
            have l0_80 := (g0).1.2
            have t0_80 := (g0).1.1.told
            have a_80 := hM.arg (t := t) (i := 1) ht (by omega)
            refine tz_cV (pc := 80) (ih _ _ (by omega) s m (g0).1.1 (((g0).2.2.1.2.2.1 9 rfl).trans hs) (by omega) (fun v x9 y9 => by have := hy v x9 y9; rw [(g0).2.2.1.2.2.2 174 rfl]; omega) (by rw [((g0).2.1 _ (by omega) (by omega)).1.2]; omega)) vl_X12_148 dX12_appliedBy_80 o_164 rfl rfl (Nat.le_of_ble_eq_true rfl) ⟨(show (4 + 1 * r9) + 1 ≤ 4 + 1 * (r9 + 1) by omega), (show 8 + (7 + 11) + 40 * ((4 + 1 * r9)) ≤ 40 * (4 + 1 * (r9 + 1)) by omega)⟩ rfl rfl (Nat.le_of_ble_eq_true rfl) (Nat.le_of_ble_eq_true rfl) (fun r9 J_80 hq9 => ?_)
            obtain ⟨z_80, rfl, hz_80, m_80, g_80, h_80, x_80⟩ := hq9
            have q_80 := MG.tr g0 g_80
            have f_80 := g_80.2.2.2
            have l_80 := g_80.1.2
            have w_80 : J 167 (3 * (0 + t) + 1) = J 167 (3 * (0 + t) + 1) := rfl
            have v_80 : J 174 = J 174 := rfl
            have y_80 : J 168 (0 + J 167 (3 * (0 + t) + 1)) = J 168 (0 + J 167 (3 * (0 + t) + 1)) := rfl
            refine tz_goto (pc := 83) (tgt := 87) dX12_appliedBy_83 (by decide) ?_
            refine tz_istore (pc := 87) (L2 := [_, _, _, _, _, _, _]) dX12_appliedBy_87 (by decide) rfl ?_
            refine tz_iload_n (pc := 89) dX12_appliedBy_89 rfl rfl ?_
            refine tz_iconst (pc := 90) dX12_appliedBy_90 ?_
            refine tz_icmp_le (pc := 91) (tgt := 108) dX12_appliedBy_91 (by decide) (by omega) (by decide) (fun h_91 => ?_) (fun h_91 => ?_)
            · refine tz_iconst (pc := 108) dX12_appliedBy_108 ?_
              refine tz_istore (pc := 109) (L2 := [_, _, _, _, _, _, _]) dX12_appliedBy_109 (by decide) rfl ?_
              refine tz_aload_n (pc := 111) dX12_appliedBy_111 rfl rfl ?_
              refine tz_iload_n (pc := 112) dX12_appliedBy_112 rfl rfl ?_
              refine tz_iload (pc := 113) dX12_appliedBy_113 rfl ?_
              refine tz_iload (pc := 115) dX12_appliedBy_115 rfl ?_
              refine tz_iload (pc := 117) dX12_appliedBy_117 rfl ?_
              have l0_119 := (q_80).1.2
              have t0_119 := (q_80).1.1.told
              refine tz_cV (pc := 119) (o_remade hl n _ _ _ _ _ (by omega) (by omega) (by omega) (by omega) s m_80 (q_80).1.1 (((q_80).2.2.1.2.2.1 9 rfl).trans hs) (by omega) (fun q9 => by have e9 := (q_80).ar ht ((q_80).2.2.1.2.2.2 170 rfl); rw [e9]; omega)) vl_X12_152 dX12_appliedBy_119 o_164 rfl rfl (Nat.le_of_ble_eq_true rfl) ⟨(show 3 + 1 ≤ 4 + 1 * (r9 + 1) by omega), (show 8 + (5 + 11) + 40 * (3) ≤ 40 * (4 + 1 * (r9 + 1)) by omega)⟩ rfl rfl (Nat.le_of_ble_eq_true rfl) (Nat.le_of_ble_eq_true rfl) (fun r9 J_119 hq9 => ?_)
              obtain ⟨z_119, rfl, hz_119, m_119, g_119, h_119, x_119⟩ := hq9
              have q_119 := MG.tr q_80 g_119
              have f_119 := g_119.2.2.2
              have l_119 := g_119.1.2
              exact tz_iret (pc := 122) (z := z_119) dX12_appliedBy_122 rfl (Nat.le_of_ble_eq_true rfl) (Nat.le_of_ble_eq_true rfl) ⟨Nat.le_refl _, Nat.le_add_right _ _⟩ ⟨_, rfl, (by omega), ⟨m_119, q_119, h_119, fun k β hβ hk => op_c hM ht (by omega) hk (fun k9 hk9 => mp_end (T := apO β k9) hM ht (Or.inr ⟨by omega, rfl, rfl⟩) (Or.inl ⟨by omega, by rw [w_80]; exact x_80 k9 β (fun v a c => by rw [v_80]; exact hβ v a c) (by rw [y_80]; have d9 := (hM.td t ht.1 ht.2).2.2 1 (by decide) (by omega); dsimp only at d9; unfold mag at d9; omega)⟩) (Or.inr ⟨by omega, rfl, rfl⟩) (by have e7 := x_119; rw [show J_80 166 (0 + t) = J 166 (0 + t) from ((q_80).2.1 t ht.1 ht.2).1.1] at e7; exact e7)) (by omega)⟩⟩
            · refine tz_aload_n (pc := 94) dX12_appliedBy_94 rfl rfl ?_
              refine tz_aload_n (pc := 95) dX12_appliedBy_95 rfl rfl ?_
              refine tz_iload_n (pc := 96) dX12_appliedBy_96 rfl rfl ?_
              refine tz_iconst (pc := 97) dX12_appliedBy_97 ?_
              have l_98 := (q_80).1.2
              have tt_98 := (q_80).1.1.told
              refine tz_cV (pc := 98) (m_arg hl n _ _ _ (by omega) (by decide) 0 0 0 s m_80 (q_80).1.1 (by omega) (by omega)) vl_X12_88 dX12_appliedBy_98 o_164 rfl rfl (Nat.le_of_ble_eq_true rfl) ⟨(show 0 + 1 ≤ 4 + 1 * (r9 + 1) by omega), (show 8 + (3 + 11) + 40 * (0) ≤ 40 * (4 + 1 * (r9 + 1)) by omega)⟩ rfl rfl (Nat.le_of_ble_eq_true rfl) (Nat.le_of_ble_eq_true rfl) (fun r9 J_98 hq9 => ?_)
              obtain ⟨z_98, rfl, hz_98, rfl, hv_98⟩ := hq9
              have he_98 : J_80 167 (3 * (0 + t) + 2) = J 167 (3 * (0 + t) + 2) := ((q_80).2.1 t ht.1 ht.2).2 2 (by omega) (by omega)
              rw [he_98] at hv_98
              obtain rfl : J 167 (3 * (0 + t) + 2) = z_98 := hv_98
              refine tz_aload_n (pc := 101) dX12_appliedBy_101 rfl rfl ?_
              have l0_102 := (q_80).1.2
              have t0_102 := (q_80).1.1.told
              have a_102 := hM.arg (t := t) (i := 2) ht (by omega)
              refine tz_cV (pc := 102) (ih _ _ (by omega) s m_80 (q_80).1.1 (((q_80).2.2.1.2.2.1 9 rfl).trans hs) (by omega) (fun v x9 y9 => by have := hy v x9 y9; rw [(q_80).2.2.1.2.2.2 174 rfl]; omega) (by rw [((q_80).2.1 _ (by omega) (by omega)).1.2]; omega)) vl_X12_148 dX12_appliedBy_102 o_164 rfl rfl (Nat.le_of_ble_eq_true rfl) ⟨(show (4 + 1 * r9) + 1 ≤ 4 + 1 * (r9 + 1) by omega), (show 8 + (7 + 11) + 40 * ((4 + 1 * r9)) ≤ 40 * (4 + 1 * (r9 + 1)) by omega)⟩ rfl rfl (Nat.le_of_ble_eq_true rfl) (Nat.le_of_ble_eq_true rfl) (fun r9 J_102 hq9 => ?_)
              obtain ⟨z_102, rfl, hz_102, m_102, g_102, h_102, x_102⟩ := hq9
              have q_102 := MG.tr q_80 g_102
              have f_102 := g_102.2.2.2
              have l_102 := g_102.1.2
              have w_102 : J_80 167 (3 * (0 + t) + 2) = J 167 (3 * (0 + t) + 2) := ((q_80).2.1 t ht.1 ht.2).2 2 (by decide) (by decide)
              have v_102 : J_80 174 = J 174 := (q_80).2.2.1.2.2.2 174 rfl
              have y_102 : J_80 168 (0 + J 167 (3 * (0 + t) + 2)) = J 168 (0 + J 167 (3 * (0 + t) + 2)) := ((q_80).2.1 _ (by omega) (by omega)).1.2
              refine tz_goto (pc := 105) (tgt := 109) dX12_appliedBy_105 (by decide) ?_
              refine tz_istore (pc := 109) (L2 := [_, _, _, _, _, _, _]) dX12_appliedBy_109 (by decide) rfl ?_
              refine tz_aload_n (pc := 111) dX12_appliedBy_111 rfl rfl ?_
              refine tz_iload_n (pc := 112) dX12_appliedBy_112 rfl rfl ?_
              refine tz_iload (pc := 113) dX12_appliedBy_113 rfl ?_
              refine tz_iload (pc := 115) dX12_appliedBy_115 rfl ?_
              refine tz_iload (pc := 117) dX12_appliedBy_117 rfl ?_
              have l0_119 := (q_102).1.2
              have t0_119 := (q_102).1.1.told
              refine tz_cV (pc := 119) (o_remade hl n _ _ _ _ _ (by omega) (by omega) (by omega) (by omega) s m_102 (q_102).1.1 (((q_102).2.2.1.2.2.1 9 rfl).trans hs) (by omega) (fun q9 => by have e9 := (q_102).ar ht ((q_102).2.2.1.2.2.2 170 rfl); rw [e9]; omega)) vl_X12_152 dX12_appliedBy_119 o_164 rfl rfl (Nat.le_of_ble_eq_true rfl) ⟨(show 3 + 1 ≤ 4 + 1 * (r9 + 1) by omega), (show 8 + (5 + 11) + 40 * (3) ≤ 40 * (4 + 1 * (r9 + 1)) by omega)⟩ rfl rfl (Nat.le_of_ble_eq_true rfl) (Nat.le_of_ble_eq_true rfl) (fun r9 J_119 hq9 => ?_)
              obtain ⟨z_119, rfl, hz_119, m_119, g_119, h_119, x_119⟩ := hq9
              have q_119 := MG.tr q_102 g_119
              have f_119 := g_119.2.2.2
              have l_119 := g_119.1.2
              exact tz_iret (pc := 122) (z := z_119) dX12_appliedBy_122 rfl (Nat.le_of_ble_eq_true rfl) (Nat.le_of_ble_eq_true rfl) ⟨Nat.le_refl _, Nat.le_add_right _ _⟩ ⟨_, rfl, (by omega), ⟨m_119, q_119, h_119, fun k β hβ hk => op_c hM ht (by omega) hk (fun k9 hk9 => mp_end (T := apO β k9) hM ht (Or.inr ⟨by omega, rfl, rfl⟩) (Or.inl ⟨by omega, by rw [w_80]; exact x_80 k9 β (fun v a c => by rw [v_80]; exact hβ v a c) (by rw [y_80]; have d9 := (hM.td t ht.1 ht.2).2.2 1 (by decide) (by omega); dsimp only at d9; unfold mag at d9; omega)⟩) (Or.inl ⟨by omega, by rw [w_102]; exact x_102 k9 β (fun v a c => by rw [v_102]; exact hβ v a c) (by rw [y_102]; have d9 := (hM.td t ht.1 ht.2).2.2 2 (by decide) (by omega); dsimp only at d9; unfold mag at d9; omega)⟩) (by have e7 := x_119; rw [show J_102 166 (0 + t) = J 166 (0 + t) from ((q_102).2.1 t ht.1 ht.2).1.1] at e7; exact e7)) (by omega)⟩⟩
        · refine tz_aload_n (pc := 50) dX12_appliedBy_50 rfl rfl ?_
          refine tz_aload_n (pc := 51) dX12_appliedBy_51 rfl rfl ?_
          refine tz_iload_n (pc := 52) dX12_appliedBy_52 rfl rfl ?_
          refine tz_iconst (pc := 53) dX12_appliedBy_53 ?_
          refine tz_cV (pc := 54) (m_arg hl n _ _ _ (by omega) (by decide) 0 0 0 s m hM (by omega) (by omega)) vl_X12_88 dX12_appliedBy_54 o_164 rfl rfl (Nat.le_of_ble_eq_true rfl) ⟨(show 0 + 1 ≤ 4 + 1 * (r9 + 1) by omega), (show 8 + (3 + 11) + 40 * (0) ≤ 40 * (4 + 1 * (r9 + 1)) by omega)⟩ rfl rfl (Nat.le_of_ble_eq_true rfl) (Nat.le_of_ble_eq_true rfl) (fun r9 J_54 hq9 => ?_)
          obtain ⟨z_54, rfl, hz_54, rfl, rfl⟩ := hq9
          refine tz_aload_n (pc := 57) dX12_appliedBy_57 rfl rfl ?_
          have l0_58 := (g0).1.2
          have t0_58 := (g0).1.1.told
          have a_58 := hM.arg (t := t) (i := 0) ht (by omega)
          refine tz_cV (pc := 58) (ih _ _ (by omega) s m (g0).1.1 (((g0).2.2.1.2.2.1 9 rfl).trans hs) (by omega) (fun v x9 y9 => by have := hy v x9 y9; rw [(g0).2.2.1.2.2.2 174 rfl]; omega) (by rw [((g0).2.1 _ (by omega) (by omega)).1.2]; omega)) vl_X12_148 dX12_appliedBy_58 o_164 rfl rfl (Nat.le_of_ble_eq_true rfl) ⟨(show (4 + 1 * r9) + 1 ≤ 4 + 1 * (r9 + 1) by omega), (show 8 + (7 + 11) + 40 * ((4 + 1 * r9)) ≤ 40 * (4 + 1 * (r9 + 1)) by omega)⟩ rfl rfl (Nat.le_of_ble_eq_true rfl) (Nat.le_of_ble_eq_true rfl) (fun r9 J_58 hq9 => ?_)
          obtain ⟨z_58, rfl, hz_58, m_58, g_58, h_58, x_58⟩ := hq9
          have q_58 := MG.tr g0 g_58
          have f_58 := g_58.2.2.2
          have l_58 := g_58.1.2
          have w_58 : J 167 (3 * (0 + t) + 0) = J 167 (3 * (0 + t) + 0) := rfl
          have v_58 : J 174 = J 174 := rfl
          have y_58 : J 168 (0 + J 167 (3 * (0 + t) + 0)) = J 168 (0 + J 167 (3 * (0 + t) + 0)) := rfl
          refine tz_goto (pc := 61) (tgt := 65) dX12_appliedBy_61 (by decide) ?_
          refine tz_istore (pc := 65) (L2 := [_, _, _, _, _, _, _]) dX12_appliedBy_65 (by decide) rfl ?_
          refine tz_iload_n (pc := 67) dX12_appliedBy_67 rfl rfl ?_
          refine tz_iconst (pc := 68) dX12_appliedBy_68 ?_
          refine tz_icmp_le (pc := 69) (tgt := 86) dX12_appliedBy_69 (by decide) (by omega) (by decide) (fun h_69 => ?_) (fun h_69 => ?_)
          · refine tz_iconst (pc := 86) dX12_appliedBy_86 ?_
            refine tz_istore (pc := 87) (L2 := [_, _, _, _, _, _, _]) dX12_appliedBy_87 (by decide) rfl ?_
            refine tz_iload_n (pc := 89) dX12_appliedBy_89 rfl rfl ?_
            refine tz_iconst (pc := 90) dX12_appliedBy_90 ?_
            refine tz_icmp_le (pc := 91) (tgt := 108) dX12_appliedBy_91 (by decide) (by omega) (by decide) (fun h_91 => ?_) (fun h_91 => ?_)
            · refine tz_iconst (pc := 108) dX12_appliedBy_108 ?_
              refine tz_istore (pc := 109) (L2 := [_, _, _, _, _, _, _]) dX12_appliedBy_109 (by decide) rfl ?_
              refine tz_aload_n (pc := 111) dX12_appliedBy_111 rfl rfl ?_
              refine tz_iload_n (pc := 112) dX12_appliedBy_112 rfl rfl ?_
              refine tz_iload (pc := 113) dX12_appliedBy_113 rfl ?_
              refine tz_iload (pc := 115) dX12_appliedBy_115 rfl ?_
              refine tz_iload (pc := 117) dX12_appliedBy_117 rfl ?_
              have l0_119 := (q_58).1.2
              have t0_119 := (q_58).1.1.told
              refine tz_cV (pc := 119) (o_remade hl n _ _ _ _ _ (by omega) (by omega) (by omega) (by omega) s m_58 (q_58).1.1 (((q_58).2.2.1.2.2.1 9 rfl).trans hs) (by omega) (fun q9 => by have e9 := (q_58).ar ht ((q_58).2.2.1.2.2.2 170 rfl); rw [e9]; omega)) vl_X12_152 dX12_appliedBy_119 o_164 rfl rfl (Nat.le_of_ble_eq_true rfl) ⟨(show 3 + 1 ≤ 4 + 1 * (r9 + 1) by omega), (show 8 + (5 + 11) + 40 * (3) ≤ 40 * (4 + 1 * (r9 + 1)) by omega)⟩ rfl rfl (Nat.le_of_ble_eq_true rfl) (Nat.le_of_ble_eq_true rfl) (fun r9 J_119 hq9 => ?_)
              obtain ⟨z_119, rfl, hz_119, m_119, g_119, h_119, x_119⟩ := hq9
              have q_119 := MG.tr q_58 g_119
              have f_119 := g_119.2.2.2
              have l_119 := g_119.1.2
              exact tz_iret (pc := 122) (z := z_119) dX12_appliedBy_122 rfl (Nat.le_of_ble_eq_true rfl) (Nat.le_of_ble_eq_true rfl) ⟨Nat.le_refl _, Nat.le_add_right _ _⟩ ⟨_, rfl, (by omega), ⟨m_119, q_119, h_119, fun k β hβ hk => op_c hM ht (by omega) hk (fun k9 hk9 => mp_end (T := apO β k9) hM ht (Or.inl ⟨by omega, by rw [w_58]; exact x_58 k9 β (fun v a c => by rw [v_58]; exact hβ v a c) (by rw [y_58]; have d9 := (hM.td t ht.1 ht.2).2.2 0 (by decide) (by omega); dsimp only at d9; unfold mag at d9; omega)⟩) (Or.inr ⟨by omega, rfl, rfl⟩) (Or.inr ⟨by omega, rfl, rfl⟩) (by have e7 := x_119; rw [show J_58 166 (0 + t) = J 166 (0 + t) from ((q_58).2.1 t ht.1 ht.2).1.1] at e7; exact e7)) (by omega)⟩⟩
            · refine tz_aload_n (pc := 94) dX12_appliedBy_94 rfl rfl ?_
              refine tz_aload_n (pc := 95) dX12_appliedBy_95 rfl rfl ?_
              refine tz_iload_n (pc := 96) dX12_appliedBy_96 rfl rfl ?_
              refine tz_iconst (pc := 97) dX12_appliedBy_97 ?_
              have l_98 := (q_58).1.2
              have tt_98 := (q_58).1.1.told
              refine tz_cV (pc := 98) (m_arg hl n _ _ _ (by omega) (by decide) 0 0 0 s m_58 (q_58).1.1 (by omega) (by omega)) vl_X12_88 dX12_appliedBy_98 o_164 rfl rfl (Nat.le_of_ble_eq_true rfl) ⟨(show 0 + 1 ≤ 4 + 1 * (r9 + 1) by omega), (show 8 + (3 + 11) + 40 * (0) ≤ 40 * (4 + 1 * (r9 + 1)) by omega)⟩ rfl rfl (Nat.le_of_ble_eq_true rfl) (Nat.le_of_ble_eq_true rfl) (fun r9 J_98 hq9 => ?_)
              obtain ⟨z_98, rfl, hz_98, rfl, hv_98⟩ := hq9
              have he_98 : J_58 167 (3 * (0 + t) + 2) = J 167 (3 * (0 + t) + 2) := ((q_58).2.1 t ht.1 ht.2).2 2 (by omega) (by omega)
              rw [he_98] at hv_98
              obtain rfl : J 167 (3 * (0 + t) + 2) = z_98 := hv_98
              refine tz_aload_n (pc := 101) dX12_appliedBy_101 rfl rfl ?_
              have l0_102 := (q_58).1.2
              have t0_102 := (q_58).1.1.told
              have a_102 := hM.arg (t := t) (i := 2) ht (by omega)
              refine tz_cV (pc := 102) (ih _ _ (by omega) s m_58 (q_58).1.1 (((q_58).2.2.1.2.2.1 9 rfl).trans hs) (by omega) (fun v x9 y9 => by have := hy v x9 y9; rw [(q_58).2.2.1.2.2.2 174 rfl]; omega) (by rw [((q_58).2.1 _ (by omega) (by omega)).1.2]; omega)) vl_X12_148 dX12_appliedBy_102 o_164 rfl rfl (Nat.le_of_ble_eq_true rfl) ⟨(show (4 + 1 * r9) + 1 ≤ 4 + 1 * (r9 + 1) by omega), (show 8 + (7 + 11) + 40 * ((4 + 1 * r9)) ≤ 40 * (4 + 1 * (r9 + 1)) by omega)⟩ rfl rfl (Nat.le_of_ble_eq_true rfl) (Nat.le_of_ble_eq_true rfl) (fun r9 J_102 hq9 => ?_)
              obtain ⟨z_102, rfl, hz_102, m_102, g_102, h_102, x_102⟩ := hq9
              have q_102 := MG.tr q_58 g_102
              have f_102 := g_102.2.2.2
              have l_102 := g_102.1.2
              have w_102 : J_58 167 (3 * (0 + t) + 2) = J 167 (3 * (0 + t) + 2) := ((q_58).2.1 t ht.1 ht.2).2 2 (by decide) (by decide)
              have v_102 : J_58 174 = J 174 := (q_58).2.2.1.2.2.2 174 rfl
              have y_102 : J_58 168 (0 + J 167 (3 * (0 + t) + 2)) = J 168 (0 + J 167 (3 * (0 + t) + 2)) := ((q_58).2.1 _ (by omega) (by omega)).1.2
              refine tz_goto (pc := 105) (tgt := 109) dX12_appliedBy_105 (by decide) ?_
              refine tz_istore (pc := 109) (L2 := [_, _, _, _, _, _, _]) dX12_appliedBy_109 (by decide) rfl ?_
              refine tz_aload_n (pc := 111) dX12_appliedBy_111 rfl rfl ?_
              refine tz_iload_n (pc := 112) dX12_appliedBy_112 rfl rfl ?_
              refine tz_iload (pc := 113) dX12_appliedBy_113 rfl ?_
              refine tz_iload (pc := 115) dX12_appliedBy_115 rfl ?_
              refine tz_iload (pc := 117) dX12_appliedBy_117 rfl ?_
              have l0_119 := (q_102).1.2
              have t0_119 := (q_102).1.1.told
              refine tz_cV (pc := 119) (o_remade hl n _ _ _ _ _ (by omega) (by omega) (by omega) (by omega) s m_102 (q_102).1.1 (((q_102).2.2.1.2.2.1 9 rfl).trans hs) (by omega) (fun q9 => by have e9 := (q_102).ar ht ((q_102).2.2.1.2.2.2 170 rfl); rw [e9]; omega)) vl_X12_152 dX12_appliedBy_119 o_164 rfl rfl (Nat.le_of_ble_eq_true rfl) ⟨(show 3 + 1 ≤ 4 + 1 * (r9 + 1) by omega), (show 8 + (5 + 11) + 40 * (3) ≤ 40 * (4 + 1 * (r9 + 1)) by omega)⟩ rfl rfl (Nat.le_of_ble_eq_true rfl) (Nat.le_of_ble_eq_true rfl) (fun r9 J_119 hq9 => ?_)
              obtain ⟨z_119, rfl, hz_119, m_119, g_119, h_119, x_119⟩ := hq9
              have q_119 := MG.tr q_102 g_119
              have f_119 := g_119.2.2.2
              have l_119 := g_119.1.2
              exact tz_iret (pc := 122) (z := z_119) dX12_appliedBy_122 rfl (Nat.le_of_ble_eq_true rfl) (Nat.le_of_ble_eq_true rfl) ⟨Nat.le_refl _, Nat.le_add_right _ _⟩ ⟨_, rfl, (by omega), ⟨m_119, q_119, h_119, fun k β hβ hk => op_c hM ht (by omega) hk (fun k9 hk9 => mp_end (T := apO β k9) hM ht (Or.inl ⟨by omega, by rw [w_58]; exact x_58 k9 β (fun v a c => by rw [v_58]; exact hβ v a c) (by rw [y_58]; have d9 := (hM.td t ht.1 ht.2).2.2 0 (by decide) (by omega); dsimp only at d9; unfold mag at d9; omega)⟩) (Or.inr ⟨by omega, rfl, rfl⟩) (Or.inl ⟨by omega, by rw [w_102]; exact x_102 k9 β (fun v a c => by rw [v_102]; exact hβ v a c) (by rw [y_102]; have d9 := (hM.td t ht.1 ht.2).2.2 2 (by decide) (by omega); dsimp only at d9; unfold mag at d9; omega)⟩) (by have e7 := x_119; rw [show J_102 166 (0 + t) = J 166 (0 + t) from ((q_102).2.1 t ht.1 ht.2).1.1] at e7; exact e7)) (by omega)⟩⟩
          · refine tz_aload_n (pc := 72) dX12_appliedBy_72 rfl rfl ?_
            refine tz_aload_n (pc := 73) dX12_appliedBy_73 rfl rfl ?_
            refine tz_iload_n (pc := 74) dX12_appliedBy_74 rfl rfl ?_
            refine tz_iconst (pc := 75) dX12_appliedBy_75 ?_
            have l_76 := (q_58).1.2
            have tt_76 := (q_58).1.1.told
            refine tz_cV (pc := 76) (m_arg hl n _ _ _ (by omega) (by decide) 0 0 0 s m_58 (q_58).1.1 (by omega) (by omega)) vl_X12_88 dX12_appliedBy_76 o_164 rfl rfl (Nat.le_of_ble_eq_true rfl) ⟨(show 0 + 1 ≤ 4 + 1 * (r9 + 1) by omega), (show 8 + (3 + 11) + 40 * (0) ≤ 40 * (4 + 1 * (r9 + 1)) by omega)⟩ rfl rfl (Nat.le_of_ble_eq_true rfl) (Nat.le_of_ble_eq_true rfl) (fun r9 J_76 hq9 => ?_)
            obtain ⟨z_76, rfl, hz_76, rfl, hv_76⟩ := hq9
            have he_76 : J_58 167 (3 * (0 + t) + 1) = J 167 (3 * (0 + t) + 1) := ((q_58).2.1 t ht.1 ht.2).2 1 (by omega) (by omega)
            rw [he_76] at hv_76
            obtain rfl : J 167 (3 * (0 + t) + 1) = z_76 := hv_76
            refine tz_aload_n (pc := 79) dX12_appliedBy_79 rfl rfl ?_
            have l0_80 := (q_58).1.2
            have t0_80 := (q_58).1.1.told
            have a_80 := hM.arg (t := t) (i := 1) ht (by omega)
            refine tz_cV (pc := 80) (ih _ _ (by omega) s m_58 (q_58).1.1 (((q_58).2.2.1.2.2.1 9 rfl).trans hs) (by omega) (fun v x9 y9 => by have := hy v x9 y9; rw [(q_58).2.2.1.2.2.2 174 rfl]; omega) (by rw [((q_58).2.1 _ (by omega) (by omega)).1.2]; omega)) vl_X12_148 dX12_appliedBy_80 o_164 rfl rfl (Nat.le_of_ble_eq_true rfl) ⟨(show (4 + 1 * r9) + 1 ≤ 4 + 1 * (r9 + 1) by omega), (show 8 + (7 + 11) + 40 * ((4 + 1 * r9)) ≤ 40 * (4 + 1 * (r9 + 1)) by omega)⟩ rfl rfl (Nat.le_of_ble_eq_true rfl) (Nat.le_of_ble_eq_true rfl) (fun r9 J_80 hq9 => ?_)
            obtain ⟨z_80, rfl, hz_80, m_80, g_80, h_80, x_80⟩ := hq9
            have q_80 := MG.tr q_58 g_80
            have f_80 := g_80.2.2.2
            have l_80 := g_80.1.2
            have w_80 : J_58 167 (3 * (0 + t) + 1) = J 167 (3 * (0 + t) + 1) := ((q_58).2.1 t ht.1 ht.2).2 1 (by decide) (by decide)
            have v_80 : J_58 174 = J 174 := (q_58).2.2.1.2.2.2 174 rfl
            have y_80 : J_58 168 (0 + J 167 (3 * (0 + t) + 1)) = J 168 (0 + J 167 (3 * (0 + t) + 1)) := ((q_58).2.1 _ (by omega) (by omega)).1.2
            refine tz_goto (pc := 83) (tgt := 87) dX12_appliedBy_83 (by decide) ?_
            refine tz_istore (pc := 87) (L2 := [_, _, _, _, _, _, _]) dX12_appliedBy_87 (by decide) rfl ?_
            refine tz_iload_n (pc := 89) dX12_appliedBy_89 rfl rfl ?_
            refine tz_iconst (pc := 90) dX12_appliedBy_90 ?_
            refine tz_icmp_le (pc := 91) (tgt := 108) dX12_appliedBy_91 (by decide) (by omega) (by decide) (fun h_91 => ?_) (fun h_91 => ?_)
            · refine tz_iconst (pc := 108) dX12_appliedBy_108 ?_
              refine tz_istore (pc := 109) (L2 := [_, _, _, _, _, _, _]) dX12_appliedBy_109 (by decide) rfl ?_
              refine tz_aload_n (pc := 111) dX12_appliedBy_111 rfl rfl ?_
              refine tz_iload_n (pc := 112) dX12_appliedBy_112 rfl rfl ?_
              refine tz_iload (pc := 113) dX12_appliedBy_113 rfl ?_
              refine tz_iload (pc := 115) dX12_appliedBy_115 rfl ?_
              refine tz_iload (pc := 117) dX12_appliedBy_117 rfl ?_
              have l0_119 := (q_80).1.2
              have t0_119 := (q_80).1.1.told
              refine tz_cV (pc := 119) (o_remade hl n _ _ _ _ _ (by omega) (by omega) (by omega) (by omega) s m_80 (q_80).1.1 (((q_80).2.2.1.2.2.1 9 rfl).trans hs) (by omega) (fun q9 => by have e9 := (q_80).ar ht ((q_80).2.2.1.2.2.2 170 rfl); rw [e9]; omega)) vl_X12_152 dX12_appliedBy_119 o_164 rfl rfl (Nat.le_of_ble_eq_true rfl) ⟨(show 3 + 1 ≤ 4 + 1 * (r9 + 1) by omega), (show 8 + (5 + 11) + 40 * (3) ≤ 40 * (4 + 1 * (r9 + 1)) by omega)⟩ rfl rfl (Nat.le_of_ble_eq_true rfl) (Nat.le_of_ble_eq_true rfl) (fun r9 J_119 hq9 => ?_)
              obtain ⟨z_119, rfl, hz_119, m_119, g_119, h_119, x_119⟩ := hq9
              have q_119 := MG.tr q_80 g_119
              have f_119 := g_119.2.2.2
              have l_119 := g_119.1.2
              exact tz_iret (pc := 122) (z := z_119) dX12_appliedBy_122 rfl (Nat.le_of_ble_eq_true rfl) (Nat.le_of_ble_eq_true rfl) ⟨Nat.le_refl _, Nat.le_add_right _ _⟩ ⟨_, rfl, (by omega), ⟨m_119, q_119, h_119, fun k β hβ hk => op_c hM ht (by omega) hk (fun k9 hk9 => mp_end (T := apO β k9) hM ht (Or.inl ⟨by omega, by rw [w_58]; exact x_58 k9 β (fun v a c => by rw [v_58]; exact hβ v a c) (by rw [y_58]; have d9 := (hM.td t ht.1 ht.2).2.2 0 (by decide) (by omega); dsimp only at d9; unfold mag at d9; omega)⟩) (Or.inl ⟨by omega, by rw [w_80]; exact x_80 k9 β (fun v a c => by rw [v_80]; exact hβ v a c) (by rw [y_80]; have d9 := (hM.td t ht.1 ht.2).2.2 1 (by decide) (by omega); dsimp only at d9; unfold mag at d9; omega)⟩) (Or.inr ⟨by omega, rfl, rfl⟩) (by have e7 := x_119; rw [show J_80 166 (0 + t) = J 166 (0 + t) from ((q_80).2.1 t ht.1 ht.2).1.1] at e7; exact e7)) (by omega)⟩⟩
            · refine tz_aload_n (pc := 94) dX12_appliedBy_94 rfl rfl ?_
              refine tz_aload_n (pc := 95) dX12_appliedBy_95 rfl rfl ?_
              refine tz_iload_n (pc := 96) dX12_appliedBy_96 rfl rfl ?_
              refine tz_iconst (pc := 97) dX12_appliedBy_97 ?_
              have l_98 := (q_80).1.2
              have tt_98 := (q_80).1.1.told
              refine tz_cV (pc := 98) (m_arg hl n _ _ _ (by omega) (by decide) 0 0 0 s m_80 (q_80).1.1 (by omega) (by omega)) vl_X12_88 dX12_appliedBy_98 o_164 rfl rfl (Nat.le_of_ble_eq_true rfl) ⟨(show 0 + 1 ≤ 4 + 1 * (r9 + 1) by omega), (show 8 + (3 + 11) + 40 * (0) ≤ 40 * (4 + 1 * (r9 + 1)) by omega)⟩ rfl rfl (Nat.le_of_ble_eq_true rfl) (Nat.le_of_ble_eq_true rfl) (fun r9 J_98 hq9 => ?_)
              obtain ⟨z_98, rfl, hz_98, rfl, hv_98⟩ := hq9
              have he_98 : J_80 167 (3 * (0 + t) + 2) = J 167 (3 * (0 + t) + 2) := ((q_80).2.1 t ht.1 ht.2).2 2 (by omega) (by omega)
              rw [he_98] at hv_98
              obtain rfl : J 167 (3 * (0 + t) + 2) = z_98 := hv_98
              refine tz_aload_n (pc := 101) dX12_appliedBy_101 rfl rfl ?_
              have l0_102 := (q_80).1.2
              have t0_102 := (q_80).1.1.told
              have a_102 := hM.arg (t := t) (i := 2) ht (by omega)
              refine tz_cV (pc := 102) (ih _ _ (by omega) s m_80 (q_80).1.1 (((q_80).2.2.1.2.2.1 9 rfl).trans hs) (by omega) (fun v x9 y9 => by have := hy v x9 y9; rw [(q_80).2.2.1.2.2.2 174 rfl]; omega) (by rw [((q_80).2.1 _ (by omega) (by omega)).1.2]; omega)) vl_X12_148 dX12_appliedBy_102 o_164 rfl rfl (Nat.le_of_ble_eq_true rfl) ⟨(show (4 + 1 * r9) + 1 ≤ 4 + 1 * (r9 + 1) by omega), (show 8 + (7 + 11) + 40 * ((4 + 1 * r9)) ≤ 40 * (4 + 1 * (r9 + 1)) by omega)⟩ rfl rfl (Nat.le_of_ble_eq_true rfl) (Nat.le_of_ble_eq_true rfl) (fun r9 J_102 hq9 => ?_)
              obtain ⟨z_102, rfl, hz_102, m_102, g_102, h_102, x_102⟩ := hq9
              have q_102 := MG.tr q_80 g_102
              have f_102 := g_102.2.2.2
              have l_102 := g_102.1.2
              have w_102 : J_80 167 (3 * (0 + t) + 2) = J 167 (3 * (0 + t) + 2) := ((q_80).2.1 t ht.1 ht.2).2 2 (by decide) (by decide)
              have v_102 : J_80 174 = J 174 := (q_80).2.2.1.2.2.2 174 rfl
              have y_102 : J_80 168 (0 + J 167 (3 * (0 + t) + 2)) = J 168 (0 + J 167 (3 * (0 + t) + 2)) := ((q_80).2.1 _ (by omega) (by omega)).1.2
              refine tz_goto (pc := 105) (tgt := 109) dX12_appliedBy_105 (by decide) ?_
              refine tz_istore (pc := 109) (L2 := [_, _, _, _, _, _, _]) dX12_appliedBy_109 (by decide) rfl ?_
              refine tz_aload_n (pc := 111) dX12_appliedBy_111 rfl rfl ?_
              refine tz_iload_n (pc := 112) dX12_appliedBy_112 rfl rfl ?_
              refine tz_iload (pc := 113) dX12_appliedBy_113 rfl ?_
              refine tz_iload (pc := 115) dX12_appliedBy_115 rfl ?_
              refine tz_iload (pc := 117) dX12_appliedBy_117 rfl ?_
              have l0_119 := (q_102).1.2
              have t0_119 := (q_102).1.1.told
              refine tz_cV (pc := 119) (o_remade hl n _ _ _ _ _ (by omega) (by omega) (by omega) (by omega) s m_102 (q_102).1.1 (((q_102).2.2.1.2.2.1 9 rfl).trans hs) (by omega) (fun q9 => by have e9 := (q_102).ar ht ((q_102).2.2.1.2.2.2 170 rfl); rw [e9]; omega)) vl_X12_152 dX12_appliedBy_119 o_164 rfl rfl (Nat.le_of_ble_eq_true rfl) ⟨(show 3 + 1 ≤ 4 + 1 * (r9 + 1) by omega), (show 8 + (5 + 11) + 40 * (3) ≤ 40 * (4 + 1 * (r9 + 1)) by omega)⟩ rfl rfl (Nat.le_of_ble_eq_true rfl) (Nat.le_of_ble_eq_true rfl) (fun r9 J_119 hq9 => ?_)
              obtain ⟨z_119, rfl, hz_119, m_119, g_119, h_119, x_119⟩ := hq9
              have q_119 := MG.tr q_102 g_119
              have f_119 := g_119.2.2.2
              have l_119 := g_119.1.2
              exact tz_iret (pc := 122) (z := z_119) dX12_appliedBy_122 rfl (Nat.le_of_ble_eq_true rfl) (Nat.le_of_ble_eq_true rfl) ⟨Nat.le_refl _, Nat.le_add_right _ _⟩ ⟨_, rfl, (by omega), ⟨m_119, q_119, h_119, fun k β hβ hk => op_c hM ht (by omega) hk (fun k9 hk9 => mp_end (T := apO β k9) hM ht (Or.inl ⟨by omega, by rw [w_58]; exact x_58 k9 β (fun v a c => by rw [v_58]; exact hβ v a c) (by rw [y_58]; have d9 := (hM.td t ht.1 ht.2).2.2 0 (by decide) (by omega); dsimp only at d9; unfold mag at d9; omega)⟩) (Or.inl ⟨by omega, by rw [w_80]; exact x_80 k9 β (fun v a c => by rw [v_80]; exact hβ v a c) (by rw [y_80]; have d9 := (hM.td t ht.1 ht.2).2.2 1 (by decide) (by omega); dsimp only at d9; unfold mag at d9; omega)⟩) (Or.inl ⟨by omega, by rw [w_102]; exact x_102 k9 β (fun v a c => by rw [v_102]; exact hβ v a c) (by rw [y_102]; have d9 := (hM.td t ht.1 ht.2).2.2 2 (by decide) (by omega); dsimp only at d9; unfold mag at d9; omega)⟩) (by have e7 := x_119; rw [show J_102 166 (0 + t) = J 166 (0 + t) from ((q_102).2.1 t ht.1 ht.2).1.1] at e7; exact e7)) (by omega)⟩⟩
    · refine tz_iconst (pc := 7) dX12_appliedBy_7 ?_
      exact tz_iret (pc := 8) (z := 0) dX12_appliedBy_8 rfl (Nat.le_of_ble_eq_true rfl) (Nat.le_of_ble_eq_true rfl) ⟨Nat.le_refl _, Nat.le_add_right _ _⟩ ⟨_, rfl, (by decide), ⟨m, g0, fun q9 => by omega, fun k β hβ hk => op_v hM ht hβ hk (by omega)⟩⟩

end
section
/-! ===== apply, exact ===== -/
/-- the bindings of a row -/
def bO (S : zJ) : Int → Int := fun v => S 165 (1 + v) - 1
theorem apO_5 {β : Int → Int} : ∀ (k : Nat) (S : zJ) (t q : Int), ¬ q = 0 → (apO β k S t).1 165 q = S 165 q
  | 0, _, _, _, _ => rfl
  | k + 1, S, t, q, h => by
    have a : ∀ G i, (apA (apO β k) G t (oar S (S 166 (0 + t))) i).1 165 q = G 165 q := fun G i => by
      unfold apA
      split
      · exact apO_5 k G _ q h
      · rfl
    rw [apO_s]
    split
    · split
      · rfl
      · show (tmO _ _ _ _ _).1 165 q = _
        rw [tmO_5 h]
        unfold ap2
        rw [a]
        unfold ap1
        rw [a]
        unfold ap0
        rw [a]
    · rfl
theorem EXO.q {F : zJ × Int} {S J' J : zJ} {z m : Int} (e : EXO F z J') (w : RW (J 19) (S 165)) (l : LI (J 19) m) (e19 : J' 19 = J 19) (h5 : ∀ k, ¬ k = 0 → F.1 165 k = S 165 k) : (z = -3 ∧ ¬ F.1 164 21 = 0) ∨ (0 ≤ z ∧ F.1 164 21 = 0 ∧ A0 J' F.1 ∧ z = F.2 ∧ RW (J' 19) (F.1 165)) := by
  rcases e with q | ⟨q1, q2, q3, q4⟩
  · exact Or.inl q
  · refine Or.inr ⟨q1, q2, q3, q4, ?_⟩
    rw [e19]
    exact w.to l (fun k a b => h5 k (by omega))
set_option maxHeartbeats 4000000 in
set_option maxRecDepth 100000 in
theorem x_applied19 {l : Launch} {G : tb_G} (hl : l.stackTraces = false) (n : Nat) (J : zJ) (t : Int) (hr_t : -2147483648 ≤ t ∧ t < 2147483648) (m : Int) (C : CT J m) (hm : J 6 12 = m) (ht : 0 ≤ t ∧ t < m) (hr : rOK J 19 7 m) : tz_Ok l G M_X2_applied 9 0 0 [.ref 141, zi t, .ref 19, zi 7] n J (zqi (fun z J' => ∃ m', GR J' J m m' ∧ (z = -3 ∨ (0 ≤ z ∧ z < m')) ∧ ∀ (S : zJ) (β : Int → Int), (∀ v, 0 ≤ v → v < 8 → β v = J 19 (7 + v)) → S 164 21 = 0 → A0 J S → EXO (apO β 6 S t) z J')) zN := by
  refine tz_Ok.of hl (by decide +kernel) rfl (tb_c1 rfl) (Nat.le_of_ble_eq_true rfl) ?_
  show tz_At l G M_X2_applied (tb_rm 9 0 0) none (tb_ZM G 0 0 (zQ n 0 (zqi (fun z J' => ∃ m', GR J' J m m' ∧ (z = -3 ∨ (0 ≤ z ∧ z < m')) ∧ ∀ (S : zJ) (β : Int → Int), (∀ v, 0 ≤ v → v < 8 → β v = J 19 (7 + v)) → S 164 21 = 0 → A0 J S → EXO (apO β 6 S t) z J'))) (zX n 0 zN)) 0 0 n J 0 [some (.ref 141), some (zi t), some (.ref 19), some (zi 7)] []
  refine tz_aload_n (pc := 0) dX2_applied_0 rfl rfl ?_
  refine tz_iload_n (pc := 1) dX2_applied_1 rfl rfl ?_
  refine tz_aload_n (pc := 2) dX2_applied_2 rfl rfl ?_
  refine tz_iload_n (pc := 3) dX2_applied_3 rfl rfl ?_
  refine tz_iconst (pc := 4) dX2_applied_4 ?_
  refine tz_cV (pc := 5) (x_app19_1 hl n _ _ (by omega) m C hm ht hr) vl_X2_32 dX2_applied_5 o_141 rfl rfl (Nat.le_of_ble_eq_true rfl) ⟨(Nat.le_of_ble_eq_true rfl), (Nat.le_of_ble_eq_true rfl)⟩ rfl rfl (Nat.le_of_ble_eq_true rfl) (Nat.le_of_ble_eq_true rfl) (fun r9 J_5 hq9 => ?_)
  obtain ⟨z_5, rfl, hz_5, m1, g1, h1, x1⟩ := hq9
  exact tz_iret (pc := 8) (z := z_5) dX2_applied_8 rfl (Nat.le_of_ble_eq_true rfl) (Nat.le_of_ble_eq_true rfl) ⟨Nat.le_refl _, Nat.le_add_right _ _⟩ ⟨_, rfl, (by omega), ⟨m1, g1, h1, x1⟩⟩

set_option maxHeartbeats 4000000 in
set_option maxRecDepth 100000 in
theorem x_applied140 {l : Launch} {G : tb_G} (hl : l.stackTraces = false) (n : Nat) (J : zJ) (t : Int) (hr_t : -2147483648 ≤ t ∧ t < 2147483648) (m : Int) (C : CT J m) (hm : J 6 12 = m) (ht : 0 ≤ t ∧ t < m) (hr : rOK J 140 0 m) : tz_Ok l G M_X2_applied 9 0 0 [.ref 141, zi t, .ref 140, zi 0] n J (zqi (fun z J' => ∃ m', GR J' J m m' ∧ (z = -3 ∨ (0 ≤ z ∧ z < m')) ∧ ∀ (S : zJ) (β : Int → Int), (∀ v, 0 ≤ v → v < 8 → β v = J 140 (0 + v)) → S 164 21 = 0 → A0 J S → EXO (apO β 6 S t) z J')) zN := by
  refine tz_Ok.of hl (by decide +kernel) rfl (tb_c1 rfl) (Nat.le_of_ble_eq_true rfl) ?_
  show tz_At l G M_X2_applied (tb_rm 9 0 0) none (tb_ZM G 0 0 (zQ n 0 (zqi (fun z J' => ∃ m', GR J' J m m' ∧ (z = -3 ∨ (0 ≤ z ∧ z < m')) ∧ ∀ (S : zJ) (β : Int → Int), (∀ v, 0 ≤ v → v < 8 → β v = J 140 (0 + v)) → S 164 21 = 0 → A0 J S → EXO (apO β 6 S t) z J'))) (zX n 0 zN)) 0 0 n J 0 [some (.ref 141), some (zi t), some (.ref 140), some (zi 0)] []
  refine tz_aload_n (pc := 0) dX2_applied_0 rfl rfl ?_
  refine tz_iload_n (pc := 1) dX2_applied_1 rfl rfl ?_
  refine tz_aload_n (pc := 2) dX2_applied_2 rfl rfl ?_
  refine tz_iload_n (pc := 3) dX2_applied_3 rfl rfl ?_
  refine tz_iconst (pc := 4) dX2_applied_4 ?_
  refine tz_cV (pc := 5) (x_app140_1 hl n _ _ (by omega) m C hm ht hr) vl_X2_32 dX2_applied_5 o_141 rfl rfl (Nat.le_of_ble_eq_true rfl) ⟨(Nat.le_of_ble_eq_true rfl), (Nat.le_of_ble_eq_true rfl)⟩ rfl rfl (Nat.le_of_ble_eq_true rfl) (Nat.le_of_ble_eq_true rfl) (fun r9 J_5 hq9 => ?_)
  obtain ⟨z_5, rfl, hz_5, m1, g1, h1, x1⟩ := hq9
  exact tz_iret (pc := 8) (z := z_5) dX2_applied_8 rfl (Nat.le_of_ble_eq_true rfl) (Nat.le_of_ble_eq_true rfl) ⟨Nat.le_refl _, Nat.le_add_right _ _⟩ ⟨_, rfl, (by omega), ⟨m1, g1, h1, x1⟩⟩

set_option maxHeartbeats 4000000 in
set_option maxRecDepth 100000 in
theorem v_apply {l : Launch} {G : tb_G} (hl : l.stackTraces = false) (n : Nat) (J : zJ) (t : Int) (hr_t : -2147483648 ≤ t ∧ t < 2147483648) (m : Int) (S : zJ) (pn : Int) (RR : Int → Int → Int) (hI : CI J m) (h9 : J 145 10 < 1000000000) (cc : CAL J S pn RR) (h21 : S 164 21 = 0) : tz_Ok l G M_X11_apply 10 0 0 [.ref 0, zi t] n J (zqi (fun z J' => CQ J' J ∧ (((0 ≤ t ∧ t < J 6 12) ∧ ED S pn RR (apO (bO S) 6 S t) J' z) ∨ (¬ (0 ≤ t ∧ t < J 6 12) ∧ z = -1 ∧ CAL J' S pn RR)))) zN := by
  refine tz_Ok.of hl (by decide +kernel) rfl (tb_c1 rfl) (Nat.le_of_ble_eq_true rfl) ?_
  show tz_At l G M_X11_apply (tb_rm 10 0 0) none (tb_ZM G 0 0 (zQ n 0 (zqi (fun z J' => CQ J' J ∧ (((0 ≤ t ∧ t < J 6 12) ∧ ED S pn RR (apO (bO S) 6 S t) J' z) ∨ (¬ (0 ≤ t ∧ t < J 6 12) ∧ z = -1 ∧ CAL J' S pn RR))))) (zX n 0 zN)) 0 0 n J 0 [some (.ref 0), some (zi t)] []
  have hC := hI.1.1.1
  have hm := hI.1.1.2.1
  have hL := hI.1.1.2.2
  have hb := hC.told
  have wb := cc.2.1.b hL
  refine tz_aload_n (pc := 0) dX11_apply_0 rfl rfl ?_
  refine tz_fR (pc := 1) dX11_apply_1 fl_X11_29 r_0_1 ?_
  refine tz_fR (pc := 4) dX11_apply_4 fl_X11_49 r_5_0 ?_
  refine tz_iload_n (pc := 7) dX11_apply_7 rfl rfl ?_
  refine tz_cV (pc := 8) (c_has hl n _ _ (by omega)) vl_X11_304 dX11_apply_8 o_6 rfl rfl (Nat.le_of_ble_eq_true rfl) ⟨(Nat.le_of_ble_eq_true rfl), (Nat.le_of_ble_eq_true rfl)⟩ rfl rfl (Nat.le_of_ble_eq_true rfl) (Nat.le_of_ble_eq_true rfl) (fun r9 J_8 hq9 => ?_)
  obtain ⟨z_8, rfl, hz_8, rfl, rfl⟩ := hq9
  by_cases hw_11 : 0 ≤ t ∧ t < J 6 12
  · rw [show (if 0 ≤ t ∧ t < J 6 12 then 1 else 0 : Int) = 1 from if_pos hw_11]
    refine tz_if_neT (pc := 11) (tgt := 21) (by decide) dX11_apply_11 (by decide) (by decide) ?_
    refine tz_aload_n (pc := 21) dX11_apply_21 rfl rfl ?_
    refine tz_fR (pc := 22) dX11_apply_22 fl_X11_29 r_0_1 ?_
    refine tz_cV (pc := 25) (c_begin hl n _) vl_X11_287 dX11_apply_25 o_5 rfl rfl (Nat.le_of_ble_eq_true rfl) ⟨(Nat.le_of_ble_eq_true rfl), (Nat.le_of_ble_eq_true rfl)⟩ rfl rfl (Nat.le_of_ble_eq_true rfl) (Nat.le_of_ble_eq_true rfl) (fun r9 Jb hq9 => ?_)
    obtain ⟨rfl, hj⟩ := hq9
    have hb9 : zOf (zbut [19, 61]) Jb J := by rw [← hj]; exact zOf.cp rfl (zOf.up rfl zOf.rf)
    have hb19 : ∀ k, ¬ k = 0 → Jb 19 k = J 19 k := fun k hk => by rw [← hj, zcp_nc (by decide), zup_ne hk]
    have a0 : AC Jb m m := by rw [← hj]; exact hI.begin
    have hb6 := a0.1.1.2.1
    obtain ⟨cb, kb, lb⟩ := cc.begin hI hj
    refine tz_aload_n (pc := 28) dX11_apply_28 rfl rfl ?_
    refine tz_aload_n (pc := 29) dX11_apply_29 rfl rfl ?_
    refine tz_fR (pc := 30) dX11_apply_30 fl_X11_62 r_0_7 ?_
    refine tz_iload_n (pc := 33) dX11_apply_33 rfl rfl ?_
    refine tz_aload_n (pc := 34) dX11_apply_34 rfl rfl ?_
    refine tz_fR (pc := 35) dX11_apply_35 fl_X11_29 r_0_1 ?_
    refine tz_fR (pc := 38) dX11_apply_38 fl_X11_156 r_5_1 ?_
    refine tz_fR (pc := 41) dX11_apply_41 fl_X11_167 r_18_0 ?_
    refine tz_bipush (pc := 44) dX11_apply_44 (by decide) ?_
    refine tz_cV (pc := 46) (x_applied19 hl n _ _ (by omega) m a0.1.1.1 a0.1.1.2.1 (by omega) a0.1.1.2.2.2.1) vl_X11_308 dX11_apply_46 o_141 rfl rfl (Nat.le_of_ble_eq_true rfl) ⟨(Nat.le_of_ble_eq_true rfl), (Nat.le_of_ble_eq_true rfl)⟩ rfl rfl (Nat.le_of_ble_eq_true rfl) (Nat.le_of_ble_eq_true rfl) (fun r9 J_46 hq9 => ?_)
    obtain ⟨z_46, rfl, hz_46, m1, g1, h1, x1⟩ := hq9
    have a1 := a0.gx0 (g1.x (X := [])) rfl
    have o1 := (x1 S (bO S) (fun v a b => by have := cb.2.1.2.2.2.2 v a b; unfold bO; omega) h21 cb.1).q cb.2.1 a0.1.1.2.2 (g1.2.2.2.2 19 rfl) (fun k h => apO_5 6 S t k h)
    refine tz_cV (pc := 49) (x_settled hl n _ _ (by omega) m m1 a1) vl_X11_293 dX11_apply_49 o_0 rfl rfl (Nat.le_of_ble_eq_true rfl) ⟨(Nat.le_of_ble_eq_true rfl), (Nat.le_of_ble_eq_true rfl)⟩ rfl rfl (Nat.le_of_ble_eq_true rfl) (Nat.le_of_ble_eq_true rfl) (fun r9 J_49 hq9 => ?_)
    obtain ⟨z_49, rfl, hz_49, s9, s8⟩ := hq9
    exact tz_iret (pc := 52) (z := z_49) dX11_apply_52 rfl (Nat.le_of_ble_eq_true rfl) (Nat.le_of_ble_eq_true rfl) ⟨Nat.le_refl _, Nat.le_add_right _ _⟩ ⟨_, rfl, (by omega), ⟨(s9.cq (by rw [g1.2.2.2.2 145 rfl, hb9 145 rfl]; omega) ((g1.2.2.2.2 0 rfl).trans (hb9 0 rfl)) ((g1.2.2.2.2.mono (fun c hc => by have := of_decide_eq_true hc; simp [zbut]; omega)).tr (hb9.mono (fun c hc => by have := of_decide_eq_true hc; simp [zbut]; omega)))), Or.inl ⟨by omega, act_end cc hI hj (g1.x (X := [])) rfl o1 s8⟩⟩⟩
  · rw [show (if 0 ≤ t ∧ t < J 6 12 then 1 else 0 : Int) = 0 from if_neg hw_11]
    refine tz_if_neF (pc := 11) (tgt := 21) (by decide) dX11_apply_11 (by decide) (by decide) ?_
    refine tz_aload_n (pc := 14) dX11_apply_14 rfl rfl ?_
    refine tz_iconst (pc := 15) dX11_apply_15 ?_
    refine tz_iconst (pc := 16) dX11_apply_16 ?_
    refine tz_cV (pc := 17) (c_refused hl n _ _ _ (by decide) (by omega) (by decide)) vl_X11_284 dX11_apply_17 o_0 rfl rfl (Nat.le_of_ble_eq_true rfl) ⟨(Nat.le_of_ble_eq_true rfl), (Nat.le_of_ble_eq_true rfl)⟩ rfl rfl (Nat.le_of_ble_eq_true rfl) (Nat.le_of_ble_eq_true rfl) (fun r9 J_17 hq9 => ?_)
    obtain ⟨z_17, rfl, hz_17, f9, rfl⟩ := hq9
    exact tz_iret (pc := 20) (z := (-1)) dX11_apply_20 rfl (Nat.le_of_ble_eq_true rfl) (Nat.le_of_ble_eq_true rfl) ⟨Nat.le_refl _, Nat.le_add_right _ _⟩ ⟨_, rfl, (by decide), ⟨(SQ.cq ⟨⟨m, hI.st f9⟩, f9 145 rfl, f9 0 rfl, (f9.mono (fun c hc => by have := of_decide_eq_true hc; simp [zbut]; omega))⟩ (by omega) rfl zOf.rf), Or.inr ⟨by omega, rfl, cc.st hI f9⟩⟩⟩

set_option maxHeartbeats 4000000 in
set_option maxRecDepth 100000 in
theorem x_laysB {l : Launch} {G : tb_G} (hl : l.stackTraces = false) (n : Nat) (J : zJ)   (m : Int) (hb : ∀ v, 1 ≤ v → v ≤ 8 → 0 ≤ J 165 v ∧ J 165 v ≤ m) (h4 : m ≤ 400) : tz_Ok l G M_X12_laysBound 0 0 0 [.ref 164] n J (zqv (fun J' => (∀ v, 0 ≤ v → v < 8 → J' 175 v = J 165 (1 + v) - 1) ∧ zOf (zbut [175]) J' J)) zN := by
  refine tz_Ok.of hl (by decide +kernel) rfl (tb_c1 rfl) (Nat.le_of_ble_eq_true rfl) ?_
  show tz_At l G M_X12_laysBound (tb_rm 0 0 0) none (tb_ZM G 0 0 (zQ n 0 (zqv (fun J' => (∀ v, 0 ≤ v → v < 8 → J' 175 v = J 165 (1 + v) - 1) ∧ zOf (zbut [175]) J' J))) (zX n 0 zN)) 0 0 n J 0 [some (.ref 164), none] []
  refine tz_iconst (pc := 0) dX12_laysBound_0 ?_
  refine tz_istore_n (pc := 1) (L2 := [_, _]) dX12_laysBound_1 rfl (by decide) rfl ?_
  have loop2 : ∀ (f9 : Nat) (k : Int) (J1 : zJ), ((8 - k).toNat) < f9 → (0 ≤ k ∧ k ≤ 8) → (zOf (zbut [175]) J1 J) → (∀ v, 0 ≤ v → v < k → J1 175 v = J 165 (1 + v) - 1) → tz_At l G M_X12_laysBound (tb_rm 0 0 0) none (tb_ZM G 0 0 (zQ n 0 (zqv (fun J' => (∀ v, 0 ≤ v → v < 8 → J' 175 v = J 165 (1 + v) - 1) ∧ zOf (zbut [175]) J' J))) (zX n 0 zN)) 0 0 n J1 2 [some (.ref 164), some (zi k)] [] := by
    intro f9
    induction f9 with
    | zero => intro k J1 hm9; exact absurd hm9 (Nat.not_lt_zero _)
    | succ f9 ih2 =>
      intro k J1 hm2 hk f1 h1
      refine tz_iload_n (pc := 2) dX12_laysBound_2 rfl rfl ?_
      refine tz_bipush (pc := 3) dX12_laysBound_3 (by decide) ?_
      refine tz_icmp_ge (pc := 5) (tgt := 30) dX12_laysBound_5 (by decide) (by omega) (by decide) (fun h_5 => ?_) (fun h_5 => ?_)
      · exact tz_vret (pc := 30) dX12_laysBound_30 rfl (Nat.le_of_ble_eq_true rfl) (Nat.le_of_ble_eq_true rfl) ⟨Nat.le_refl _, Nat.le_add_right _ _⟩ ⟨rfl, ⟨fun v a c => h1 v a (by omega), f1⟩⟩
      · refine tz_aload_n (pc := 8) dX12_laysBound_8 rfl rfl ?_
        refine tz_fR (pc := 9) dX12_laysBound_9 fl_X12_44 r_164_23 ?_
        refine tz_iload_n (pc := 12) dX12_laysBound_12 rfl rfl ?_
        refine tz_aload_n (pc := 13) dX12_laysBound_13 rfl rfl ?_
        refine tz_fR (pc := 14) dX12_laysBound_14 fl_X12_9 r_164_0 ?_
        refine tz_iconst (pc := 17) dX12_laysBound_17 ?_
        refine tz_iload_n (pc := 18) dX12_laysBound_18 rfl rfl ?_
        refine tz_iadd (pc := 19) (v := 1 + k) dX12_laysBound_19 rfl ?_
        refine tz_aL (pc := 20) (z := (1 + k)) (v := (J 165 (1 + k))) dX12_laysBound_20 a_165 rfl (by omega) (Eq.trans (congrFun (f1 165 rfl) (1 + k)) rfl) (fun r_20 => ?_)
        refine tz_iconst (pc := 21) dX12_laysBound_21 ?_
        refine tz_isub (pc := 22) (v := (J 165 (1 + k)) - 1) dX12_laysBound_22 rfl ?_
        have hb9 := hb (1 + k) (by omega) (by omega)
        refine tz_aS (pc := 23) (z := k) dX12_laysBound_23 a_175 rfl (by omega) (by omega) ?_
        refine tz_iinc (pc := 24) (z := k + 1) (L2 := [_, _]) dX12_laysBound_24 rfl (by omega) rfl ?_
        refine tz_goto (pc := 27) (tgt := 2) dX12_laysBound_27 (by decide) ?_
        exact ih2 (k + 1) _ (by omega) (by omega) (zOf.up rfl f1) (fun v a c => (Decidable.em (v = k)).elim (fun e => by rw [e, zup_at]) (fun e => by rw [zup_ne e]; exact h1 v a (by omega)))
  exact loop2 _ 0 _ (Nat.lt_succ_self _) (by omega) zOf.rf (fun v a c => by omega)

theorem o_appB {l : Launch} {G : tb_G} (hl : l.stackTraces = false) (n : Nat) (J : zJ) (t : Int) (hr_t : -2147483648 ≤ t ∧ t < 2147483648) (s m : Int) (hM : MS J 0 0 0 s m) (hs : J 164 9 = s) (ht : 0 ≤ t ∧ t < m) (hy : gOK (J 175) m) : tz_Ok l G M_X12_appliedBy 11 0 0 [.ref 164, zi t, .ref 175] n J (zqi (fun z J' => ∃ m', MG [] [] (fun _ => false) J' J 0 0 0 s m m' ∧ (J' 164 21 = 0 → 0 ≤ z ∧ z < m') ∧ ∀ (k : Nat) (β : Int → Int), (∀ v, 0 ≤ v → v < 8 → β v = J 175 v) → J 168 (0 + t) ≤ k → (tb0 J', z) = apO β k (tb0 J) t)) zN := o_appBR hl n 7 J t hr_t s m hM hs ht hy (by have := (hM.ar ht).2.2.1; omega)
theorem MOP.c {Jo J1 Jb : zJ} {m : Int} (p : MOP Jo J1 m) (f : zOf (zbut [175]) J1 Jb) : MOP Jo Jb m := by
  unfold MOP MFI at *
  rw [← f 164 rfl, ← f 165 rfl, ← f 166 rfl, ← f 167 rfl, ← f 168 rfl, ← f 169 rfl, ← f 170 rfl, ← f 171 rfl]
  exact p
theorem tb0_c {J1 J : zJ} (f : zOf (zbut [175]) J1 J) : tb0 J1 = tb0 J := tb0_of (by rw [f 164 rfl]) (by rw [f 164 rfl]) (fun k _ _ => by rw [f 165 rfl]) (fun k _ _ => ⟨by rw [f 166 rfl], by rw [f 168 rfl]⟩) (fun k _ _ => by rw [f 167 rfl]) (fun k _ _ => ⟨by rw [f 169 rfl], by rw [f 170 rfl], by rw [f 171 rfl]⟩)
set_option maxHeartbeats 4000000 in
set_option maxRecDepth 100000 in
theorem v_qapply {l : Launch} {G : tb_G} (hl : l.stackTraces = false) (n : Nat) (J : zJ) (x : Int) (hr_x : -2147483648 ≤ x ∧ x < 2147483648) (m : Int) (pn : Int) (RR : Int → Int → Int) (hI : MI J m) (u9 : MUr J pn RR) : tz_Ok l G M_X12_apply 12 0 0 [.ref 164, zi x] n J (zqi (fun z J' => MQr J' J ∧ MFI J' J ∧ (((0 ≤ x ∧ x < J 165 0) ∧ MED (tbz J) pn RR (apO (bO (tbz J)) 6 (tbz J) x) J' z) ∨ (¬ (0 ≤ x ∧ x < J 165 0) ∧ z = -1 ∧ MBT J' (tbz J) ∧ MUr J' pn RR)))) zN := by
  refine tz_Ok.of hl (by decide +kernel) rfl (tb_c1 rfl) (Nat.le_of_ble_eq_true rfl) ?_
  show tz_At l G M_X12_apply (tb_rm 12 0 0) none (tb_ZM G 0 0 (zQ n 0 (zqi (fun z J' => MQr J' J ∧ MFI J' J ∧ (((0 ≤ x ∧ x < J 165 0) ∧ MED (tbz J) pn RR (apO (bO (tbz J)) 6 (tbz J) x) J' z) ∨ (¬ (0 ≤ x ∧ x < J 165 0) ∧ z = -1 ∧ MBT J' (tbz J) ∧ MUr J' pn RR))))) (zX n 0 zN)) 0 0 n J 0 [some (.ref 164), some (zi x)] []
  have hT := hI.told
  have hW := hI.row
  have hM := hI.1
  have hL := hI.2.1
  refine tz_aload_n (pc := 0) dX12_apply_0 rfl rfl ?_
  refine tz_iconst (pc := 1) dX12_apply_1 ?_
  refine tz_pI (pc := 2) (kz := 8) dX12_apply_2 fl_X12_68 i_164_8 rfl rfl (by decide) ?_
  refine tz_aload_n (pc := 5) dX12_apply_5 rfl rfl ?_
  refine tz_iload_n (pc := 6) dX12_apply_6 rfl rfl ?_
  refine tz_cV (pc := 7) (m_isTerm hl n _ _ (by omega) (by rw [(show ((zup J 164 8 0) : zJ) 165 0 = (J 165 0) from rfl)]; omega)) vl_X12_376 dX12_apply_7 o_164 rfl rfl (Nat.le_of_ble_eq_true rfl) ⟨(Nat.le_of_ble_eq_true rfl), (Nat.le_of_ble_eq_true rfl)⟩ rfl rfl (Nat.le_of_ble_eq_true rfl) (Nat.le_of_ble_eq_true rfl) (fun r9 J_7 hq9 => ?_)
  obtain ⟨z_7, rfl, hz_7, rfl, ht_7⟩ := hq9
  rw [(show ((zup J 164 8 0) : zJ) 165 0 = (J 165 0) from rfl)] at ht_7
  refine tz_if_ne (pc := 10) (tgt := 20) dX12_apply_10 (by decide) (by omega) (fun h_10 => ?_) (fun h_10 => ?_)
  · refine tz_aload_n (pc := 20) dX12_apply_20 rfl rfl ?_
    refine tz_cV (pc := 21) (m_begins hl n _) vl_X12_400 dX12_apply_21 o_164 rfl rfl (Nat.le_of_ble_eq_true rfl) ⟨(Nat.le_of_ble_eq_true rfl), (Nat.le_of_ble_eq_true rfl)⟩ rfl rfl (Nat.le_of_ble_eq_true rfl) (Nat.le_of_ble_eq_true rfl) (fun r9 J_21 hq9 => ?_)
    obtain ⟨rfl, hj_21⟩ := hq9
    have a_21 : AM J_21 J m m := by rw [← hj_21]; exact AM.begin (hI.z (MZ.up (k := 8) MZ.rf (by decide))) ⟨MZ.lo (MZ.up (k := 8) MZ.rf (by decide)), SC.z (MZ.up (k := 8) MZ.rf (by decide))⟩
    have br_21 : ∀ k, (k < 63 ∨ 126 ≤ k) → J_21 165 k = ((zup J 164 8 0) : zJ) 165 k := fun k hk => by rw [← hj_21]; exact zbg_r hk
    have bl_21 : ∀ k, ¬ k = 34 → ¬ k = 33 → ¬ k = 21 → J_21 164 k = ((zup J 164 8 0) : zJ) 164 k := fun k u v w => by rw [← hj_21]; exact zbg_f u v w
    have bo_21 : zOf (zbut [164, 165]) J_21 (zup J 164 8 0) := by rw [← hj_21]; exact zbg_of
    have b3_21 : J_21 164 21 = 0 ∧ J_21 164 33 = 0 ∧ J_21 164 34 = 0 := by rw [← hj_21]; exact ⟨rfl, rfl, rfl⟩
    have s9_21 : J_21 164 9 = J 164 9 := (bl_21 9 (by decide) (by decide) (by decide)).trans ((MZ.up (k := 8) MZ.rf (by decide)).2 9 (by decide) (by decide))
    obtain ⟨⟨bt_21, bs_21, bm_21, ba_21⟩, bu_21, bn_21, bf_21, bi_21⟩ := mbeg hI (MZ.up (k := 8) MZ.rf (by decide)) hj_21 u9
    refine tz_aload_n (pc := 24) dX12_apply_24 rfl rfl ?_
    refine tz_cV (pc := 25) (x_laysB hl n _ m ((a_21).2.1 b3_21.1).2.2.2 (by omega)) vl_X12_406 dX12_apply_25 o_164 rfl rfl (Nat.le_of_ble_eq_true rfl) ⟨(Nat.le_of_ble_eq_true rfl), (Nat.le_of_ble_eq_true rfl)⟩ rfl rfl (Nat.le_of_ble_eq_true rfl) (Nat.le_of_ble_eq_true rfl) (fun r9 J_25 hq9 => ?_)
    obtain ⟨rfl, l_25, f_25⟩ := hq9
    have a_25 := AM.z a_21 (MZ.c f_25 (by decide)) (by rw [f_25 164 rfl]; exact id)
    have gk_25 : gOK (J_25 175) m := fun v a c => by have q9 := ((a_21).2.1 b3_21.1).2.2.2 (1 + v) (by omega) (by omega); rw [l_25 v a c]; omega
    refine tz_aload_n (pc := 28) dX12_apply_28 rfl rfl ?_
    refine tz_aload_n (pc := 29) dX12_apply_29 rfl rfl ?_
    refine tz_iload_n (pc := 30) dX12_apply_30 rfl rfl ?_
    refine tz_aload_n (pc := 31) dX12_apply_31 rfl rfl ?_
    refine tz_fR (pc := 32) dX12_apply_32 fl_X12_44 r_164_23 ?_
    refine tz_cV (pc := 35) (o_appB hl n _ _ (by omega) (J_25 164 9) m (a_25).1.1 rfl (by omega) gk_25) vl_X12_148 dX12_apply_35 o_164 rfl rfl (Nat.le_of_ble_eq_true rfl) ⟨(Nat.le_of_ble_eq_true rfl), (Nat.le_of_ble_eq_true rfl)⟩ rfl rfl (Nat.le_of_ble_eq_true rfl) (Nat.le_of_ble_eq_true rfl) (fun r9 J_35 hq9 => ?_)
    obtain ⟨z_35, rfl, hz_35, m_35, g_35, h_35, x_35⟩ := hq9
    have a_35 := AM.grow0 a_25 g_35 (fun c hc => by simp at hc) (fun k x y => by simp; omega) rfl
    have lm_35 := a_35.1.2.2
    have d9 := ((a_25).1.1.ar (t := x) (by omega)).2.2.1
    have e_35 := x_35 6 (bO (tbz J)) (fun v a c => by rw [l_25 v a c, ← bt_21]; unfold bO; rw [tb0_5, if_pos (by omega)]) d9.2
    rw [tb0_c f_25, bt_21] at e_35
    refine tz_cV (pc := 38) (m_keeps hl n _ _ (by omega) (a_35).2.2.2.1.1.1 (a_35).2.2.2.1.1.2) vl_X12_403 dX12_apply_38 o_164 rfl rfl (Nat.le_of_ble_eq_true rfl) ⟨(Nat.le_of_ble_eq_true rfl), (Nat.le_of_ble_eq_true rfl)⟩ rfl rfl (Nat.le_of_ble_eq_true rfl) (Nat.le_of_ble_eq_true rfl) (fun r9 J_38 hq9 => ?_)
    obtain ⟨z_38, rfl, hz_38, k_38⟩ := hq9
    exact tz_iret (pc := 41) (z := z_38) dX12_apply_41 rfl (Nat.le_of_ble_eq_true rfl) (Nat.le_of_ble_eq_true rfl) ⟨Nat.le_refl _, Nat.le_add_right _ _⟩ ⟨_, rfl, (by omega), (AE (AM.keep a_35 k_38) bi_21 (mact_end (F := apO (bO (tbz J)) 6 (tbz J) x) bt_21 bs_21 bm_21 ba_21 bu_21 bn_21 bf_21 ((MOP.mg g_35).c f_25) (congrArg Prod.fst e_35) (by rw [← congrArg Prod.fst e_35]; show J_35 165 0 ≤ 400; have t9 := g_35.1.1.told; have s9 := g_35.1.1.2.2.2.2.1; omega) (fun _ => congrArg Prod.snd e_35) k_38) (by omega))⟩
  · refine tz_aload_n (pc := 13) dX12_apply_13 rfl rfl ?_
    refine tz_iconst (pc := 14) dX12_apply_14 ?_
    refine tz_iconst (pc := 15) dX12_apply_15 ?_
    refine tz_cV (pc := 16) (m_refuses hl n _ _ _ (by decide) (by decide) (by decide)) vl_X12_391 dX12_apply_16 o_164 rfl rfl (Nat.le_of_ble_eq_true rfl) ⟨(Nat.le_of_ble_eq_true rfl), (Nat.le_of_ble_eq_true rfl)⟩ rfl rfl (Nat.le_of_ble_eq_true rfl) (Nat.le_of_ble_eq_true rfl) (fun r9 J_16 hq9 => ?_)
    obtain ⟨z_16, rfl, hz_16, rfl, f_16⟩ := hq9
    have y_16 : MZ J_16 J := MZ.tr (MZ.up (k := 8) MZ.rf (by decide)) (MZ.c f_16 (by decide))
    exact tz_iret (pc := 19) (z := (-1)) dX12_apply_19 rfl (Nat.le_of_ble_eq_true rfl) (Nat.le_of_ble_eq_true rfl) ⟨Nat.le_refl _, Nat.le_add_right _ _⟩ ⟨_, rfl, (by decide), ⟨MQr.z hI y_16, MFI.z y_16, Or.inr ⟨by omega, rfl, MBT.z hI y_16, u9.z y_16⟩⟩⟩

end
section
/-! ===== drawing, as a function ===== -/
theorem bv15 (x : BitVec 32) : (x >>> 16) &&& 32767#32 = (x.sshiftRight 16) &&& 32767#32 := by
  apply BitVec.eq_of_getLsbD_eq
  intro i hi
  rw [BitVec.getLsbD_and, BitVec.getLsbD_and, BitVec.getLsbD_ushiftRight, BitVec.getLsbD_sshiftRight]
  by_cases h8 : i < 15
  · rw [if_pos (by omega)]
    simp [show ¬ (32 ≤ i) by omega]
  · have : (32767#32).getLsbD i = false := by
      have : ∀ j : Fin 32, ¬ j.1 < 15 → (32767#32).getLsbD j.1 = false := by decide
      exact this ⟨i, hi⟩ h8
    rw [this, Bool.and_false, Bool.and_false]
theorem sh15 (x : Int32) : ((x.toUInt32 >>> ((Int32.ofInt 16).toUInt32 &&& Int32.toUInt32 31)).toInt32 &&& 32767) = ((x >>> (Int32.ofInt 16 &&& 31)) &&& 32767) := by
  apply Int32.toBitVec_inj.1
  exact bv15 x.toBitVec
theorem z32767 {a : Int} : zand (zushr a 16) 32767 = zand (zshr a 16) 32767 := by
  unfold zand zushr zshr
  rw [Int32.ofInt_toInt, Int32.ofInt_toInt]
  exact congrArg Int32.toInt (sh15 _)
def dwS (s : Int) : Int := zw (s * 1103515245 + 12345)
def dwN (s k : Int) : Int := zand (zshr s 16) 32767 % k
def dA (T : zJ → Int → (zJ × Int) × Int) (G : zJ) (s A i : Int) : (zJ × Int) × Int := if i < A then T G s else ((G, 0), s)
/-- a symbol's term, its arguments drawn by T -/
def dr0 (T : zJ → Int → (zJ × Int) × Int) (G : zJ) (s y : Int) : (zJ × Int) × Int := dA T G s (G 170 (0 + y)) 0
def dr1 (T : zJ → Int → (zJ × Int) × Int) (G : zJ) (s y : Int) : (zJ × Int) × Int := dA T (dr0 T G s y).1.1 (dr0 T G s y).2 (G 170 (0 + y)) 1
def dr2 (T : zJ → Int → (zJ × Int) × Int) (G : zJ) (s y : Int) : (zJ × Int) × Int := dA T (dr1 T G s y).1.1 (dr1 T G s y).2 (G 170 (0 + y)) 2
noncomputable def drR (T : zJ → Int → (zJ × Int) × Int) (G : zJ) (s y : Int) : (zJ × Int) × Int := (tmO (dr2 T G s y).1.1 y (dr0 T G s y).1.2 (dr1 T G s y).1.2 (dr2 T G s y).1.2, (dr2 T G s y).2)
noncomputable def drO : Nat → zJ → Int → (zJ × Int) × Int
  | 0, G, s => ((G, 0), s)
  | d + 1, G, s => if dwN (dwS s) 8 = 0 ∨ d = 0 ∨ G 164 9 = 0 then (tmO G (-1 - dwN (dwS (dwS s)) 3) 0 0 0, dwS (dwS s)) else drR (drO d) G (dwS (dwS s)) (dwN (dwS (dwS s)) (G 164 9))
theorem drO_s {d : Nat} {G : zJ} {s : Int} : drO (d + 1) G s = if dwN (dwS s) 8 = 0 ∨ d = 0 ∨ G 164 9 = 0 then (tmO G (-1 - dwN (dwS (dwS s)) 3) 0 0 0, dwS (dwS s)) else drR (drO d) G (dwS (dwS s)) (dwN (dwS (dwS s)) (G 164 9)) := rfl
theorem dA_f {T : zJ → Int → (zJ × Int) × Int} (hT : ∀ S s, ¬ S 164 21 = 0 → ¬ (T S s).1.1 164 21 = 0) {G : zJ} {s A i : Int} (h : ¬ G 164 21 = 0) : ¬ (dA T G s A i).1.1 164 21 = 0 := by
  unfold dA
  split
  · exact hT _ _ h
  · exact h
theorem drO_f : ∀ (d : Nat) (G : zJ) (s : Int), ¬ G 164 21 = 0 → ¬ (drO d G s).1.1 164 21 = 0
  | 0, _, _, h => h
  | d + 1, G, s, h => by
    rw [drO_s]
    split
    · rw [show tmO G (-1 - dwN (dwS (dwS s)) 3) 0 0 0 = (G, 0) from tmO_f h]; exact h
    · show ¬ (tmO _ _ _ _ _).1 164 21 = 0
      have q : ¬ (dr2 (drO d) G (dwS (dwS s)) (dwN (dwS (dwS s)) (G 164 9))).1.1 164 21 = 0 := dA_f (drO_f d) (dA_f (drO_f d) (dA_f (drO_f d) h))
      rw [tmO_f q]; exact q
def EXD (F : (zJ × Int) × Int) (z : Int) (J' : zJ) : Prop := (z = -3 ∧ ¬ F.1.1 164 21 = 0) ∨ (0 ≤ z ∧ F.1.1 164 21 = 0 ∧ A0 J' F.1.1 ∧ z = F.1.2 ∧ J' 141 5 = F.2)
def SGD (r : (zJ × Int) × Int) (J1 : zJ) (z A i : Int) : Prop := r.1.1 164 21 = 0 ∧ A0 J1 r.1.1 ∧ (i < A → 0 ≤ z ∧ z = r.1.2) ∧ J1 141 5 = r.2
theorem sd_st {T : zJ → Int → (zJ × Int) × Int} {G J1 J : zJ} {s A i z : Int} (hG : G 164 21 = 0) (E : A0 J G) (hs : J 141 5 = s) (h : (i < A ∧ (∀ S, S 164 21 = 0 → A0 J S → EXD (T S (J 141 5)) z J1)) ∨ (¬ i < A ∧ J1 = J)) : (i < A ∧ z = -3 ∧ ¬ (dA T G s A i).1.1 164 21 = 0) ∨ SGD (dA T G s A i) J1 z A i := by
  unfold dA
  rcases h with ⟨h1, h2⟩ | ⟨h1, h2⟩
  · rw [if_pos h1, ← hs]
    rcases h2 G hG E with ⟨q1, q2⟩ | ⟨q1, q2, q3, q4, q5⟩
    · exact Or.inl ⟨h1, q1, q2⟩
    · exact Or.inr ⟨q2, q3, fun _ => ⟨q1, q4⟩, q5⟩
  · rw [if_neg h1, h2]
    exact Or.inr ⟨hG, E, fun q => absurd q h1, hs⟩
/-- what an argument's drawing tells (or that there is none) -/
def ARD (T : zJ → Int → (zJ × Int) × Int) (J1 J : zJ) (A i z m m1 : Int) : Prop := (i < A ∧ GX [141] J1 J m m1 ∧ (z = -3 ∨ (0 ≤ z ∧ z < m1)) ∧ (∀ S, S 164 21 = 0 → A0 J S → EXD (T S (J 141 5)) z J1)) ∨ (¬ i < A ∧ J1 = J ∧ m1 = m)
theorem ARD.gr {T : zJ → Int → (zJ × Int) × Int} {J1 J : zJ} {A i z m m1 : Int} (a : ARD T J1 J A i z m m1) (C : CT J m) (hm : J 6 12 = m) : GX [141] J1 J m m1 := by
  rcases a with ⟨_, g, _⟩ | ⟨_, e, e'⟩
  · exact g
  · rw [e, e']; exact GX.rf C hm
theorem dr_end {T : zJ → Int → (zJ × Int) × Int} (hT : ∀ S s, ¬ S 164 21 = 0 → ¬ (T S s).1.1 164 21 = 0) {G J J0 J1 J2 J' : zJ} {s y m m0 m1 m2 z0 z1 z2 z : Int} (hG : G 164 21 = 0) (E : A0 J G) (C : CT J m) (hm : J 6 12 = m) (hy : 0 ≤ y ∧ y < J 1 3) (hs : J 141 5 = s) (a0 : ARD T J0 J (J 3 y) 0 z0 m m0) (a1 : ARD T J1 J0 (J 3 y) 1 z1 m0 m1) (a2 : ARD T J2 J1 (J 3 y) 2 z2 m1 m2) (p : madeP J2 m2 y z0 z1 z2 z J') : EXD (drR T G s y) z J' := by
  have g0 := a0.gr C hm
  have g1 := a1.gr g0.2.1 g0.2.2.1
  have g2 := a2.gr g1.2.1 g1.2.2.1
  have g20 := (g0.tr g1).tr g2
  have l0 := g0.1
  have l1 := g1.1
  have l2 := g2.1
  have eA : G 170 (0 + y) = J 3 y := (E.1.2 y hy.1 (by have := E.1.1; omega)).2.1.symm
  have e3 : J2 3 = J 3 := g20.2.2.2.2 3 rfl
  have e1 : J2 1 = J 1 := g20.2.2.2.2 1 rfl
  have ea : arh (J2 3) y = J 3 y := by rw [e3]; unfold arh; rw [if_neg (by omega)]
  have st0 : (0 < J 3 y ∧ z0 = -3 ∧ ¬ (dr0 T G s y).1.1 164 21 = 0) ∨ SGD (dr0 T G s y) J0 z0 (J 3 y) 0 := by
    unfold dr0
    rw [eA]
    exact sd_st hG E hs (a0.imp (fun q => ⟨q.1, q.2.2.2⟩) (fun q => ⟨q.1, q.2.1⟩))
  have st1 : ((0 < J 3 y ∧ z0 = -3) ∨ (1 < J 3 y ∧ z1 = -3)) ∧ ¬ (dr1 T G s y).1.1 164 21 = 0 ∨ (SGD (dr0 T G s y) J0 z0 (J 3 y) 0 ∧ SGD (dr1 T G s y) J1 z1 (J 3 y) 1) := by
    unfold dr1
    rw [eA]
    rcases st0 with ⟨q1, q2, q3⟩ | q
    · exact Or.inl ⟨Or.inl ⟨q1, q2⟩, dA_f hT q3⟩
    · rcases sd_st (T := T) (J1 := J1) (z := z1) (A := J 3 y) (i := 1) q.1 q.2.1 q.2.2.2 (a1.imp (fun q => ⟨q.1, q.2.2.2⟩) (fun q => ⟨q.1, q.2.1⟩)) with ⟨r1, r2, r3⟩ | r
      · exact Or.inl ⟨Or.inr ⟨r1, r2⟩, r3⟩
      · exact Or.inr ⟨q, r⟩
  have st2 : ((0 < J 3 y ∧ z0 = -3) ∨ (1 < J 3 y ∧ z1 = -3) ∨ (2 < J 3 y ∧ z2 = -3)) ∧ ¬ (dr2 T G s y).1.1 164 21 = 0 ∨ (SGD (dr0 T G s y) J0 z0 (J 3 y) 0 ∧ SGD (dr1 T G s y) J1 z1 (J 3 y) 1 ∧ SGD (dr2 T G s y) J2 z2 (J 3 y) 2) := by
    unfold dr2
    rw [eA]
    rcases st1 with ⟨q1, q3⟩ | ⟨q0, q⟩
    · exact Or.inl ⟨q1.imp id Or.inl, dA_f hT q3⟩
    · rcases sd_st (T := T) (J1 := J2) (z := z2) (A := J 3 y) (i := 2) q.1 q.2.1 q.2.2.2 (a2.imp (fun q => ⟨q.1, q.2.2.2⟩) (fun q => ⟨q.1, q.2.1⟩)) with ⟨r1, r2, r3⟩ | r
      · exact Or.inl ⟨Or.inr (Or.inr ⟨r1, r2⟩), r3⟩
      · exact Or.inr ⟨q0, q, r⟩
  unfold drR
  rcases st2 with ⟨q1, q2⟩ | ⟨q0, q1, q2⟩
  · refine Or.inl ⟨made_neg p (fun k => ?_), ?_⟩
    · rw [ea] at k
      obtain ⟨k0, k1, k2⟩ := k
      rcases q1 with ⟨u, v⟩ | ⟨u, v⟩ | ⟨u, v⟩
      · have := k0 u; omega
      · have := k1 u; omega
      · have := k2 u; omega
    · show ¬ (tmO _ _ _ _ _).1 164 21 = 0
      rw [tmO_f q2]; exact q2
  · have b0 : 0 < J 3 y → 0 ≤ z0 ∧ z0 < m2 := fun u => by
      have r := q0.2.2.1 u
      rcases a0 with ⟨_, _, w, _⟩ | ⟨w, _⟩
      · omega
      · omega
    have b1 : 1 < J 3 y → 0 ≤ z1 ∧ z1 < m2 := fun u => by
      have r := q1.2.2.1 u
      rcases a1 with ⟨_, _, w, _⟩ | ⟨w, _⟩
      · omega
      · omega
    have b2 : 2 < J 3 y → 0 ≤ z2 ∧ z2 < m2 := fun u => by
      have r := q2.2.2.1 u
      rcases a2 with ⟨_, _, w, _⟩ | ⟨w, _⟩
      · omega
      · omega
    have := q2.2.1.made q2.1 g2.2.1 g2.2.2.1 (h := y) (a := z0) (b := z1) (c := z2) (x := (dr0 T G s y).1.2) (y := (dr1 T G s y).1.2) (w := (dr2 T G s y).1.2) (by rw [e1]; omega) (by rw [ea]; exact ⟨fun u => (q0.2.2.1 u).2, fun u => (q1.2.2.1 u).2, fun u => (q2.2.2.1 u).2⟩) (by rw [ea]; exact ⟨b0, b1, b2⟩) p
    rcases this with u | ⟨u1, u2, u3, u4⟩
    · exact Or.inl ⟨u.1.2, u.2⟩
    · exact Or.inr ⟨u1, u2, u3, u4, by rw [p.1 141 rfl]; exact q2.2.2.2⟩
end
section
/-! ===== drawn of the class, exact ===== -/
theorem dr_v {J1 J J' S : zJ} {x s v z m : Int} (hx : 1 ≤ x) (hG : S 164 21 = 0) (E : A0 J S) (f : zOf (zbut [141]) J1 J) (C : CT J1 m) (hm : J1 6 12 = m) (hs : J1 141 5 = dwS (dwS s)) (hv : v = dwN (dwS (dwS s)) 3) (hv3 : 0 ≤ v ∧ v < 3) (hc : dwN (dwS s) 8 = 0 ∨ x ≤ 1 ∨ J 1 3 = 0) (p : madeP J1 m (-1 - v) (-1) (-1) (-1) z J') : EXD (drO x.toNat S s) z J' := by
  obtain ⟨d, hd⟩ : ∃ d, x.toNat = d + 1 := ⟨x.toNat - 1, by omega⟩
  have e9 := E.1.1
  rw [hd, drO_s, if_pos (by omega)]
  have E1 : A0 J1 S := E.f (fun c hc => f c (by simp [zbut]; omega))
  have t := C.told
  have ar0 : arh (J1 3) (-1 - v) = 0 := by unfold arh; rw [if_pos (by omega)]
  rcases E1.made hG C hm (h := -1 - v) (x := 0) (y := 0) (w := 0) ⟨by omega, by omega⟩ (by rw [ar0]; exact ⟨fun q => by omega, fun q => by omega, fun q => by omega⟩) (by rw [ar0]; exact ⟨fun q => by omega, fun q => by omega, fun q => by omega⟩) p with u | ⟨u1, u2, u3, u4⟩
  · rw [hv] at u
    exact Or.inl ⟨u.1.2, u.2⟩
  · rw [hv] at u2 u3 u4
    exact Or.inr ⟨u1, u2, u3, u4, by rw [p.1 141 rfl]; exact hs⟩
theorem dr_c {J1 J J' S : zJ} {x s y z : Int} (hx : 1 < x) (E : A0 J S) (hc : ¬ dwN (dwS s) 8 = 0) (h3 : ¬ J 1 3 = 0) (hy : y = dwN (dwS (dwS s)) (J 1 3)) (e : EXD (drR (drO (x - 1).toNat) S (dwS (dwS s)) y) z J') : EXD (drO x.toNat S s) z J' := by
  have hd : x.toNat = (x - 1).toNat + 1 := by omega
  have e9 := E.1.1
  rw [hd, drO_s, if_neg (by omega), ← e9, ← hy]
  exact e
set_option maxHeartbeats 4000000 in
set_option maxRecDepth 100000 in
theorem x_drawnP {l : Launch} {G : tb_G} (hl : l.stackTraces = false) (n : Nat) : ∀ (r9 : Nat) (J : zJ) (x : Int) (hr_x : -2147483648 ≤ x ∧ x < 2147483648) (m : Int) (C : CT J m) (hm : J 6 12 = m) (hx : 1 ≤ x), (x.toNat) < r9 → tz_Ok l G M_X2_drawnPart (4 + 1 * r9) 0 0 [.ref 141, zi x] n J (zqi (fun z J' => ∃ m', GX [141] J' J m m' ∧ (z = -3 ∨ (0 ≤ z ∧ z < m')) ∧ ∀ S, S 164 21 = 0 → A0 J S → EXD (drO x.toNat S (J 141 5)) z J')) zN := by
  intro r9
  induction r9 with
  | zero => intro J x hr_x m C hm hx hm9; exact absurd hm9 (Nat.not_lt_zero _)
  | succ r9 ih =>
    intro J x hr_x m C hm hx hm9
    refine tz_Ok.of hl (by decide +kernel) rfl (tb_c1 rfl) (Nat.le_of_ble_eq_true rfl) ?_
    show tz_At l G M_X2_drawnPart (tb_rm (4 + 1 * (r9 + 1)) 0 0) none (tb_ZM G 0 0 (zQ n 0 (zqi (fun z J' => ∃ m', GX [141] J' J m m' ∧ (z = -3 ∨ (0 ≤ z ∧ z < m')) ∧ ∀ S, S 164 21 = 0 → A0 J S → EXD (drO x.toNat S (J 141 5)) z J'))) (zX n 0 zN)) 0 0 n J 0 [some (.ref 141), some (zi x), none, none, none, none, none, none, none] []
    have hb := C.told
    have g0 : GX [141] J J m m := GX.rf C hm
    refine tz_aload_n (pc := 0) dX2_drawnPart_0 rfl rfl ?_
    refine tz_bipush (pc := 1) dX2_drawnPart_1 (by decide) ?_
    refine tz_cV (pc := 3) (c_drawOf hl n _ _ (by omega) (by omega)) vl_X2_111 dX2_drawnPart_3 o_141 rfl rfl (Nat.le_of_ble_eq_true rfl) ⟨(show 0 + 1 ≤ 4 + 1 * (r9 + 1) by omega), (show 8 + (2 + 11) + 40 * (0) ≤ 40 * (4 + 1 * (r9 + 1)) by omega)⟩ rfl rfl (Nat.le_of_ble_eq_true rfl) (Nat.le_of_ble_eq_true rfl) (fun r9 J_3 hq9 => ?_)
    obtain ⟨z_3, rfl, hz_3, hj_3, hz_3, zv_3⟩ := hq9
    have f_3 : zOf (zbut [141]) J_3 J := by rw [← hj_3]; exact zOf.up rfl zOf.rf
    have q_3 : GX [141] J_3 J m m := (g0).off rfl f_3
    have s_3 : J_3 141 5 = dwS (J 141 5) := by rw [← hj_3]; exact zup_at
    have n_3 : z_3 = dwN (dwS (J 141 5)) 8 := by rw [← zv_3, z32767]; rfl
    refine tz_istore_n (pc := 6) (L2 := [_, _, _, _, _, _, _, _, _]) dX2_drawnPart_6 rfl (by decide) rfl ?_
    refine tz_aload_n (pc := 7) dX2_drawnPart_7 rfl rfl ?_
    refine tz_fR (pc := 8) dX2_drawnPart_8 fl_X2_28 r_141_0 ?_
    refine tz_fR (pc := 11) dX2_drawnPart_11 fl_X2_114 r_6_0 ?_
    refine tz_fI (pc := 14) (kz := 3) (v := (J 1 3)) dX2_drawnPart_14 fl_X2_118 i_1_3 rfl (Eq.trans (congrFun (f_3 1 rfl) 3) rfl) (fun r_14 => ?_)
    refine tz_istore_n (pc := 17) (L2 := [_, _, _, _, _, _, _, _, _]) dX2_drawnPart_17 rfl (by decide) rfl ?_
    refine tz_iload_n (pc := 18) dX2_drawnPart_18 rfl rfl ?_
    refine tz_if_eq (pc := 19) (tgt := 31) dX2_drawnPart_19 (by decide) (by omega) (fun h_19 => ?_) (fun h_19 => ?_)
    · refine tz_aload_n (pc := 31) dX2_drawnPart_31 rfl rfl ?_
      refine tz_fR (pc := 32) dX2_drawnPart_32 fl_X2_28 r_141_0 ?_
      refine tz_aload_n (pc := 35) dX2_drawnPart_35 rfl rfl ?_
      refine tz_iconst (pc := 36) dX2_drawnPart_36 ?_
      refine tz_cV (pc := 37) (c_drawOf hl n _ _ (by omega) (by omega)) vl_X2_111 dX2_drawnPart_37 o_141 rfl rfl (Nat.le_of_ble_eq_true rfl) ⟨(show 0 + 1 ≤ 4 + 1 * (r9 + 1) by omega), (show 8 + (2 + 11) + 40 * (0) ≤ 40 * (4 + 1 * (r9 + 1)) by omega)⟩ rfl rfl (Nat.le_of_ble_eq_true rfl) (Nat.le_of_ble_eq_true rfl) (fun r9 J_37 hq9 => ?_)
      obtain ⟨z_37, rfl, hz_37, hj_37, hz_37, zv_37⟩ := hq9
      have f_37 : zOf (zbut [141]) J_37 J_3 := by rw [← hj_37]; exact zOf.up rfl zOf.rf
      have q_37 : GX [141] J_37 J m m := (q_3).off rfl f_37
      have s_37 : J_37 141 5 = dwS (J_3 141 5) := by rw [← hj_37]; exact zup_at
      have n_37 : z_37 = dwN (dwS (J_3 141 5)) 3 := by rw [← zv_37, z32767]; rfl
      have b_40 := (q_37).2.1.told
      refine tz_cV (pc := 40) (c_varTerm hl n _ _ (by omega) m (q_37).2.1 (q_37).2.2.1 (by omega)) vl_X2_99 dX2_drawnPart_40 o_6 rfl rfl (Nat.le_of_ble_eq_true rfl) ⟨(show 3 + 1 ≤ 4 + 1 * (r9 + 1) by omega), (show 8 + (2 + 11) + 40 * (3) ≤ 40 * (4 + 1 * (r9 + 1)) by omega)⟩ rfl rfl (Nat.le_of_ble_eq_true rfl) (Nat.le_of_ble_eq_true rfl) (fun r9 J_40 hq9 => ?_)
      obtain ⟨z_40, rfl, hz_40, p_40⟩ := hq9
      obtain ⟨m_40, g_40, h_40⟩ := GR.made p_40 (by omega)
      have q_40 : GX [141] J_40 J m m_40 := GX.tr q_37 (GR.x g_40)
      exact tz_iret (pc := 43) (z := z_40) dX2_drawnPart_43 rfl (Nat.le_of_ble_eq_true rfl) (Nat.le_of_ble_eq_true rfl) ⟨Nat.le_refl _, Nat.le_add_right _ _⟩ ⟨_, rfl, (by omega), ⟨m_40, q_40, h_40, fun S hG E => dr_v (by omega) hG E (f_37.tr f_3) q_37.2.1 q_37.2.2.1 (by rw [s_37, s_3]) (by rw [n_37, s_3]) (by omega) (by rw [← n_3]; omega) p_40⟩⟩
    · refine tz_iload_n (pc := 22) dX2_drawnPart_22 rfl rfl ?_
      refine tz_iconst (pc := 23) dX2_drawnPart_23 ?_
      refine tz_icmp_le (pc := 24) (tgt := 31) dX2_drawnPart_24 (by decide) (by omega) (by decide) (fun h_24 => ?_) (fun h_24 => ?_)
      · refine tz_aload_n (pc := 31) dX2_drawnPart_31 rfl rfl ?_
        refine tz_fR (pc := 32) dX2_drawnPart_32 fl_X2_28 r_141_0 ?_
        refine tz_aload_n (pc := 35) dX2_drawnPart_35 rfl rfl ?_
        refine tz_iconst (pc := 36) dX2_drawnPart_36 ?_
        refine tz_cV (pc := 37) (c_drawOf hl n _ _ (by omega) (by omega)) vl_X2_111 dX2_drawnPart_37 o_141 rfl rfl (Nat.le_of_ble_eq_true rfl) ⟨(show 0 + 1 ≤ 4 + 1 * (r9 + 1) by omega), (show 8 + (2 + 11) + 40 * (0) ≤ 40 * (4 + 1 * (r9 + 1)) by omega)⟩ rfl rfl (Nat.le_of_ble_eq_true rfl) (Nat.le_of_ble_eq_true rfl) (fun r9 J_37 hq9 => ?_)
        obtain ⟨z_37, rfl, hz_37, hj_37, hz_37, zv_37⟩ := hq9
        have f_37 : zOf (zbut [141]) J_37 J_3 := by rw [← hj_37]; exact zOf.up rfl zOf.rf
        have q_37 : GX [141] J_37 J m m := (q_3).off rfl f_37
        have s_37 : J_37 141 5 = dwS (J_3 141 5) := by rw [← hj_37]; exact zup_at
        have n_37 : z_37 = dwN (dwS (J_3 141 5)) 3 := by rw [← zv_37, z32767]; rfl
        have b_40 := (q_37).2.1.told
        refine tz_cV (pc := 40) (c_varTerm hl n _ _ (by omega) m (q_37).2.1 (q_37).2.2.1 (by omega)) vl_X2_99 dX2_drawnPart_40 o_6 rfl rfl (Nat.le_of_ble_eq_true rfl) ⟨(show 3 + 1 ≤ 4 + 1 * (r9 + 1) by omega), (show 8 + (2 + 11) + 40 * (3) ≤ 40 * (4 + 1 * (r9 + 1)) by omega)⟩ rfl rfl (Nat.le_of_ble_eq_true rfl) (Nat.le_of_ble_eq_true rfl) (fun r9 J_40 hq9 => ?_)
        obtain ⟨z_40, rfl, hz_40, p_40⟩ := hq9
        obtain ⟨m_40, g_40, h_40⟩ := GR.made p_40 (by omega)
        have q_40 : GX [141] J_40 J m m_40 := GX.tr q_37 (GR.x g_40)
        exact tz_iret (pc := 43) (z := z_40) dX2_drawnPart_43 rfl (Nat.le_of_ble_eq_true rfl) (Nat.le_of_ble_eq_true rfl) ⟨Nat.le_refl _, Nat.le_add_right _ _⟩ ⟨_, rfl, (by omega), ⟨m_40, q_40, h_40, fun S hG E => dr_v (by omega) hG E (f_37.tr f_3) q_37.2.1 q_37.2.2.1 (by rw [s_37, s_3]) (by rw [n_37, s_3]) (by omega) (by rw [← n_3]; omega) p_40⟩⟩
      · refine tz_iload_n (pc := 27) dX2_drawnPart_27 rfl rfl ?_
        refine tz_if_ne (pc := 28) (tgt := 44) dX2_drawnPart_28 (by decide) (by omega) (fun h_28 => ?_) (fun h_28 => ?_)
        · refine tz_aload_n (pc := 44) dX2_drawnPart_44 rfl rfl ?_
          refine tz_iload_n (pc := 45) dX2_drawnPart_45 rfl rfl ?_
          refine tz_cV (pc := 46) (c_drawOf hl n _ _ (by omega) (by omega)) vl_X2_111 dX2_drawnPart_46 o_141 rfl rfl (Nat.le_of_ble_eq_true rfl) ⟨(show 0 + 1 ≤ 4 + 1 * (r9 + 1) by omega), (show 8 + (2 + 11) + 40 * (0) ≤ 40 * (4 + 1 * (r9 + 1)) by omega)⟩ rfl rfl (Nat.le_of_ble_eq_true rfl) (Nat.le_of_ble_eq_true rfl) (fun r9 J_46 hq9 => ?_)
          obtain ⟨z_46, rfl, hz_46, hj_46, hz_46, zv_46⟩ := hq9
          have f_46 : zOf (zbut [141]) J_46 J_3 := by rw [← hj_46]; exact zOf.up rfl zOf.rf
          have q_46 : GX [141] J_46 J m m := (q_3).off rfl f_46
          have s_46 : J_46 141 5 = dwS (J_3 141 5) := by rw [← hj_46]; exact zup_at
          have n_46 : z_46 = dwN (dwS (J_3 141 5)) (J 1 3) := by rw [← zv_46, z32767]; rfl
          refine tz_istore (pc := 49) (L2 := [_, _, _, _, _, _, _, _, _]) dX2_drawnPart_49 (by decide) rfl ?_
          refine tz_aload_n (pc := 51) dX2_drawnPart_51 rfl rfl ?_
          refine tz_fR (pc := 52) dX2_drawnPart_52 fl_X2_28 r_141_0 ?_
          refine tz_fR (pc := 55) dX2_drawnPart_55 fl_X2_114 r_6_0 ?_
          refine tz_fR (pc := 58) dX2_drawnPart_58 fl_X2_123 r_1_1 ?_
          refine tz_iload (pc := 61) dX2_drawnPart_61 rfl ?_
          have hA := C.1.1.1.2 z_46 (by omega) (by omega)
          have e46 : J_46 3 z_46 = J 3 z_46 := congrFun ((f_46.tr f_3) 3 rfl) z_46
          refine tz_aL (pc := 63) (z := z_46) (v := (J 3 z_46)) dX2_drawnPart_63 a_3 rfl (by omega) (Eq.trans (congrFun (f_46 3 rfl) z_46) (Eq.trans (congrFun (f_3 3 rfl) z_46) rfl)) (fun r_63 => ?_)
          refine tz_istore (pc := 64) (L2 := [_, _, _, _, _, _, _, _, _]) dX2_drawnPart_64 (by decide) rfl ?_
          refine tz_iload (pc := 66) dX2_drawnPart_66 rfl ?_
          refine tz_iconst (pc := 68) dX2_drawnPart_68 ?_
          refine tz_icmp_ge (pc := 69) (tgt := 76) dX2_drawnPart_69 (by decide) (by omega) (by decide) (fun h_69 => ?_) (fun h_69 => ?_)
          · refine tz_aload_n (pc := 76) dX2_drawnPart_76 rfl rfl ?_
            refine tz_iload_n (pc := 77) dX2_drawnPart_77 rfl rfl ?_
            refine tz_iconst (pc := 78) dX2_drawnPart_78 ?_
            refine tz_isub (pc := 79) (v := x - 1) dX2_drawnPart_79 rfl ?_
            refine tz_cV (pc := 80) (ih _ _ (by omega) m (q_46).2.1 (q_46).2.2.1 (by omega) (by omega)) vl_X2_108 dX2_drawnPart_80 o_141 rfl rfl (Nat.le_of_ble_eq_true rfl) ⟨(show (4 + 1 * r9) + 1 ≤ 4 + 1 * (r9 + 1) by omega), (show 8 + (9 + 11) + 40 * ((4 + 1 * r9)) ≤ 40 * (4 + 1 * (r9 + 1)) by omega)⟩ rfl rfl (Nat.le_of_ble_eq_true rfl) (Nat.le_of_ble_eq_true rfl) (fun r9 J_80 hq9 => ?_)
            obtain ⟨z_80, rfl, hz_80, m_80, g_80, h_80, x_80⟩ := hq9
            have q_80 := GX.tr q_46 g_80
            have e_80 := g_80.1
            refine tz_istore (pc := 83) (L2 := [_, _, _, _, _, _, _, _, _]) dX2_drawnPart_83 (by decide) rfl ?_
            refine tz_iload (pc := 85) dX2_drawnPart_85 rfl ?_
            refine tz_iconst (pc := 87) dX2_drawnPart_87 ?_
            refine tz_icmp_ge (pc := 88) (tgt := 95) dX2_drawnPart_88 (by decide) (by omega) (by decide) (fun h_88 => ?_) (fun h_88 => ?_)
            · refine tz_aload_n (pc := 95) dX2_drawnPart_95 rfl rfl ?_
              refine tz_iload_n (pc := 96) dX2_drawnPart_96 rfl rfl ?_
              refine tz_iconst (pc := 97) dX2_drawnPart_97 ?_
              refine tz_isub (pc := 98) (v := x - 1) dX2_drawnPart_98 rfl ?_
              refine tz_cV (pc := 99) (ih _ _ (by omega) m_80 (q_80).2.1 (q_80).2.2.1 (by omega) (by omega)) vl_X2_108 dX2_drawnPart_99 o_141 rfl rfl (Nat.le_of_ble_eq_true rfl) ⟨(show (4 + 1 * r9) + 1 ≤ 4 + 1 * (r9 + 1) by omega), (show 8 + (9 + 11) + 40 * ((4 + 1 * r9)) ≤ 40 * (4 + 1 * (r9 + 1)) by omega)⟩ rfl rfl (Nat.le_of_ble_eq_true rfl) (Nat.le_of_ble_eq_true rfl) (fun r9 J_99 hq9 => ?_)
              obtain ⟨z_99, rfl, hz_99, m_99, g_99, h_99, x_99⟩ := hq9
              have q_99 := GX.tr q_80 g_99
              have e_99 := g_99.1
              refine tz_istore (pc := 102) (L2 := [_, _, _, _, _, _, _, _, _]) dX2_drawnPart_102 (by decide) rfl ?_
              refine tz_iload (pc := 104) dX2_drawnPart_104 rfl ?_
              refine tz_iconst (pc := 106) dX2_drawnPart_106 ?_
              refine tz_icmp_ge (pc := 107) (tgt := 114) dX2_drawnPart_107 (by decide) (by omega) (by decide) (fun h_107 => ?_) (fun h_107 => ?_)
              · refine tz_aload_n (pc := 114) dX2_drawnPart_114 rfl rfl ?_
                refine tz_iload_n (pc := 115) dX2_drawnPart_115 rfl rfl ?_
                refine tz_iconst (pc := 116) dX2_drawnPart_116 ?_
                refine tz_isub (pc := 117) (v := x - 1) dX2_drawnPart_117 rfl ?_
                refine tz_cV (pc := 118) (ih _ _ (by omega) m_99 (q_99).2.1 (q_99).2.2.1 (by omega) (by omega)) vl_X2_108 dX2_drawnPart_118 o_141 rfl rfl (Nat.le_of_ble_eq_true rfl) ⟨(show (4 + 1 * r9) + 1 ≤ 4 + 1 * (r9 + 1) by omega), (show 8 + (9 + 11) + 40 * ((4 + 1 * r9)) ≤ 40 * (4 + 1 * (r9 + 1)) by omega)⟩ rfl rfl (Nat.le_of_ble_eq_true rfl) (Nat.le_of_ble_eq_true rfl) (fun r9 J_118 hq9 => ?_)
                obtain ⟨z_118, rfl, hz_118, m_118, g_118, h_118, x_118⟩ := hq9
                have q_118 := GX.tr q_99 g_118
                have e_118 := g_118.1
                refine tz_istore (pc := 121) (L2 := [_, _, _, _, _, _, _, _, _]) dX2_drawnPart_121 (by decide) rfl ?_
                refine tz_aload_n (pc := 123) dX2_drawnPart_123 rfl rfl ?_
                refine tz_fR (pc := 124) dX2_drawnPart_124 fl_X2_28 r_141_0 ?_
                refine tz_iload (pc := 127) dX2_drawnPart_127 rfl ?_
                refine tz_iload (pc := 129) dX2_drawnPart_129 rfl ?_
                refine tz_iload (pc := 131) dX2_drawnPart_131 rfl ?_
                refine tz_iload (pc := 133) dX2_drawnPart_133 rfl ?_
                have x_3 := (q_118).2.2.2.2 3 rfl
                have x_1 := (q_118).2.2.2.2 1 rfl
                refine tz_cV (pc := 135) (c_made hl n _ _ _ _ _ (by omega) (by omega) (by omega) (by omega) m_118 (q_118).2.1 (q_118).2.2.1 (by rw [x_1]; omega) (ltA_of (by omega) (by omega) (by omega))) vl_X2_52 dX2_drawnPart_135 o_6 rfl rfl (Nat.le_of_ble_eq_true rfl) ⟨(show 2 + 1 ≤ 4 + 1 * (r9 + 1) by omega), (show 8 + (11 + 11) + 40 * (2) ≤ 40 * (4 + 1 * (r9 + 1)) by omega)⟩ rfl rfl (Nat.le_of_ble_eq_true rfl) (Nat.le_of_ble_eq_true rfl) (fun r9 J_135 hq9 => ?_)
                obtain ⟨z_135, rfl, hz_135, p_135⟩ := hq9
                obtain ⟨m_135, g_135, h_135⟩ := GR.made p_135 (by omega)
                have q_135 : GX [141] J_135 J m m_135 := GX.tr q_118 (GR.x g_135)
                exact tz_iret (pc := 138) (z := z_135) dX2_drawnPart_138 rfl (Nat.le_of_ble_eq_true rfl) (Nat.le_of_ble_eq_true rfl) ⟨Nat.le_refl _, Nat.le_add_right _ _⟩ ⟨_, rfl, (by omega), ⟨m_135, q_135, h_135, fun S hG E => dr_c (J1 := J) (by omega) E (by rw [← n_3]; omega) (by omega) (by rw [n_46, s_3]) (dr_end (fun S s h => drO_f _ S s h) hG (E.f (fun c hc => (f_46.tr f_3) c (by simp [zbut]; omega))) q_46.2.1 q_46.2.2.1 (by rw [(f_46.tr f_3) 1 rfl]; omega) (by rw [s_46, s_3]) (Or.inl ⟨by omega, g_80, h_80, fun S9 h9 E9 => x_80 S9 h9 E9⟩) (Or.inl ⟨by omega, g_99, h_99, fun S9 h9 E9 => x_99 S9 h9 E9⟩) (Or.inl ⟨by omega, g_118, h_118, fun S9 h9 E9 => x_118 S9 h9 E9⟩) p_135)⟩⟩
              · refine tz_iconst (pc := 110) dX2_drawnPart_110 ?_
                refine tz_goto (pc := 111) (tgt := 121) dX2_drawnPart_111 (by decide) ?_
                refine tz_istore (pc := 121) (L2 := [_, _, _, _, _, _, _, _, _]) dX2_drawnPart_121 (by decide) rfl ?_
                refine tz_aload_n (pc := 123) dX2_drawnPart_123 rfl rfl ?_
                refine tz_fR (pc := 124) dX2_drawnPart_124 fl_X2_28 r_141_0 ?_
                refine tz_iload (pc := 127) dX2_drawnPart_127 rfl ?_
                refine tz_iload (pc := 129) dX2_drawnPart_129 rfl ?_
                refine tz_iload (pc := 131) dX2_drawnPart_131 rfl ?_
                refine tz_iload (pc := 133) dX2_drawnPart_133 rfl ?_
                have x_3 := (q_99).2.2.2.2 3 rfl
                have x_1 := (q_99).2.2.2.2 1 rfl
                refine tz_cV (pc := 135) (c_made hl n _ _ _ _ _ (by omega) (by omega) (by omega) (by omega) m_99 (q_99).2.1 (q_99).2.2.1 (by rw [x_1]; omega) (ltA_of (by omega) (by omega) (by omega))) vl_X2_52 dX2_drawnPart_135 o_6 rfl rfl (Nat.le_of_ble_eq_true rfl) ⟨(show 2 + 1 ≤ 4 + 1 * (r9 + 1) by omega), (show 8 + (11 + 11) + 40 * (2) ≤ 40 * (4 + 1 * (r9 + 1)) by omega)⟩ rfl rfl (Nat.le_of_ble_eq_true rfl) (Nat.le_of_ble_eq_true rfl) (fun r9 J_135 hq9 => ?_)
                obtain ⟨z_135, rfl, hz_135, p_135⟩ := hq9
                obtain ⟨m_135, g_135, h_135⟩ := GR.made p_135 (by omega)
                have q_135 : GX [141] J_135 J m m_135 := GX.tr q_99 (GR.x g_135)
                exact tz_iret (pc := 138) (z := z_135) dX2_drawnPart_138 rfl (Nat.le_of_ble_eq_true rfl) (Nat.le_of_ble_eq_true rfl) ⟨Nat.le_refl _, Nat.le_add_right _ _⟩ ⟨_, rfl, (by omega), ⟨m_135, q_135, h_135, fun S hG E => dr_c (J1 := J) (by omega) E (by rw [← n_3]; omega) (by omega) (by rw [n_46, s_3]) (dr_end (fun S s h => drO_f _ S s h) hG (E.f (fun c hc => (f_46.tr f_3) c (by simp [zbut]; omega))) q_46.2.1 q_46.2.2.1 (by rw [(f_46.tr f_3) 1 rfl]; omega) (by rw [s_46, s_3]) (Or.inl ⟨by omega, g_80, h_80, fun S9 h9 E9 => x_80 S9 h9 E9⟩) (Or.inl ⟨by omega, g_99, h_99, fun S9 h9 E9 => x_99 S9 h9 E9⟩) (Or.inr ⟨by omega, rfl, rfl⟩) p_135)⟩⟩
            · refine tz_iconst (pc := 91) dX2_drawnPart_91 ?_
              refine tz_goto (pc := 92) (tgt := 102) dX2_drawnPart_92 (by decide) ?_
              refine tz_istore (pc := 102) (L2 := [_, _, _, _, _, _, _, _, _]) dX2_drawnPart_102 (by decide) rfl ?_
              refine tz_iload (pc := 104) dX2_drawnPart_104 rfl ?_
              refine tz_iconst (pc := 106) dX2_drawnPart_106 ?_
              refine tz_icmp_ge (pc := 107) (tgt := 114) dX2_drawnPart_107 (by decide) (by omega) (by decide) (fun h_107 => ?_) (fun h_107 => ?_)
              · refine tz_aload_n (pc := 114) dX2_drawnPart_114 rfl rfl ?_
                refine tz_iload_n (pc := 115) dX2_drawnPart_115 rfl rfl ?_
                refine tz_iconst (pc := 116) dX2_drawnPart_116 ?_
                refine tz_isub (pc := 117) (v := x - 1) dX2_drawnPart_117 rfl ?_
                refine tz_cV (pc := 118) (ih _ _ (by omega) m_80 (q_80).2.1 (q_80).2.2.1 (by omega) (by omega)) vl_X2_108 dX2_drawnPart_118 o_141 rfl rfl (Nat.le_of_ble_eq_true rfl) ⟨(show (4 + 1 * r9) + 1 ≤ 4 + 1 * (r9 + 1) by omega), (show 8 + (9 + 11) + 40 * ((4 + 1 * r9)) ≤ 40 * (4 + 1 * (r9 + 1)) by omega)⟩ rfl rfl (Nat.le_of_ble_eq_true rfl) (Nat.le_of_ble_eq_true rfl) (fun r9 J_118 hq9 => ?_)
                obtain ⟨z_118, rfl, hz_118, m_118, g_118, h_118, x_118⟩ := hq9
                have q_118 := GX.tr q_80 g_118
                have e_118 := g_118.1
                refine tz_istore (pc := 121) (L2 := [_, _, _, _, _, _, _, _, _]) dX2_drawnPart_121 (by decide) rfl ?_
                refine tz_aload_n (pc := 123) dX2_drawnPart_123 rfl rfl ?_
                refine tz_fR (pc := 124) dX2_drawnPart_124 fl_X2_28 r_141_0 ?_
                refine tz_iload (pc := 127) dX2_drawnPart_127 rfl ?_
                refine tz_iload (pc := 129) dX2_drawnPart_129 rfl ?_
                refine tz_iload (pc := 131) dX2_drawnPart_131 rfl ?_
                refine tz_iload (pc := 133) dX2_drawnPart_133 rfl ?_
                have x_3 := (q_118).2.2.2.2 3 rfl
                have x_1 := (q_118).2.2.2.2 1 rfl
                refine tz_cV (pc := 135) (c_made hl n _ _ _ _ _ (by omega) (by omega) (by omega) (by omega) m_118 (q_118).2.1 (q_118).2.2.1 (by rw [x_1]; omega) (ltA_of (by omega) (by omega) (by omega))) vl_X2_52 dX2_drawnPart_135 o_6 rfl rfl (Nat.le_of_ble_eq_true rfl) ⟨(show 2 + 1 ≤ 4 + 1 * (r9 + 1) by omega), (show 8 + (11 + 11) + 40 * (2) ≤ 40 * (4 + 1 * (r9 + 1)) by omega)⟩ rfl rfl (Nat.le_of_ble_eq_true rfl) (Nat.le_of_ble_eq_true rfl) (fun r9 J_135 hq9 => ?_)
                obtain ⟨z_135, rfl, hz_135, p_135⟩ := hq9
                obtain ⟨m_135, g_135, h_135⟩ := GR.made p_135 (by omega)
                have q_135 : GX [141] J_135 J m m_135 := GX.tr q_118 (GR.x g_135)
                exact tz_iret (pc := 138) (z := z_135) dX2_drawnPart_138 rfl (Nat.le_of_ble_eq_true rfl) (Nat.le_of_ble_eq_true rfl) ⟨Nat.le_refl _, Nat.le_add_right _ _⟩ ⟨_, rfl, (by omega), ⟨m_135, q_135, h_135, fun S hG E => dr_c (J1 := J) (by omega) E (by rw [← n_3]; omega) (by omega) (by rw [n_46, s_3]) (dr_end (fun S s h => drO_f _ S s h) hG (E.f (fun c hc => (f_46.tr f_3) c (by simp [zbut]; omega))) q_46.2.1 q_46.2.2.1 (by rw [(f_46.tr f_3) 1 rfl]; omega) (by rw [s_46, s_3]) (Or.inl ⟨by omega, g_80, h_80, fun S9 h9 E9 => x_80 S9 h9 E9⟩) (Or.inr ⟨by omega, rfl, rfl⟩) (Or.inl ⟨by omega, g_118, h_118, fun S9 h9 E9 => x_118 S9 h9 E9⟩) p_135)⟩⟩
              · refine tz_iconst (pc := 110) dX2_drawnPart_110 ?_
                refine tz_goto (pc := 111) (tgt := 121) dX2_drawnPart_111 (by decide) ?_
                refine tz_istore (pc := 121) (L2 := [_, _, _, _, _, _, _, _, _]) dX2_drawnPart_121 (by decide) rfl ?_
                refine tz_aload_n (pc := 123) dX2_drawnPart_123 rfl rfl ?_
                refine tz_fR (pc := 124) dX2_drawnPart_124 fl_X2_28 r_141_0 ?_
                refine tz_iload (pc := 127) dX2_drawnPart_127 rfl ?_
                refine tz_iload (pc := 129) dX2_drawnPart_129 rfl ?_
                refine tz_iload (pc := 131) dX2_drawnPart_131 rfl ?_
                refine tz_iload (pc := 133) dX2_drawnPart_133 rfl ?_
                have x_3 := (q_80).2.2.2.2 3 rfl
                have x_1 := (q_80).2.2.2.2 1 rfl
                refine tz_cV (pc := 135) (c_made hl n _ _ _ _ _ (by omega) (by omega) (by omega) (by omega) m_80 (q_80).2.1 (q_80).2.2.1 (by rw [x_1]; omega) (ltA_of (by omega) (by omega) (by omega))) vl_X2_52 dX2_drawnPart_135 o_6 rfl rfl (Nat.le_of_ble_eq_true rfl) ⟨(show 2 + 1 ≤ 4 + 1 * (r9 + 1) by omega), (show 8 + (11 + 11) + 40 * (2) ≤ 40 * (4 + 1 * (r9 + 1)) by omega)⟩ rfl rfl (Nat.le_of_ble_eq_true rfl) (Nat.le_of_ble_eq_true rfl) (fun r9 J_135 hq9 => ?_)
                obtain ⟨z_135, rfl, hz_135, p_135⟩ := hq9
                obtain ⟨m_135, g_135, h_135⟩ := GR.made p_135 (by omega)
                have q_135 : GX [141] J_135 J m m_135 := GX.tr q_80 (GR.x g_135)
                exact tz_iret (pc := 138) (z := z_135) dX2_drawnPart_138 rfl (Nat.le_of_ble_eq_true rfl) (Nat.le_of_ble_eq_true rfl) ⟨Nat.le_refl _, Nat.le_add_right _ _⟩ ⟨_, rfl, (by omega), ⟨m_135, q_135, h_135, fun S hG E => dr_c (J1 := J) (by omega) E (by rw [← n_3]; omega) (by omega) (by rw [n_46, s_3]) (dr_end (fun S s h => drO_f _ S s h) hG (E.f (fun c hc => (f_46.tr f_3) c (by simp [zbut]; omega))) q_46.2.1 q_46.2.2.1 (by rw [(f_46.tr f_3) 1 rfl]; omega) (by rw [s_46, s_3]) (Or.inl ⟨by omega, g_80, h_80, fun S9 h9 E9 => x_80 S9 h9 E9⟩) (Or.inr ⟨by omega, rfl, rfl⟩) (Or.inr ⟨by omega, rfl, rfl⟩) p_135)⟩⟩
          · refine tz_iconst (pc := 72) dX2_drawnPart_72 ?_
            refine tz_goto (pc := 73) (tgt := 83) dX2_drawnPart_73 (by decide) ?_
            refine tz_istore (pc := 83) (L2 := [_, _, _, _, _, _, _, _, _]) dX2_drawnPart_83 (by decide) rfl ?_
            refine tz_iload (pc := 85) dX2_drawnPart_85 rfl ?_
            refine tz_iconst (pc := 87) dX2_drawnPart_87 ?_
            refine tz_icmp_ge (pc := 88) (tgt := 95) dX2_drawnPart_88 (by decide) (by omega) (by decide) (fun h_88 => ?_) (fun h_88 => ?_)
            · refine tz_aload_n (pc := 95) dX2_drawnPart_95 rfl rfl ?_
              refine tz_iload_n (pc := 96) dX2_drawnPart_96 rfl rfl ?_
              refine tz_iconst (pc := 97) dX2_drawnPart_97 ?_
              refine tz_isub (pc := 98) (v := x - 1) dX2_drawnPart_98 rfl ?_
              refine tz_cV (pc := 99) (ih _ _ (by omega) m (q_46).2.1 (q_46).2.2.1 (by omega) (by omega)) vl_X2_108 dX2_drawnPart_99 o_141 rfl rfl (Nat.le_of_ble_eq_true rfl) ⟨(show (4 + 1 * r9) + 1 ≤ 4 + 1 * (r9 + 1) by omega), (show 8 + (9 + 11) + 40 * ((4 + 1 * r9)) ≤ 40 * (4 + 1 * (r9 + 1)) by omega)⟩ rfl rfl (Nat.le_of_ble_eq_true rfl) (Nat.le_of_ble_eq_true rfl) (fun r9 J_99 hq9 => ?_)
              obtain ⟨z_99, rfl, hz_99, m_99, g_99, h_99, x_99⟩ := hq9
              have q_99 := GX.tr q_46 g_99
              have e_99 := g_99.1
              refine tz_istore (pc := 102) (L2 := [_, _, _, _, _, _, _, _, _]) dX2_drawnPart_102 (by decide) rfl ?_
              refine tz_iload (pc := 104) dX2_drawnPart_104 rfl ?_
              refine tz_iconst (pc := 106) dX2_drawnPart_106 ?_
              refine tz_icmp_ge (pc := 107) (tgt := 114) dX2_drawnPart_107 (by decide) (by omega) (by decide) (fun h_107 => ?_) (fun h_107 => ?_)
              · refine tz_aload_n (pc := 114) dX2_drawnPart_114 rfl rfl ?_
                refine tz_iload_n (pc := 115) dX2_drawnPart_115 rfl rfl ?_
                refine tz_iconst (pc := 116) dX2_drawnPart_116 ?_
                refine tz_isub (pc := 117) (v := x - 1) dX2_drawnPart_117 rfl ?_
                refine tz_cV (pc := 118) (ih _ _ (by omega) m_99 (q_99).2.1 (q_99).2.2.1 (by omega) (by omega)) vl_X2_108 dX2_drawnPart_118 o_141 rfl rfl (Nat.le_of_ble_eq_true rfl) ⟨(show (4 + 1 * r9) + 1 ≤ 4 + 1 * (r9 + 1) by omega), (show 8 + (9 + 11) + 40 * ((4 + 1 * r9)) ≤ 40 * (4 + 1 * (r9 + 1)) by omega)⟩ rfl rfl (Nat.le_of_ble_eq_true rfl) (Nat.le_of_ble_eq_true rfl) (fun r9 J_118 hq9 => ?_)
                obtain ⟨z_118, rfl, hz_118, m_118, g_118, h_118, x_118⟩ := hq9
                have q_118 := GX.tr q_99 g_118
                have e_118 := g_118.1
                refine tz_istore (pc := 121) (L2 := [_, _, _, _, _, _, _, _, _]) dX2_drawnPart_121 (by decide) rfl ?_
                refine tz_aload_n (pc := 123) dX2_drawnPart_123 rfl rfl ?_
                refine tz_fR (pc := 124) dX2_drawnPart_124 fl_X2_28 r_141_0 ?_
                refine tz_iload (pc := 127) dX2_drawnPart_127 rfl ?_
                refine tz_iload (pc := 129) dX2_drawnPart_129 rfl ?_
                refine tz_iload (pc := 131) dX2_drawnPart_131 rfl ?_
                refine tz_iload (pc := 133) dX2_drawnPart_133 rfl ?_
                have x_3 := (q_118).2.2.2.2 3 rfl
                have x_1 := (q_118).2.2.2.2 1 rfl
                refine tz_cV (pc := 135) (c_made hl n _ _ _ _ _ (by omega) (by omega) (by omega) (by omega) m_118 (q_118).2.1 (q_118).2.2.1 (by rw [x_1]; omega) (ltA_of (by omega) (by omega) (by omega))) vl_X2_52 dX2_drawnPart_135 o_6 rfl rfl (Nat.le_of_ble_eq_true rfl) ⟨(show 2 + 1 ≤ 4 + 1 * (r9 + 1) by omega), (show 8 + (11 + 11) + 40 * (2) ≤ 40 * (4 + 1 * (r9 + 1)) by omega)⟩ rfl rfl (Nat.le_of_ble_eq_true rfl) (Nat.le_of_ble_eq_true rfl) (fun r9 J_135 hq9 => ?_)
                obtain ⟨z_135, rfl, hz_135, p_135⟩ := hq9
                obtain ⟨m_135, g_135, h_135⟩ := GR.made p_135 (by omega)
                have q_135 : GX [141] J_135 J m m_135 := GX.tr q_118 (GR.x g_135)
                exact tz_iret (pc := 138) (z := z_135) dX2_drawnPart_138 rfl (Nat.le_of_ble_eq_true rfl) (Nat.le_of_ble_eq_true rfl) ⟨Nat.le_refl _, Nat.le_add_right _ _⟩ ⟨_, rfl, (by omega), ⟨m_135, q_135, h_135, fun S hG E => dr_c (J1 := J) (by omega) E (by rw [← n_3]; omega) (by omega) (by rw [n_46, s_3]) (dr_end (fun S s h => drO_f _ S s h) hG (E.f (fun c hc => (f_46.tr f_3) c (by simp [zbut]; omega))) q_46.2.1 q_46.2.2.1 (by rw [(f_46.tr f_3) 1 rfl]; omega) (by rw [s_46, s_3]) (Or.inr ⟨by omega, rfl, rfl⟩) (Or.inl ⟨by omega, g_99, h_99, fun S9 h9 E9 => x_99 S9 h9 E9⟩) (Or.inl ⟨by omega, g_118, h_118, fun S9 h9 E9 => x_118 S9 h9 E9⟩) p_135)⟩⟩
              · refine tz_iconst (pc := 110) dX2_drawnPart_110 ?_
                refine tz_goto (pc := 111) (tgt := 121) dX2_drawnPart_111 (by decide) ?_
                refine tz_istore (pc := 121) (L2 := [_, _, _, _, _, _, _, _, _]) dX2_drawnPart_121 (by decide) rfl ?_
                refine tz_aload_n (pc := 123) dX2_drawnPart_123 rfl rfl ?_
                refine tz_fR (pc := 124) dX2_drawnPart_124 fl_X2_28 r_141_0 ?_
                refine tz_iload (pc := 127) dX2_drawnPart_127 rfl ?_
                refine tz_iload (pc := 129) dX2_drawnPart_129 rfl ?_
                refine tz_iload (pc := 131) dX2_drawnPart_131 rfl ?_
                refine tz_iload (pc := 133) dX2_drawnPart_133 rfl ?_
                have x_3 := (q_99).2.2.2.2 3 rfl
                have x_1 := (q_99).2.2.2.2 1 rfl
                refine tz_cV (pc := 135) (c_made hl n _ _ _ _ _ (by omega) (by omega) (by omega) (by omega) m_99 (q_99).2.1 (q_99).2.2.1 (by rw [x_1]; omega) (ltA_of (by omega) (by omega) (by omega))) vl_X2_52 dX2_drawnPart_135 o_6 rfl rfl (Nat.le_of_ble_eq_true rfl) ⟨(show 2 + 1 ≤ 4 + 1 * (r9 + 1) by omega), (show 8 + (11 + 11) + 40 * (2) ≤ 40 * (4 + 1 * (r9 + 1)) by omega)⟩ rfl rfl (Nat.le_of_ble_eq_true rfl) (Nat.le_of_ble_eq_true rfl) (fun r9 J_135 hq9 => ?_)
                obtain ⟨z_135, rfl, hz_135, p_135⟩ := hq9
                obtain ⟨m_135, g_135, h_135⟩ := GR.made p_135 (by omega)
                have q_135 : GX [141] J_135 J m m_135 := GX.tr q_99 (GR.x g_135)
                exact tz_iret (pc := 138) (z := z_135) dX2_drawnPart_138 rfl (Nat.le_of_ble_eq_true rfl) (Nat.le_of_ble_eq_true rfl) ⟨Nat.le_refl _, Nat.le_add_right _ _⟩ ⟨_, rfl, (by omega), ⟨m_135, q_135, h_135, fun S hG E => dr_c (J1 := J) (by omega) E (by rw [← n_3]; omega) (by omega) (by rw [n_46, s_3]) (dr_end (fun S s h => drO_f _ S s h) hG (E.f (fun c hc => (f_46.tr f_3) c (by simp [zbut]; omega))) q_46.2.1 q_46.2.2.1 (by rw [(f_46.tr f_3) 1 rfl]; omega) (by rw [s_46, s_3]) (Or.inr ⟨by omega, rfl, rfl⟩) (Or.inl ⟨by omega, g_99, h_99, fun S9 h9 E9 => x_99 S9 h9 E9⟩) (Or.inr ⟨by omega, rfl, rfl⟩) p_135)⟩⟩
            · refine tz_iconst (pc := 91) dX2_drawnPart_91 ?_
              refine tz_goto (pc := 92) (tgt := 102) dX2_drawnPart_92 (by decide) ?_
              refine tz_istore (pc := 102) (L2 := [_, _, _, _, _, _, _, _, _]) dX2_drawnPart_102 (by decide) rfl ?_
              refine tz_iload (pc := 104) dX2_drawnPart_104 rfl ?_
              refine tz_iconst (pc := 106) dX2_drawnPart_106 ?_
              refine tz_icmp_ge (pc := 107) (tgt := 114) dX2_drawnPart_107 (by decide) (by omega) (by decide) (fun h_107 => ?_) (fun h_107 => ?_)
              · refine tz_aload_n (pc := 114) dX2_drawnPart_114 rfl rfl ?_
                refine tz_iload_n (pc := 115) dX2_drawnPart_115 rfl rfl ?_
                refine tz_iconst (pc := 116) dX2_drawnPart_116 ?_
                refine tz_isub (pc := 117) (v := x - 1) dX2_drawnPart_117 rfl ?_
                refine tz_cV (pc := 118) (ih _ _ (by omega) m (q_46).2.1 (q_46).2.2.1 (by omega) (by omega)) vl_X2_108 dX2_drawnPart_118 o_141 rfl rfl (Nat.le_of_ble_eq_true rfl) ⟨(show (4 + 1 * r9) + 1 ≤ 4 + 1 * (r9 + 1) by omega), (show 8 + (9 + 11) + 40 * ((4 + 1 * r9)) ≤ 40 * (4 + 1 * (r9 + 1)) by omega)⟩ rfl rfl (Nat.le_of_ble_eq_true rfl) (Nat.le_of_ble_eq_true rfl) (fun r9 J_118 hq9 => ?_)
                obtain ⟨z_118, rfl, hz_118, m_118, g_118, h_118, x_118⟩ := hq9
                have q_118 := GX.tr q_46 g_118
                have e_118 := g_118.1
                refine tz_istore (pc := 121) (L2 := [_, _, _, _, _, _, _, _, _]) dX2_drawnPart_121 (by decide) rfl ?_
                refine tz_aload_n (pc := 123) dX2_drawnPart_123 rfl rfl ?_
                refine tz_fR (pc := 124) dX2_drawnPart_124 fl_X2_28 r_141_0 ?_
                refine tz_iload (pc := 127) dX2_drawnPart_127 rfl ?_
                refine tz_iload (pc := 129) dX2_drawnPart_129 rfl ?_
                refine tz_iload (pc := 131) dX2_drawnPart_131 rfl ?_
                refine tz_iload (pc := 133) dX2_drawnPart_133 rfl ?_
                have x_3 := (q_118).2.2.2.2 3 rfl
                have x_1 := (q_118).2.2.2.2 1 rfl
                refine tz_cV (pc := 135) (c_made hl n _ _ _ _ _ (by omega) (by omega) (by omega) (by omega) m_118 (q_118).2.1 (q_118).2.2.1 (by rw [x_1]; omega) (ltA_of (by omega) (by omega) (by omega))) vl_X2_52 dX2_drawnPart_135 o_6 rfl rfl (Nat.le_of_ble_eq_true rfl) ⟨(show 2 + 1 ≤ 4 + 1 * (r9 + 1) by omega), (show 8 + (11 + 11) + 40 * (2) ≤ 40 * (4 + 1 * (r9 + 1)) by omega)⟩ rfl rfl (Nat.le_of_ble_eq_true rfl) (Nat.le_of_ble_eq_true rfl) (fun r9 J_135 hq9 => ?_)
                obtain ⟨z_135, rfl, hz_135, p_135⟩ := hq9
                obtain ⟨m_135, g_135, h_135⟩ := GR.made p_135 (by omega)
                have q_135 : GX [141] J_135 J m m_135 := GX.tr q_118 (GR.x g_135)
                exact tz_iret (pc := 138) (z := z_135) dX2_drawnPart_138 rfl (Nat.le_of_ble_eq_true rfl) (Nat.le_of_ble_eq_true rfl) ⟨Nat.le_refl _, Nat.le_add_right _ _⟩ ⟨_, rfl, (by omega), ⟨m_135, q_135, h_135, fun S hG E => dr_c (J1 := J) (by omega) E (by rw [← n_3]; omega) (by omega) (by rw [n_46, s_3]) (dr_end (fun S s h => drO_f _ S s h) hG (E.f (fun c hc => (f_46.tr f_3) c (by simp [zbut]; omega))) q_46.2.1 q_46.2.2.1 (by rw [(f_46.tr f_3) 1 rfl]; omega) (by rw [s_46, s_3]) (Or.inr ⟨by omega, rfl, rfl⟩) (Or.inr ⟨by omega, rfl, rfl⟩) (Or.inl ⟨by omega, g_118, h_118, fun S9 h9 E9 => x_118 S9 h9 E9⟩) p_135)⟩⟩
              · refine tz_iconst (pc := 110) dX2_drawnPart_110 ?_
                refine tz_goto (pc := 111) (tgt := 121) dX2_drawnPart_111 (by decide) ?_
                refine tz_istore (pc := 121) (L2 := [_, _, _, _, _, _, _, _, _]) dX2_drawnPart_121 (by decide) rfl ?_
                refine tz_aload_n (pc := 123) dX2_drawnPart_123 rfl rfl ?_
                refine tz_fR (pc := 124) dX2_drawnPart_124 fl_X2_28 r_141_0 ?_
                refine tz_iload (pc := 127) dX2_drawnPart_127 rfl ?_
                refine tz_iload (pc := 129) dX2_drawnPart_129 rfl ?_
                refine tz_iload (pc := 131) dX2_drawnPart_131 rfl ?_
                refine tz_iload (pc := 133) dX2_drawnPart_133 rfl ?_
                have x_3 := (q_46).2.2.2.2 3 rfl
                have x_1 := (q_46).2.2.2.2 1 rfl
                refine tz_cV (pc := 135) (c_made hl n _ _ _ _ _ (by omega) (by omega) (by omega) (by omega) m (q_46).2.1 (q_46).2.2.1 (by rw [x_1]; omega) (ltA_of (by omega) (by omega) (by omega))) vl_X2_52 dX2_drawnPart_135 o_6 rfl rfl (Nat.le_of_ble_eq_true rfl) ⟨(show 2 + 1 ≤ 4 + 1 * (r9 + 1) by omega), (show 8 + (11 + 11) + 40 * (2) ≤ 40 * (4 + 1 * (r9 + 1)) by omega)⟩ rfl rfl (Nat.le_of_ble_eq_true rfl) (Nat.le_of_ble_eq_true rfl) (fun r9 J_135 hq9 => ?_)
                obtain ⟨z_135, rfl, hz_135, p_135⟩ := hq9
                obtain ⟨m_135, g_135, h_135⟩ := GR.made p_135 (by omega)
                have q_135 : GX [141] J_135 J m m_135 := GX.tr q_46 (GR.x g_135)
                exact tz_iret (pc := 138) (z := z_135) dX2_drawnPart_138 rfl (Nat.le_of_ble_eq_true rfl) (Nat.le_of_ble_eq_true rfl) ⟨Nat.le_refl _, Nat.le_add_right _ _⟩ ⟨_, rfl, (by omega), ⟨m_135, q_135, h_135, fun S hG E => dr_c (J1 := J) (by omega) E (by rw [← n_3]; omega) (by omega) (by rw [n_46, s_3]) (dr_end (fun S s h => drO_f _ S s h) hG (E.f (fun c hc => (f_46.tr f_3) c (by simp [zbut]; omega))) q_46.2.1 q_46.2.2.1 (by rw [(f_46.tr f_3) 1 rfl]; omega) (by rw [s_46, s_3]) (Or.inr ⟨by omega, rfl, rfl⟩) (Or.inr ⟨by omega, rfl, rfl⟩) (Or.inr ⟨by omega, rfl, rfl⟩) p_135)⟩⟩
        · refine tz_aload_n (pc := 31) dX2_drawnPart_31 rfl rfl ?_
          refine tz_fR (pc := 32) dX2_drawnPart_32 fl_X2_28 r_141_0 ?_
          refine tz_aload_n (pc := 35) dX2_drawnPart_35 rfl rfl ?_
          refine tz_iconst (pc := 36) dX2_drawnPart_36 ?_
          refine tz_cV (pc := 37) (c_drawOf hl n _ _ (by omega) (by omega)) vl_X2_111 dX2_drawnPart_37 o_141 rfl rfl (Nat.le_of_ble_eq_true rfl) ⟨(show 0 + 1 ≤ 4 + 1 * (r9 + 1) by omega), (show 8 + (2 + 11) + 40 * (0) ≤ 40 * (4 + 1 * (r9 + 1)) by omega)⟩ rfl rfl (Nat.le_of_ble_eq_true rfl) (Nat.le_of_ble_eq_true rfl) (fun r9 J_37 hq9 => ?_)
          obtain ⟨z_37, rfl, hz_37, hj_37, hz_37, zv_37⟩ := hq9
          have f_37 : zOf (zbut [141]) J_37 J_3 := by rw [← hj_37]; exact zOf.up rfl zOf.rf
          have q_37 : GX [141] J_37 J m m := (q_3).off rfl f_37
          have s_37 : J_37 141 5 = dwS (J_3 141 5) := by rw [← hj_37]; exact zup_at
          have n_37 : z_37 = dwN (dwS (J_3 141 5)) 3 := by rw [← zv_37, z32767]; rfl
          have b_40 := (q_37).2.1.told
          refine tz_cV (pc := 40) (c_varTerm hl n _ _ (by omega) m (q_37).2.1 (q_37).2.2.1 (by omega)) vl_X2_99 dX2_drawnPart_40 o_6 rfl rfl (Nat.le_of_ble_eq_true rfl) ⟨(show 3 + 1 ≤ 4 + 1 * (r9 + 1) by omega), (show 8 + (2 + 11) + 40 * (3) ≤ 40 * (4 + 1 * (r9 + 1)) by omega)⟩ rfl rfl (Nat.le_of_ble_eq_true rfl) (Nat.le_of_ble_eq_true rfl) (fun r9 J_40 hq9 => ?_)
          obtain ⟨z_40, rfl, hz_40, p_40⟩ := hq9
          obtain ⟨m_40, g_40, h_40⟩ := GR.made p_40 (by omega)
          have q_40 : GX [141] J_40 J m m_40 := GX.tr q_37 (GR.x g_40)
          exact tz_iret (pc := 43) (z := z_40) dX2_drawnPart_43 rfl (Nat.le_of_ble_eq_true rfl) (Nat.le_of_ble_eq_true rfl) ⟨Nat.le_refl _, Nat.le_add_right _ _⟩ ⟨_, rfl, (by omega), ⟨m_40, q_40, h_40, fun S hG E => dr_v (by omega) hG E (f_37.tr f_3) q_37.2.1 q_37.2.2.1 (by rw [s_37, s_3]) (by rw [n_37, s_3]) (by omega) (by rw [← n_3]; omega) p_40⟩⟩

end
section
/-! ===== draw of the class, exact ===== -/
theorem drO_5 : ∀ (d : Nat) (S : zJ) (s q : Int), ¬ q = 0 → (drO d S s).1.1 165 q = S 165 q
  | 0, _, _, _, _ => rfl
  | d + 1, S, s, q, h => by
    have a : ∀ G s A i, (dA (drO d) G s A i).1.1 165 q = G 165 q := fun G s A i => by
      unfold dA
      split
      · exact drO_5 d G s q h
      · rfl
    rw [drO_s]
    split
    · exact tmO_5 h
    · show (tmO _ _ _ _ _).1 165 q = _
      rw [tmO_5 h]
      unfold dr2
      rw [a]
      unfold dr1
      rw [a]
      unfold dr0
      rw [a]
theorem EXD.e {F : (zJ × Int) × Int} {z : Int} {J' : zJ} (h : EXD F z J') : EXO F.1 z J' := h.imp id (fun q => ⟨q.1, q.2.1, q.2.2.1, q.2.2.2.1⟩)
set_option maxHeartbeats 4000000 in
set_option maxRecDepth 100000 in
theorem x_drawn {l : Launch} {G : tb_G} (hl : l.stackTraces = false) (n : Nat) (J : zJ) (x : Int) (hr_x : -2147483648 ≤ x ∧ x < 2147483648) (m : Int) (C : CT J m) (hm : J 6 12 = m) (hx : 1 ≤ x ∧ x ≤ 4) : tz_Ok l G M_X2_drawn 10 0 0 [.ref 141, zi x] n J (zqi (fun z J' => ∃ m', GX [141] J' J m m' ∧ (z = -3 ∨ (0 ≤ z ∧ z < m')) ∧ ∀ S, S 164 21 = 0 → A0 J S → EXD (drO x.toNat S (J 141 5)) z J')) zN := by
  refine tz_Ok.of hl (by decide +kernel) rfl (tb_c1 rfl) (Nat.le_of_ble_eq_true rfl) ?_
  show tz_At l G M_X2_drawn (tb_rm 10 0 0) none (tb_ZM G 0 0 (zQ n 0 (zqi (fun z J' => ∃ m', GX [141] J' J m m' ∧ (z = -3 ∨ (0 ≤ z ∧ z < m')) ∧ ∀ S, S 164 21 = 0 → A0 J S → EXD (drO x.toNat S (J 141 5)) z J'))) (zX n 0 zN)) 0 0 n J 0 [some (.ref 141), some (zi x)] []
  refine tz_aload_n (pc := 0) dX2_drawn_0 rfl rfl ?_
  refine tz_iload_n (pc := 1) dX2_drawn_1 rfl rfl ?_
  refine tz_iconst (pc := 2) dX2_drawn_2 ?_
  refine tz_mn (pc := 3) (v := if 4 < x then 4 else x) dX2_drawn_3 ml_X2_103 (Nat.le_of_ble_eq_true rfl) (Nat.le_of_ble_eq_true rfl) (Nat.le_of_ble_eq_true rfl) (Nat.le_of_ble_eq_true rfl) (by omega) (by decide) rfl ?_
  refine tz_cV (pc := 6) (x_drawnP hl n 5 _ _ (by split <;> omega) m C hm (by split <;> omega) (by split <;> omega)) vl_X2_108 dX2_drawn_6 o_141 rfl rfl (Nat.le_of_ble_eq_true rfl) ⟨(Nat.le_of_ble_eq_true rfl), (Nat.le_of_ble_eq_true rfl)⟩ rfl rfl (Nat.le_of_ble_eq_true rfl) (Nat.le_of_ble_eq_true rfl) (fun r9 J_6 hq9 => ?_)
  obtain ⟨z_6, rfl, hz_6, m1, g1, h1, x1⟩ := hq9
  exact tz_iret (pc := 9) (z := z_6) dX2_drawn_9 rfl (Nat.le_of_ble_eq_true rfl) (Nat.le_of_ble_eq_true rfl) ⟨Nat.le_refl _, Nat.le_add_right _ _⟩ ⟨_, rfl, (by omega), ⟨m1, g1, h1, by first | exact x1 | (rw [show (zmn x 4) = x from by unfold zmn; rw [if_neg (by omega)]] at x1; exact x1) | (rw [show (if 4 < x then 4 else x) = x from if_neg (by omega)] at x1; exact x1)⟩⟩

set_option maxHeartbeats 4000000 in
set_option maxRecDepth 100000 in
theorem v_draw {l : Launch} {G : tb_G} (hl : l.stackTraces = false) (n : Nat) (J : zJ) (s : Int) (x : Int) (hr_s : -2147483648 ≤ s ∧ s < 2147483648) (hr_x : -2147483648 ≤ x ∧ x < 2147483648) (m : Int) (S : zJ) (pn : Int) (RR : Int → Int → Int) (hI : CI J m) (h9 : J 145 10 < 1000000000) (cc : CAL J S pn RR) (h21 : S 164 21 = 0) : tz_Ok l G M_X11_draw 11 0 0 [.ref 0, zi s, zi x] n J (zqi (fun z J' => CQ J' J ∧ (((1 ≤ x ∧ x ≤ 4) ∧ ED S pn RR (drO x.toNat S s).1 J' z) ∨ (¬ (1 ≤ x ∧ x ≤ 4) ∧ z = -1 ∧ CAL J' S pn RR)))) zN := by
  refine tz_Ok.of hl (by decide +kernel) rfl (tb_c1 rfl) (Nat.le_of_ble_eq_true rfl) ?_
  show tz_At l G M_X11_draw (tb_rm 11 0 0) none (tb_ZM G 0 0 (zQ n 0 (zqi (fun z J' => CQ J' J ∧ (((1 ≤ x ∧ x ≤ 4) ∧ ED S pn RR (drO x.toNat S s).1 J' z) ∨ (¬ (1 ≤ x ∧ x ≤ 4) ∧ z = -1 ∧ CAL J' S pn RR))))) (zX n 0 zN)) 0 0 n J 0 [some (.ref 0), some (zi s), some (zi x)] []
  have hC := hI.1.1.1
  have hm := hI.1.1.2.1
  have hL := hI.1.1.2.2
  have hb := hC.told
  have wb := cc.2.1.b hL
  refine tz_iload_n (pc := 0) dX11_draw_0 rfl rfl ?_
  refine tz_iconst (pc := 1) dX11_draw_1 ?_
  refine tz_icmp_lt (pc := 2) (tgt := 10) dX11_draw_2 (by decide) (by omega) (by decide) (fun h_2 => ?_) (fun h_2 => ?_)
  · refine tz_aload_n (pc := 10) dX11_draw_10 rfl rfl ?_
    refine tz_iconst (pc := 11) dX11_draw_11 ?_
    refine tz_iconst (pc := 12) dX11_draw_12 ?_
    refine tz_cV (pc := 13) (c_refused hl n _ _ _ (by decide) (by omega) (by decide)) vl_X11_284 dX11_draw_13 o_0 rfl rfl (Nat.le_of_ble_eq_true rfl) ⟨(Nat.le_of_ble_eq_true rfl), (Nat.le_of_ble_eq_true rfl)⟩ rfl rfl (Nat.le_of_ble_eq_true rfl) (Nat.le_of_ble_eq_true rfl) (fun r9 J_13 hq9 => ?_)
    obtain ⟨z_13, rfl, hz_13, f9, rfl⟩ := hq9
    exact tz_iret (pc := 16) (z := (-1)) dX11_draw_16 rfl (Nat.le_of_ble_eq_true rfl) (Nat.le_of_ble_eq_true rfl) ⟨Nat.le_refl _, Nat.le_add_right _ _⟩ ⟨_, rfl, (by decide), ⟨(SQ.cq ⟨⟨m, hI.st f9⟩, f9 145 rfl, f9 0 rfl, (f9.mono (fun c hc => by have := of_decide_eq_true hc; simp [zbut]; omega))⟩ (by omega) rfl zOf.rf), Or.inr ⟨by omega, rfl, cc.st hI f9⟩⟩⟩
  · refine tz_iload_n (pc := 5) dX11_draw_5 rfl rfl ?_
    refine tz_iconst (pc := 6) dX11_draw_6 ?_
    refine tz_icmp_le (pc := 7) (tgt := 17) dX11_draw_7 (by decide) (by omega) (by decide) (fun h_7 => ?_) (fun h_7 => ?_)
    · refine tz_aload_n (pc := 17) dX11_draw_17 rfl rfl ?_
      refine tz_fR (pc := 18) dX11_draw_18 fl_X11_29 r_0_1 ?_
      refine tz_cV (pc := 21) (c_begin hl n _) vl_X11_287 dX11_draw_21 o_5 rfl rfl (Nat.le_of_ble_eq_true rfl) ⟨(Nat.le_of_ble_eq_true rfl), (Nat.le_of_ble_eq_true rfl)⟩ rfl rfl (Nat.le_of_ble_eq_true rfl) (Nat.le_of_ble_eq_true rfl) (fun r9 Jb hq9 => ?_)
      obtain ⟨rfl, hj⟩ := hq9
      have hb9 : zOf (zbut [19, 61]) Jb J := by rw [← hj]; exact zOf.cp rfl (zOf.up rfl zOf.rf)
      have hb19 : ∀ k, ¬ k = 0 → Jb 19 k = J 19 k := fun k hk => by rw [← hj, zcp_nc (by decide), zup_ne hk]
      have a0 : AC Jb m m := by rw [← hj]; exact hI.begin
      have hb6 := a0.1.1.2.1
      obtain ⟨cb, kb, lb⟩ := cc.begin hI hj
      refine tz_aload_n (pc := 24) dX11_draw_24 rfl rfl ?_
      refine tz_fR (pc := 25) dX11_draw_25 fl_X11_62 r_0_7 ?_
      refine tz_iload_n (pc := 28) dX11_draw_28 rfl rfl ?_
      refine tz_pI (pc := 29) (kz := 5) dX11_draw_29 fl_X11_369 i_141_5 rfl rfl (by omega) ?_
      refine tz_aload_n (pc := 32) dX11_draw_32 rfl rfl ?_
      refine tz_aload_n (pc := 33) dX11_draw_33 rfl rfl ?_
      refine tz_fR (pc := 34) dX11_draw_34 fl_X11_62 r_0_7 ?_
      refine tz_iload_n (pc := 37) dX11_draw_37 rfl rfl ?_
      have a2 : AC (zup Jb 141 5 s) m m := a0.gx0 (X := [141]) ((GX.rf a0.1.1.1 hb6).off rfl (zOf.up rfl zOf.rf)) rfl
      have f2 : zOf (zbut [141]) (zup Jb 141 5 s) Jb := zOf.up rfl zOf.rf
      refine tz_cV (pc := 38) (x_drawn hl n _ _ (by omega) m a2.1.1.1 a2.1.1.2.1 (by omega)) vl_X11_372 dX11_draw_38 o_141 rfl rfl (Nat.le_of_ble_eq_true rfl) ⟨(Nat.le_of_ble_eq_true rfl), (Nat.le_of_ble_eq_true rfl)⟩ rfl rfl (Nat.le_of_ble_eq_true rfl) (Nat.le_of_ble_eq_true rfl) (fun r9 J_38 hq9 => ?_)
      obtain ⟨z_38, rfl, hz_38, m1, g1, h1, x1⟩ := hq9
      have a1 := a2.gx0 g1 rfl
      have gx : GX [141] J_38 Jb m m1 := GX.tr ((GX.rf a0.1.1.1 hb6).off rfl f2) g1
      have gg : zOf (zbut [6, 7, 8, 9, 10, 11, 12, 13, 14, 15, 16, 17, 141]) J_38 Jb := gx.2.2.2.2
      have x2 := x1 S h21 (cb.1.f (fun c hc => f2 c (by simp [zbut]; omega)))
      rw [show zup Jb 141 5 s 141 5 = s from zup_at] at x2
      have o1 := x2.e.q cb.2.1 a0.1.1.2.2 (gx.2.2.2.2 19 rfl) (fun k h => drO_5 _ S s k h)
      refine tz_cV (pc := 41) (x_settled hl n _ _ (by omega) m m1 a1) vl_X11_293 dX11_draw_41 o_0 rfl rfl (Nat.le_of_ble_eq_true rfl) ⟨(Nat.le_of_ble_eq_true rfl), (Nat.le_of_ble_eq_true rfl)⟩ rfl rfl (Nat.le_of_ble_eq_true rfl) (Nat.le_of_ble_eq_true rfl) (fun r9 J_41 hq9 => ?_)
      obtain ⟨z_41, rfl, hz_41, s9, s8⟩ := hq9
      exact tz_iret (pc := 44) (z := z_41) dX11_draw_44 rfl (Nat.le_of_ble_eq_true rfl) (Nat.le_of_ble_eq_true rfl) ⟨Nat.le_refl _, Nat.le_add_right _ _⟩ ⟨_, rfl, (by omega), ⟨(s9.cq (by rw [gg 145 rfl, hb9 145 rfl]; omega) ((gg 0 rfl).trans (hb9 0 rfl)) ((gg.mono (fun c hc => by have := of_decide_eq_true hc; simp [zbut]; omega)).tr (hb9.mono (fun c hc => by have := of_decide_eq_true hc; simp [zbut]; omega)))), Or.inl ⟨by omega, act_end cc hI hj gx rfl o1 s8⟩⟩⟩
    · refine tz_aload_n (pc := 10) dX11_draw_10 rfl rfl ?_
      refine tz_iconst (pc := 11) dX11_draw_11 ?_
      refine tz_iconst (pc := 12) dX11_draw_12 ?_
      refine tz_cV (pc := 13) (c_refused hl n _ _ _ (by decide) (by omega) (by decide)) vl_X11_284 dX11_draw_13 o_0 rfl rfl (Nat.le_of_ble_eq_true rfl) ⟨(Nat.le_of_ble_eq_true rfl), (Nat.le_of_ble_eq_true rfl)⟩ rfl rfl (Nat.le_of_ble_eq_true rfl) (Nat.le_of_ble_eq_true rfl) (fun r9 J_13 hq9 => ?_)
      obtain ⟨z_13, rfl, hz_13, f9, rfl⟩ := hq9
      exact tz_iret (pc := 16) (z := (-1)) dX11_draw_16 rfl (Nat.le_of_ble_eq_true rfl) (Nat.le_of_ble_eq_true rfl) ⟨Nat.le_refl _, Nat.le_add_right _ _⟩ ⟨_, rfl, (by decide), ⟨(SQ.cq ⟨⟨m, hI.st f9⟩, f9 145 rfl, f9 0 rfl, (f9.mono (fun c hc => by have := of_decide_eq_true hc; simp [zbut]; omega))⟩ (by omega) rfl zOf.rf), Or.inr ⟨by omega, rfl, cc.st hI f9⟩⟩⟩

end
section
/-! ===== drawn of the reference, exact ===== -/
theorem tb0_it {J : zJ} {v : Int} : tb0 (zup J 164 46 v) = tb0 J := tb0_of rfl rfl (fun k _ _ => rfl) (fun k _ _ => ⟨rfl, rfl⟩) (fun k _ _ => rfl) (fun k _ _ => ⟨rfl, rfl, rfl⟩)
theorem md_st {T : zJ → Int → (zJ × Int) × Int} {J1 J0 : zJ} {A i z : Int} (a : (i < A ∧ ((tb0 J1, z), J1 164 46) = T (tb0 J0) (J0 164 46)) ∨ (¬ i < A ∧ J1 = J0 ∧ z = 0)) : dA T (tb0 J0) (J0 164 46) A i = ((tb0 J1, z), J1 164 46) := by
  unfold dA
  rcases a with ⟨p, q⟩ | ⟨p, q, r⟩
  · rw [if_pos p, q]
  · rw [if_neg p, q, r]
theorem md_end {T : zJ → Int → (zJ × Int) × Int} {J J0 J1 J2 J' : zJ} {y z0 z1 z2 z : Int} (hy : 0 ≤ y ∧ y < 10) (a0 : (0 < J 170 (0 + y) ∧ ((tb0 J0, z0), J0 164 46) = T (tb0 J) (J 164 46)) ∨ (¬ 0 < J 170 (0 + y) ∧ J0 = J ∧ z0 = 0)) (a1 : (1 < J 170 (0 + y) ∧ ((tb0 J1, z1), J1 164 46) = T (tb0 J0) (J0 164 46)) ∨ (¬ 1 < J 170 (0 + y) ∧ J1 = J0 ∧ z1 = 0)) (a2 : (2 < J 170 (0 + y) ∧ ((tb0 J2, z2), J2 164 46) = T (tb0 J1) (J1 164 46)) ∨ (¬ 2 < J 170 (0 + y) ∧ J2 = J1 ∧ z2 = 0)) (p : (tb0 J', z) = tmO (tb0 J2) y z0 z1 z2) (e : J' 164 46 = J2 164 46) : ((tb0 J', z), J' 164 46) = drR T (tb0 J) (J 164 46) y := by
  have eA : tb0 J 170 (0 + y) = J 170 (0 + y) := by rw [tb0_0, if_pos (by omega)]
  have e0 : dr0 T (tb0 J) (J 164 46) y = ((tb0 J0, z0), J0 164 46) := by unfold dr0; rw [eA]; exact md_st a0
  have e1 : dr1 T (tb0 J) (J 164 46) y = ((tb0 J1, z1), J1 164 46) := by unfold dr1; rw [eA, e0]; exact md_st a1
  have e2 : dr2 T (tb0 J) (J 164 46) y = ((tb0 J2, z2), J2 164 46) := by unfold dr2; rw [eA, e1]; exact md_st a2
  unfold drR
  rw [e0, e1, e2, e]
  exact congrArg (fun q => (q, J2 164 46)) p
theorem md_v {J1 J J' : zJ} {x v z : Int} (hx : 1 ≤ x) (t1 : tb0 J1 = tb0 J) (s1 : J1 164 46 = dwS (dwS (J 164 46))) (hv : v = dwN (dwS (dwS (J 164 46))) 3) (hc : dwN (dwS (J 164 46)) 8 = 0 ∨ x = 1 ∨ J 164 9 = 0) (e : (tb0 J', z) = tmO (tb0 J1) (-1 - v) 0 0 0) (e46 : J' 164 46 = J1 164 46) : ((tb0 J', z), J' 164 46) = drO x.toNat (tb0 J) (J 164 46) := by
  obtain ⟨d, hd⟩ : ∃ d, x.toNat = d + 1 := ⟨x.toNat - 1, by omega⟩
  rw [hd, drO_s, if_pos (by rw [tb0_9]; omega), e46, s1, e, t1, hv]
theorem md_c {J1 J J' : zJ} {x y z : Int} (hx : 1 < x) (t1 : tb0 J1 = tb0 J) (s1 : J1 164 46 = dwS (dwS (J 164 46))) (hy : y = dwN (dwS (dwS (J 164 46))) (J 164 9)) (hc : ¬ dwN (dwS (J 164 46)) 8 = 0) (h9 : ¬ J 164 9 = 0) (e : ((tb0 J', z), J' 164 46) = drR (drO (x - 1).toNat) (tb0 J1) (J1 164 46) y) : ((tb0 J', z), J' 164 46) = drO x.toNat (tb0 J) (J 164 46) := by
  have hd : x.toNat = (x - 1).toNat + 1 := by omega
  rw [hd, drO_s, if_neg (by rw [tb0_9]; omega), tb0_9, ← hy, e, t1, s1]
set_option maxHeartbeats 4000000 in
set_option maxRecDepth 100000 in
theorem o_drawOf {l : Launch} {G : tb_G} (hl : l.stackTraces = false) (n : Nat) (J : zJ) (k : Int) (hr_k : -2147483648 ≤ k ∧ k < 2147483648)  (h0 : 0 < k) : tz_Ok l G M_X12_drawOf 0 0 0 [.ref 164, zi k] n J (zqi (fun z J' => zup J 164 46 (dwS (J 164 46)) = J' ∧ (0 ≤ z ∧ z < k) ∧ z = dwN (dwS (J 164 46)) k)) zN := by
  refine tz_Ok.of hl (by decide +kernel) rfl (tb_c1 rfl) (Nat.le_of_ble_eq_true rfl) ?_
  show tz_At l G M_X12_drawOf (tb_rm 0 0 0) none (tb_ZM G 0 0 (zQ n 0 (zqi (fun z J' => zup J 164 46 (dwS (J 164 46)) = J' ∧ (0 ≤ z ∧ z < k) ∧ z = dwN (dwS (J 164 46)) k))) (zX n 0 zN)) 0 0 n J 0 [some (.ref 164), some (zi k)] []
  refine tz_aload_n (pc := 0) dX12_drawOf_0 rfl rfl ?_
  refine tz_aload_n (pc := 1) dX12_drawOf_1 rfl rfl ?_
  refine tz_fI (pc := 2) (kz := 46) (v := (J 164 46)) dX12_drawOf_2 fl_X12_423 i_164_46 rfl rfl (fun r_2 => ?_)
  refine tz_ldcw (pc := 5) (z := 1103515245) dX12_drawOf_5 ct_X12_426 (by decide) ?_
  refine tz_imul (pc := 8) (v := (J 164 46) * 1103515245) dX12_drawOf_8 rfl ?_
  refine tz_sipush (pc := 9) dX12_drawOf_9 (by decide) ?_
  refine tz_iadd (pc := 12) (v := ((J 164 46) * 1103515245) + 12345) dX12_drawOf_12 rfl ?_
  refine tz_tw ?_
  have rw_13 := zw_rg (((J 164 46) * 1103515245) + 12345)
  refine tz_pI (pc := 13) (kz := 46) dX12_drawOf_13 fl_X12_423 i_164_46 rfl rfl (zw_rg _) ?_
  refine tz_aload_n (pc := 16) dX12_drawOf_16 rfl rfl ?_
  refine tz_fI (pc := 17) (kz := 46) (v := (zw (((J 164 46) * 1103515245) + 12345))) dX12_drawOf_17 fl_X12_423 i_164_46 rfl rfl (fun r_17 => ?_)
  refine tz_bipush (pc := 20) dX12_drawOf_20 (by decide) ?_
  refine tz_ishr (pc := 22) (v := zshr (zw (((J 164 46) * 1103515245) + 12345)) 16) dX12_drawOf_22 rfl ?_
  refine tz_sipush (pc := 23) dX12_drawOf_23 (by decide) ?_
  refine tz_iand (pc := 26) (v := zand (zshr (zw (((J 164 46) * 1103515245) + 12345)) 16) 32767) dX12_drawOf_26 rfl ?_
  refine tz_iload_n (pc := 27) dX12_drawOf_27 rfl rfl ?_
  have ha9 := z_and (zshr (zw (J 164 46 * 1103515245 + 12345)) 16) (m := 32767) 15 (by decide) (by decide)
  refine tz_irem (pc := 28) (a := (zand (zshr (zw (((J 164 46) * 1103515245) + 12345)) 16) 32767)) (b := k) (v := ((zand (zshr (zw (((J 164 46) * 1103515245) + 12345)) 16) 32767) % k)) dX12_drawOf_28 (by omega) (by omega) rfl ?_
  exact tz_iret (pc := 29) (z := ((zand (zshr (zw (((J 164 46) * 1103515245) + 12345)) 16) 32767) % k)) dX12_drawOf_29 rfl (Nat.le_of_ble_eq_true rfl) (Nat.le_of_ble_eq_true rfl) ⟨Nat.le_refl _, Nat.le_add_right _ _⟩ ⟨_, rfl, (by have := Int.emod_nonneg (zand (zshr (zw (J 164 46 * 1103515245 + 12345)) 16) 32767) (show k ≠ 0 by omega); have := Int.emod_lt_of_pos (zand (zshr (zw (J 164 46 * 1103515245 + 12345)) 16) 32767) h0; omega), ⟨rfl, ⟨Int.emod_nonneg _ (by omega), Int.emod_lt_of_pos _ h0⟩, rfl⟩⟩

set_option maxHeartbeats 4000000 in
set_option maxRecDepth 100000 in
theorem o_drawnR {l : Launch} {G : tb_G} (hl : l.stackTraces = false) (n : Nat) : ∀ (r9 : Nat) (J : zJ) (x : Int) (hr_x : -2147483648 ≤ x ∧ x < 2147483648) (s m : Int) (hM : MS J 0 0 0 s m) (h9 : J 164 9 = s) (hx : 1 ≤ x), (x.toNat) < r9 → tz_Ok l G M_X12_drawn (6 + 1 * r9) 0 0 [.ref 164, zi x] n J (zqi (fun z J' => ∃ m', MG [] [46] (fun _ => false) J' J 0 0 0 s m m' ∧ (J' 164 21 = 0 → 0 ≤ z ∧ z < m') ∧ ((tb0 J', z), J' 164 46) = drO x.toNat (tb0 J) (J 164 46))) zN := by
  intro r9
  induction r9 with
  | zero => intro J x hr_x s m hM h9 hx hm9; exact absurd hm9 (Nat.not_lt_zero _)
  | succ r9 ih =>
    intro J x hr_x s m hM h9 hx hm9
    refine tz_Ok.of hl (by decide +kernel) rfl (tb_c1 rfl) (Nat.le_of_ble_eq_true rfl) ?_
    show tz_At l G M_X12_drawn (tb_rm (6 + 1 * (r9 + 1)) 0 0) none (tb_ZM G 0 0 (zQ n 0 (zqi (fun z J' => ∃ m', MG [] [46] (fun _ => false) J' J 0 0 0 s m m' ∧ (J' 164 21 = 0 → 0 ≤ z ∧ z < m') ∧ ((tb0 J', z), J' 164 46) = drO x.toNat (tb0 J) (J 164 46)))) (zX n 0 zN)) 0 0 n J 0 [some (.ref 164), some (zi x), none, none, none, none, none] []
    have hT := hM.told
    have g0 : MG [] [46] (fun _ => false) J J 0 0 0 s m m := MG.rf hM
    refine tz_aload_n (pc := 0) dX12_drawn_0 rfl rfl ?_
    refine tz_bipush (pc := 1) dX12_drawn_1 (by decide) ?_
    refine tz_cV (pc := 3) (o_drawOf hl n _ _ (by omega) (by omega)) vl_X12_427 dX12_drawn_3 o_164 rfl rfl (Nat.le_of_ble_eq_true rfl) ⟨(show 0 + 1 ≤ 6 + 1 * (r9 + 1) by omega), (show 8 + (2 + 11) + 40 * (0) ≤ 40 * (6 + 1 * (r9 + 1)) by omega)⟩ rfl rfl (Nat.le_of_ble_eq_true rfl) (Nat.le_of_ble_eq_true rfl) (fun r9 J_3 hq9 => ?_)
    obtain ⟨z_3, rfl, hz_3, hj_3, hz_3, zv_3⟩ := hq9
    have e_3 : zOf (zbut [164]) J_3 J := by rw [← hj_3]; exact zOf.up rfl zOf.rf
    have k_3 : ∀ k, ¬ k = 46 → J_3 164 k = J 164 k := fun k hk => by rw [← hj_3]; exact zup_ne hk
    have q_3 : MG [] [46] (fun _ => false) J_3 J 0 0 0 s m m := (g0).off (fun k hk => k_3 k (by simp at hk; omega)) (fun k _ => congrFun (e_3 165 rfl) k) (e_3.mono (zbut_sub (fun c hc => by simp at hc ⊢; omega))) ⟨rfl, rfl, rfl, rfl⟩ rfl ⟨rfl, rfl, rfl, rfl⟩
    have t_3 : tb0 J_3 = tb0 J := by rw [← hj_3]; exact tb0_it
    have s_3 : J_3 164 46 = dwS (J 164 46) := by rw [← hj_3]; exact zup_at
    refine tz_istore_n (pc := 6) (L2 := [_, _, _, _, _, _, _]) dX12_drawn_6 rfl (by decide) rfl ?_
    refine tz_iload_n (pc := 7) dX12_drawn_7 rfl rfl ?_
    refine tz_if_eq (pc := 8) (tgt := 23) dX12_drawn_8 (by decide) (by omega) (fun h_8 => ?_) (fun h_8 => ?_)
    · refine tz_aload_n (pc := 23) dX12_drawn_23 rfl rfl ?_
      refine tz_aload_n (pc := 24) dX12_drawn_24 rfl rfl ?_
      refine tz_iconst (pc := 25) dX12_drawn_25 ?_
      refine tz_cV (pc := 26) (o_drawOf hl n _ _ (by omega) (by omega)) vl_X12_427 dX12_drawn_26 o_164 rfl rfl (Nat.le_of_ble_eq_true rfl) ⟨(show 0 + 1 ≤ 6 + 1 * (r9 + 1) by omega), (show 8 + (2 + 11) + 40 * (0) ≤ 40 * (6 + 1 * (r9 + 1)) by omega)⟩ rfl rfl (Nat.le_of_ble_eq_true rfl) (Nat.le_of_ble_eq_true rfl) (fun r9 J_26 hq9 => ?_)
      obtain ⟨z_26, rfl, hz_26, hj_26, hz_26, zv_26⟩ := hq9
      have e_26 : zOf (zbut [164]) J_26 J_3 := by rw [← hj_26]; exact zOf.up rfl zOf.rf
      have k_26 : ∀ k, ¬ k = 46 → J_26 164 k = J_3 164 k := fun k hk => by rw [← hj_26]; exact zup_ne hk
      have q_26 : MG [] [46] (fun _ => false) J_26 J 0 0 0 s m m := (q_3).off (fun k hk => k_26 k (by simp at hk; omega)) (fun k _ => congrFun (e_26 165 rfl) k) (e_26.mono (zbut_sub (fun c hc => by simp at hc ⊢; omega))) ⟨rfl, rfl, rfl, rfl⟩ rfl ⟨rfl, rfl, rfl, rfl⟩
      have t_26 : tb0 J_26 = tb0 J_3 := by rw [← hj_26]; exact tb0_it
      have s_26 : J_26 164 46 = dwS (J_3 164 46) := by rw [← hj_26]; exact zup_at
      have l0_29 := (q_26).1.2
      have t0_29 := (q_26).1.1.told
      refine tz_cV (pc := 29) (o_varTerm hl n _ _ (by omega) s m (q_26).1.1 (((q_26).2.2.1.2.2.1 9 (by decide)).trans h9) (by omega)) vl_X12_180 dX12_drawn_29 o_164 rfl rfl (Nat.le_of_ble_eq_true rfl) ⟨(show 3 + 1 ≤ 6 + 1 * (r9 + 1) by omega), (show 8 + (2 + 11) + 40 * (3) ≤ 40 * (6 + 1 * (r9 + 1)) by omega)⟩ rfl rfl (Nat.le_of_ble_eq_true rfl) (Nat.le_of_ble_eq_true rfl) (fun r9 J_29 hq9 => ?_)
      obtain ⟨z_29, rfl, hz_29, x_29, m_29, g_29, h_29⟩ := hq9
      have q_29 := MG.tr q_26 (MG.mono g_29 (fun _ h => by simp at h) (fun _ h => by simp at h) (fun _ h => h))
      have f_29 := g_29.2.2.2
      have l_29 := g_29.1.2
      exact tz_iret (pc := 32) (z := z_29) dX12_drawn_32 rfl (Nat.le_of_ble_eq_true rfl) (Nat.le_of_ble_eq_true rfl) ⟨Nat.le_refl _, Nat.le_add_right _ _⟩ ⟨_, rfl, (by omega), ⟨m_29, q_29, h_29, md_v (by omega) (t_26.trans t_3) (by rw [s_26, s_3]) (by rw [zv_26, s_3]) (by rw [← zv_3]; omega) (Prod.ext x_29.1 x_29.2) (g_29.2.2.1.2.2.1 46 (by decide))⟩⟩
    · refine tz_iload_n (pc := 11) dX12_drawn_11 rfl rfl ?_
      refine tz_iconst (pc := 12) dX12_drawn_12 ?_
      refine tz_icmp_eq (pc := 13) (tgt := 23) dX12_drawn_13 (by decide) (by omega) (by decide) (fun h_13 => ?_) (fun h_13 => ?_)
      · refine tz_aload_n (pc := 23) dX12_drawn_23 rfl rfl ?_
        refine tz_aload_n (pc := 24) dX12_drawn_24 rfl rfl ?_
        refine tz_iconst (pc := 25) dX12_drawn_25 ?_
        refine tz_cV (pc := 26) (o_drawOf hl n _ _ (by omega) (by omega)) vl_X12_427 dX12_drawn_26 o_164 rfl rfl (Nat.le_of_ble_eq_true rfl) ⟨(show 0 + 1 ≤ 6 + 1 * (r9 + 1) by omega), (show 8 + (2 + 11) + 40 * (0) ≤ 40 * (6 + 1 * (r9 + 1)) by omega)⟩ rfl rfl (Nat.le_of_ble_eq_true rfl) (Nat.le_of_ble_eq_true rfl) (fun r9 J_26 hq9 => ?_)
        obtain ⟨z_26, rfl, hz_26, hj_26, hz_26, zv_26⟩ := hq9
        have e_26 : zOf (zbut [164]) J_26 J_3 := by rw [← hj_26]; exact zOf.up rfl zOf.rf
        have k_26 : ∀ k, ¬ k = 46 → J_26 164 k = J_3 164 k := fun k hk => by rw [← hj_26]; exact zup_ne hk
        have q_26 : MG [] [46] (fun _ => false) J_26 J 0 0 0 s m m := (q_3).off (fun k hk => k_26 k (by simp at hk; omega)) (fun k _ => congrFun (e_26 165 rfl) k) (e_26.mono (zbut_sub (fun c hc => by simp at hc ⊢; omega))) ⟨rfl, rfl, rfl, rfl⟩ rfl ⟨rfl, rfl, rfl, rfl⟩
        have t_26 : tb0 J_26 = tb0 J_3 := by rw [← hj_26]; exact tb0_it
        have s_26 : J_26 164 46 = dwS (J_3 164 46) := by rw [← hj_26]; exact zup_at
        have l0_29 := (q_26).1.2
        have t0_29 := (q_26).1.1.told
        refine tz_cV (pc := 29) (o_varTerm hl n _ _ (by omega) s m (q_26).1.1 (((q_26).2.2.1.2.2.1 9 (by decide)).trans h9) (by omega)) vl_X12_180 dX12_drawn_29 o_164 rfl rfl (Nat.le_of_ble_eq_true rfl) ⟨(show 3 + 1 ≤ 6 + 1 * (r9 + 1) by omega), (show 8 + (2 + 11) + 40 * (3) ≤ 40 * (6 + 1 * (r9 + 1)) by omega)⟩ rfl rfl (Nat.le_of_ble_eq_true rfl) (Nat.le_of_ble_eq_true rfl) (fun r9 J_29 hq9 => ?_)
        obtain ⟨z_29, rfl, hz_29, x_29, m_29, g_29, h_29⟩ := hq9
        have q_29 := MG.tr q_26 (MG.mono g_29 (fun _ h => by simp at h) (fun _ h => by simp at h) (fun _ h => h))
        have f_29 := g_29.2.2.2
        have l_29 := g_29.1.2
        exact tz_iret (pc := 32) (z := z_29) dX12_drawn_32 rfl (Nat.le_of_ble_eq_true rfl) (Nat.le_of_ble_eq_true rfl) ⟨Nat.le_refl _, Nat.le_add_right _ _⟩ ⟨_, rfl, (by omega), ⟨m_29, q_29, h_29, md_v (by omega) (t_26.trans t_3) (by rw [s_26, s_3]) (by rw [zv_26, s_3]) (by rw [← zv_3]; omega) (Prod.ext x_29.1 x_29.2) (g_29.2.2.1.2.2.1 46 (by decide))⟩⟩
      · refine tz_aload_n (pc := 16) dX12_drawn_16 rfl rfl ?_
        refine tz_fI (pc := 17) (kz := 9) (v := s) dX12_drawn_17 fl_X12_347 i_164_9 rfl (Eq.trans (k_3 9 (by decide)) h9) (fun r_17 => ?_)
        refine tz_if_ne (pc := 20) (tgt := 33) dX12_drawn_20 (by decide) (by omega) (fun h_20 => ?_) (fun h_20 => ?_)
        · refine tz_aload_n (pc := 33) dX12_drawn_33 rfl rfl ?_
          refine tz_aload_n (pc := 34) dX12_drawn_34 rfl rfl ?_
          refine tz_fI (pc := 35) (kz := 9) (v := s) dX12_drawn_35 fl_X12_347 i_164_9 rfl (Eq.trans (k_3 9 (by decide)) h9) (fun r_35 => ?_)
          refine tz_cV (pc := 38) (o_drawOf hl n _ _ (by omega) (by omega)) vl_X12_427 dX12_drawn_38 o_164 rfl rfl (Nat.le_of_ble_eq_true rfl) ⟨(show 0 + 1 ≤ 6 + 1 * (r9 + 1) by omega), (show 8 + (2 + 11) + 40 * (0) ≤ 40 * (6 + 1 * (r9 + 1)) by omega)⟩ rfl rfl (Nat.le_of_ble_eq_true rfl) (Nat.le_of_ble_eq_true rfl) (fun r9 J_38 hq9 => ?_)
          obtain ⟨z_38, rfl, hz_38, hj_38, hz_38, zv_38⟩ := hq9
          have e_38 : zOf (zbut [164]) J_38 J_3 := by rw [← hj_38]; exact zOf.up rfl zOf.rf
          have k_38 : ∀ k, ¬ k = 46 → J_38 164 k = J_3 164 k := fun k hk => by rw [← hj_38]; exact zup_ne hk
          have q_38 : MG [] [46] (fun _ => false) J_38 J 0 0 0 s m m := (q_3).off (fun k hk => k_38 k (by simp at hk; omega)) (fun k _ => congrFun (e_38 165 rfl) k) (e_38.mono (zbut_sub (fun c hc => by simp at hc ⊢; omega))) ⟨rfl, rfl, rfl, rfl⟩ rfl ⟨rfl, rfl, rfl, rfl⟩
          have t_38 : tb0 J_38 = tb0 J_3 := by rw [← hj_38]; exact tb0_it
          have s_38 : J_38 164 46 = dwS (J_3 164 46) := by rw [← hj_38]; exact zup_at
          refine tz_istore_n (pc := 41) (L2 := [_, _, _, _, _, _, _]) dX12_drawn_41 rfl (by decide) rfl ?_
          refine tz_aload_n (pc := 42) dX12_drawn_42 rfl rfl ?_
          refine tz_fR (pc := 43) dX12_drawn_43 fl_X12_25 r_164_5 ?_
          refine tz_iload_n (pc := 46) dX12_drawn_46 rfl rfl ?_
          have hA := hM.2.2.2.2.2.1.2 z_38 (by omega) (by omega)
          simp only [Int.zero_add] at hA
          have e38 : J_38 170 z_38 = J 170 z_38 := (congrFun (e_38 170 rfl) z_38).trans (congrFun (e_3 170 rfl) z_38)
          refine tz_aL (pc := 47) (z := z_38) (v := (J 170 z_38)) dX12_drawn_47 a_170 rfl (by omega) (Eq.trans (congrFun (e_38 170 rfl) z_38) (Eq.trans (congrFun (e_3 170 rfl) z_38) rfl)) (fun r_47 => ?_)
          refine tz_if_le (pc := 48) (tgt := 61) dX12_drawn_48 (by decide) (by omega) (fun h_48 => ?_) (fun h_48 => ?_)
          · refine tz_iconst (pc := 61) dX12_drawn_61 ?_
            refine tz_istore (pc := 62) (L2 := [_, _, _, _, _, _, _]) dX12_drawn_62 (by decide) rfl ?_
            refine tz_aload_n (pc := 64) dX12_drawn_64 rfl rfl ?_
            refine tz_fR (pc := 65) dX12_drawn_65 fl_X12_25 r_164_5 ?_
            refine tz_iload_n (pc := 68) dX12_drawn_68 rfl rfl ?_
            refine tz_aL (pc := 69) (z := z_38) (v := (J 170 z_38)) dX12_drawn_69 a_170 rfl (by omega) (Eq.trans (congrFun (e_38 170 rfl) z_38) (Eq.trans (congrFun (e_3 170 rfl) z_38) rfl)) (fun r_69 => ?_)
            refine tz_iconst (pc := 70) dX12_drawn_70 ?_
            refine tz_icmp_le (pc := 71) (tgt := 84) dX12_drawn_71 (by decide) (by omega) (by decide) (fun h_71 => ?_) (fun h_71 => ?_)
            · refine tz_iconst (pc := 84) dX12_drawn_84 ?_
              refine tz_istore (pc := 85) (L2 := [_, _, _, _, _, _, _]) dX12_drawn_85 (by decide) rfl ?_
              refine tz_aload_n (pc := 87) dX12_drawn_87 rfl rfl ?_
              refine tz_fR (pc := 88) dX12_drawn_88 fl_X12_25 r_164_5 ?_
              refine tz_iload_n (pc := 91) dX12_drawn_91 rfl rfl ?_
              refine tz_aL (pc := 92) (z := z_38) (v := (J 170 z_38)) dX12_drawn_92 a_170 rfl (by omega) (Eq.trans (congrFun (e_38 170 rfl) z_38) (Eq.trans (congrFun (e_3 170 rfl) z_38) rfl)) (fun r_92 => ?_)
              refine tz_iconst (pc := 93) dX12_drawn_93 ?_
              refine tz_icmp_le (pc := 94) (tgt := 107) dX12_drawn_94 (by decide) (by omega) (by decide) (fun h_94 => ?_) (fun h_94 => ?_)
              · refine tz_iconst (pc := 107) dX12_drawn_107 ?_
                refine tz_istore (pc := 108) (L2 := [_, _, _, _, _, _, _]) dX12_drawn_108 (by decide) rfl ?_
                refine tz_aload_n (pc := 110) dX12_drawn_110 rfl rfl ?_
                refine tz_iload_n (pc := 111) dX12_drawn_111 rfl rfl ?_
                refine tz_iload (pc := 112) dX12_drawn_112 rfl ?_
                refine tz_iload (pc := 114) dX12_drawn_114 rfl ?_
                refine tz_iload (pc := 116) dX12_drawn_116 rfl ?_
                have l0_118 := (q_38).1.2
                have t0_118 := (q_38).1.1.told
                refine tz_cV (pc := 118) (o_termOf hl n _ _ _ _ _ (by omega) (by omega) (by omega) (by omega) s m (q_38).1.1 (((q_38).2.2.1.2.2.1 9 (by decide)).trans h9) (by omega) (fun q9 => by simp only [arh_pos (show 0 ≤ z_38 by omega), Int.zero_add, (q_38).2.2.1.2.2.2 170 rfl]; omega)) vl_X12_107 dX12_drawn_118 o_164 rfl rfl (Nat.le_of_ble_eq_true rfl) ⟨(show 2 + 1 ≤ 6 + 1 * (r9 + 1) by omega), (show 8 + (8 + 11) + 40 * (2) ≤ 40 * (6 + 1 * (r9 + 1)) by omega)⟩ rfl rfl (Nat.le_of_ble_eq_true rfl) (Nat.le_of_ble_eq_true rfl) (fun r9 J_118 hq9 => ?_)
                obtain ⟨z_118, rfl, hz_118, x_118, m_118, g_118, h_118⟩ := hq9
                have q_118 := MG.tr q_38 (MG.mono g_118 (fun _ h => by simp at h) (fun _ h => by simp at h) (fun _ h => h))
                have f_118 := g_118.2.2.2
                have l_118 := g_118.1.2
                exact tz_iret (pc := 121) (z := z_118) dX12_drawn_121 rfl (Nat.le_of_ble_eq_true rfl) (Nat.le_of_ble_eq_true rfl) ⟨Nat.le_refl _, Nat.le_add_right _ _⟩ ⟨_, rfl, (by omega), ⟨m_118, q_118, h_118, md_c (by omega) (t_38.trans t_3) (by rw [s_38, s_3]) (by rw [zv_38, s_3, h9]) (by rw [← zv_3]; omega) (by omega) (md_end (by omega) (Or.inr ⟨by rw [Int.zero_add, e38]; omega, rfl, rfl⟩) (Or.inr ⟨by rw [Int.zero_add, e38]; omega, rfl, rfl⟩) (Or.inr ⟨by rw [Int.zero_add, e38]; omega, rfl, rfl⟩) (Prod.ext x_118.1 x_118.2) (g_118.2.2.1.2.2.1 46 (by decide)))⟩⟩
              · refine tz_aload_n (pc := 97) dX12_drawn_97 rfl rfl ?_
                refine tz_iload_n (pc := 98) dX12_drawn_98 rfl rfl ?_
                refine tz_iconst (pc := 99) dX12_drawn_99 ?_
                refine tz_isub (pc := 100) (v := x - 1) dX12_drawn_100 rfl ?_
                have l0_101 := (q_38).1.2
                have t0_101 := (q_38).1.1.told
                refine tz_cV (pc := 101) (ih _ _ (by omega) s m (q_38).1.1 (by rw [(q_38).2.2.1.2.2.1 9 (by decide)]; exact h9) (by omega) (by omega)) vl_X12_430 dX12_drawn_101 o_164 rfl rfl (Nat.le_of_ble_eq_true rfl) ⟨(show (6 + 1 * r9) + 1 ≤ 6 + 1 * (r9 + 1) by omega), (show 8 + (7 + 11) + 40 * ((6 + 1 * r9)) ≤ 40 * (6 + 1 * (r9 + 1)) by omega)⟩ rfl rfl (Nat.le_of_ble_eq_true rfl) (Nat.le_of_ble_eq_true rfl) (fun r9 J_101 hq9 => ?_)
                obtain ⟨z_101, rfl, hz_101, m_101, g_101, h_101, x_101⟩ := hq9
                have q_101 := MG.tr q_38 g_101
                have f_101 := g_101.2.2.2
                have l_101 := g_101.1.2
                refine tz_goto (pc := 104) (tgt := 108) dX12_drawn_104 (by decide) ?_
                refine tz_istore (pc := 108) (L2 := [_, _, _, _, _, _, _]) dX12_drawn_108 (by decide) rfl ?_
                refine tz_aload_n (pc := 110) dX12_drawn_110 rfl rfl ?_
                refine tz_iload_n (pc := 111) dX12_drawn_111 rfl rfl ?_
                refine tz_iload (pc := 112) dX12_drawn_112 rfl ?_
                refine tz_iload (pc := 114) dX12_drawn_114 rfl ?_
                refine tz_iload (pc := 116) dX12_drawn_116 rfl ?_
                have l0_118 := (q_101).1.2
                have t0_118 := (q_101).1.1.told
                refine tz_cV (pc := 118) (o_termOf hl n _ _ _ _ _ (by omega) (by omega) (by omega) (by omega) s m_101 (q_101).1.1 (((q_101).2.2.1.2.2.1 9 (by decide)).trans h9) (by omega) (fun q9 => by simp only [arh_pos (show 0 ≤ z_38 by omega), Int.zero_add, (q_101).2.2.1.2.2.2 170 rfl]; omega)) vl_X12_107 dX12_drawn_118 o_164 rfl rfl (Nat.le_of_ble_eq_true rfl) ⟨(show 2 + 1 ≤ 6 + 1 * (r9 + 1) by omega), (show 8 + (8 + 11) + 40 * (2) ≤ 40 * (6 + 1 * (r9 + 1)) by omega)⟩ rfl rfl (Nat.le_of_ble_eq_true rfl) (Nat.le_of_ble_eq_true rfl) (fun r9 J_118 hq9 => ?_)
                obtain ⟨z_118, rfl, hz_118, x_118, m_118, g_118, h_118⟩ := hq9
                have q_118 := MG.tr q_101 (MG.mono g_118 (fun _ h => by simp at h) (fun _ h => by simp at h) (fun _ h => h))
                have f_118 := g_118.2.2.2
                have l_118 := g_118.1.2
                exact tz_iret (pc := 121) (z := z_118) dX12_drawn_121 rfl (Nat.le_of_ble_eq_true rfl) (Nat.le_of_ble_eq_true rfl) ⟨Nat.le_refl _, Nat.le_add_right _ _⟩ ⟨_, rfl, (by omega), ⟨m_118, q_118, h_118, md_c (by omega) (t_38.trans t_3) (by rw [s_38, s_3]) (by rw [zv_38, s_3, h9]) (by rw [← zv_3]; omega) (by omega) (md_end (by omega) (Or.inr ⟨by rw [Int.zero_add, e38]; omega, rfl, rfl⟩) (Or.inr ⟨by rw [Int.zero_add, e38]; omega, rfl, rfl⟩) (Or.inl ⟨by rw [Int.zero_add, e38]; omega, x_101⟩) (Prod.ext x_118.1 x_118.2) (g_118.2.2.1.2.2.1 46 (by decide)))⟩⟩
            · refine tz_aload_n (pc := 74) dX12_drawn_74 rfl rfl ?_
              refine tz_iload_n (pc := 75) dX12_drawn_75 rfl rfl ?_
              refine tz_iconst (pc := 76) dX12_drawn_76 ?_
              refine tz_isub (pc := 77) (v := x - 1) dX12_drawn_77 rfl ?_
              have l0_78 := (q_38).1.2
              have t0_78 := (q_38).1.1.told
              refine tz_cV (pc := 78) (ih _ _ (by omega) s m (q_38).1.1 (by rw [(q_38).2.2.1.2.2.1 9 (by decide)]; exact h9) (by omega) (by omega)) vl_X12_430 dX12_drawn_78 o_164 rfl rfl (Nat.le_of_ble_eq_true rfl) ⟨(show (6 + 1 * r9) + 1 ≤ 6 + 1 * (r9 + 1) by omega), (show 8 + (7 + 11) + 40 * ((6 + 1 * r9)) ≤ 40 * (6 + 1 * (r9 + 1)) by omega)⟩ rfl rfl (Nat.le_of_ble_eq_true rfl) (Nat.le_of_ble_eq_true rfl) (fun r9 J_78 hq9 => ?_)
              obtain ⟨z_78, rfl, hz_78, m_78, g_78, h_78, x_78⟩ := hq9
              have q_78 := MG.tr q_38 g_78
              have f_78 := g_78.2.2.2
              have l_78 := g_78.1.2
              refine tz_goto (pc := 81) (tgt := 85) dX12_drawn_81 (by decide) ?_
              refine tz_istore (pc := 85) (L2 := [_, _, _, _, _, _, _]) dX12_drawn_85 (by decide) rfl ?_
              refine tz_aload_n (pc := 87) dX12_drawn_87 rfl rfl ?_
              refine tz_fR (pc := 88) dX12_drawn_88 fl_X12_25 r_164_5 ?_
              refine tz_iload_n (pc := 91) dX12_drawn_91 rfl rfl ?_
              refine tz_aL (pc := 92) (z := z_38) (v := (J 170 z_38)) dX12_drawn_92 a_170 rfl (by omega) (Eq.trans (congrFun (g_78.2.2.1.2.2.2 170 rfl) z_38) (Eq.trans (congrFun (e_38 170 rfl) z_38) (Eq.trans (congrFun (e_3 170 rfl) z_38) rfl))) (fun r_92 => ?_)
              refine tz_iconst (pc := 93) dX12_drawn_93 ?_
              refine tz_icmp_le (pc := 94) (tgt := 107) dX12_drawn_94 (by decide) (by omega) (by decide) (fun h_94 => ?_) (fun h_94 => ?_)
              · refine tz_iconst (pc := 107) dX12_drawn_107 ?_
                refine tz_istore (pc := 108) (L2 := [_, _, _, _, _, _, _]) dX12_drawn_108 (by decide) rfl ?_
                refine tz_aload_n (pc := 110) dX12_drawn_110 rfl rfl ?_
                refine tz_iload_n (pc := 111) dX12_drawn_111 rfl rfl ?_
                refine tz_iload (pc := 112) dX12_drawn_112 rfl ?_
                refine tz_iload (pc := 114) dX12_drawn_114 rfl ?_
                refine tz_iload (pc := 116) dX12_drawn_116 rfl ?_
                have l0_118 := (q_78).1.2
                have t0_118 := (q_78).1.1.told
                refine tz_cV (pc := 118) (o_termOf hl n _ _ _ _ _ (by omega) (by omega) (by omega) (by omega) s m_78 (q_78).1.1 (((q_78).2.2.1.2.2.1 9 (by decide)).trans h9) (by omega) (fun q9 => by simp only [arh_pos (show 0 ≤ z_38 by omega), Int.zero_add, (q_78).2.2.1.2.2.2 170 rfl]; omega)) vl_X12_107 dX12_drawn_118 o_164 rfl rfl (Nat.le_of_ble_eq_true rfl) ⟨(show 2 + 1 ≤ 6 + 1 * (r9 + 1) by omega), (show 8 + (8 + 11) + 40 * (2) ≤ 40 * (6 + 1 * (r9 + 1)) by omega)⟩ rfl rfl (Nat.le_of_ble_eq_true rfl) (Nat.le_of_ble_eq_true rfl) (fun r9 J_118 hq9 => ?_)
                obtain ⟨z_118, rfl, hz_118, x_118, m_118, g_118, h_118⟩ := hq9
                have q_118 := MG.tr q_78 (MG.mono g_118 (fun _ h => by simp at h) (fun _ h => by simp at h) (fun _ h => h))
                have f_118 := g_118.2.2.2
                have l_118 := g_118.1.2
                exact tz_iret (pc := 121) (z := z_118) dX12_drawn_121 rfl (Nat.le_of_ble_eq_true rfl) (Nat.le_of_ble_eq_true rfl) ⟨Nat.le_refl _, Nat.le_add_right _ _⟩ ⟨_, rfl, (by omega), ⟨m_118, q_118, h_118, md_c (by omega) (t_38.trans t_3) (by rw [s_38, s_3]) (by rw [zv_38, s_3, h9]) (by rw [← zv_3]; omega) (by omega) (md_end (by omega) (Or.inr ⟨by rw [Int.zero_add, e38]; omega, rfl, rfl⟩) (Or.inl ⟨by rw [Int.zero_add, e38]; omega, x_78⟩) (Or.inr ⟨by rw [Int.zero_add, e38]; omega, rfl, rfl⟩) (Prod.ext x_118.1 x_118.2) (g_118.2.2.1.2.2.1 46 (by decide)))⟩⟩
              · refine tz_aload_n (pc := 97) dX12_drawn_97 rfl rfl ?_
                refine tz_iload_n (pc := 98) dX12_drawn_98 rfl rfl ?_
                refine tz_iconst (pc := 99) dX12_drawn_99 ?_
                refine tz_isub (pc := 100) (v := x - 1) dX12_drawn_100 rfl ?_
                have l0_101 := (q_78).1.2
                have t0_101 := (q_78).1.1.told
                refine tz_cV (pc := 101) (ih _ _ (by omega) s m_78 (q_78).1.1 (by rw [(q_78).2.2.1.2.2.1 9 (by decide)]; exact h9) (by omega) (by omega)) vl_X12_430 dX12_drawn_101 o_164 rfl rfl (Nat.le_of_ble_eq_true rfl) ⟨(show (6 + 1 * r9) + 1 ≤ 6 + 1 * (r9 + 1) by omega), (show 8 + (7 + 11) + 40 * ((6 + 1 * r9)) ≤ 40 * (6 + 1 * (r9 + 1)) by omega)⟩ rfl rfl (Nat.le_of_ble_eq_true rfl) (Nat.le_of_ble_eq_true rfl) (fun r9 J_101 hq9 => ?_)
                obtain ⟨z_101, rfl, hz_101, m_101, g_101, h_101, x_101⟩ := hq9
                have q_101 := MG.tr q_78 g_101
                have f_101 := g_101.2.2.2
                have l_101 := g_101.1.2
                refine tz_goto (pc := 104) (tgt := 108) dX12_drawn_104 (by decide) ?_
                refine tz_istore (pc := 108) (L2 := [_, _, _, _, _, _, _]) dX12_drawn_108 (by decide) rfl ?_
                refine tz_aload_n (pc := 110) dX12_drawn_110 rfl rfl ?_
                refine tz_iload_n (pc := 111) dX12_drawn_111 rfl rfl ?_
                refine tz_iload (pc := 112) dX12_drawn_112 rfl ?_
                refine tz_iload (pc := 114) dX12_drawn_114 rfl ?_
                refine tz_iload (pc := 116) dX12_drawn_116 rfl ?_
                have l0_118 := (q_101).1.2
                have t0_118 := (q_101).1.1.told
                refine tz_cV (pc := 118) (o_termOf hl n _ _ _ _ _ (by omega) (by omega) (by omega) (by omega) s m_101 (q_101).1.1 (((q_101).2.2.1.2.2.1 9 (by decide)).trans h9) (by omega) (fun q9 => by simp only [arh_pos (show 0 ≤ z_38 by omega), Int.zero_add, (q_101).2.2.1.2.2.2 170 rfl]; omega)) vl_X12_107 dX12_drawn_118 o_164 rfl rfl (Nat.le_of_ble_eq_true rfl) ⟨(show 2 + 1 ≤ 6 + 1 * (r9 + 1) by omega), (show 8 + (8 + 11) + 40 * (2) ≤ 40 * (6 + 1 * (r9 + 1)) by omega)⟩ rfl rfl (Nat.le_of_ble_eq_true rfl) (Nat.le_of_ble_eq_true rfl) (fun r9 J_118 hq9 => ?_)
                obtain ⟨z_118, rfl, hz_118, x_118, m_118, g_118, h_118⟩ := hq9
                have q_118 := MG.tr q_101 (MG.mono g_118 (fun _ h => by simp at h) (fun _ h => by simp at h) (fun _ h => h))
                have f_118 := g_118.2.2.2
                have l_118 := g_118.1.2
                exact tz_iret (pc := 121) (z := z_118) dX12_drawn_121 rfl (Nat.le_of_ble_eq_true rfl) (Nat.le_of_ble_eq_true rfl) ⟨Nat.le_refl _, Nat.le_add_right _ _⟩ ⟨_, rfl, (by omega), ⟨m_118, q_118, h_118, md_c (by omega) (t_38.trans t_3) (by rw [s_38, s_3]) (by rw [zv_38, s_3, h9]) (by rw [← zv_3]; omega) (by omega) (md_end (by omega) (Or.inr ⟨by rw [Int.zero_add, e38]; omega, rfl, rfl⟩) (Or.inl ⟨by rw [Int.zero_add, e38]; omega, x_78⟩) (Or.inl ⟨by rw [Int.zero_add, e38]; omega, x_101⟩) (Prod.ext x_118.1 x_118.2) (g_118.2.2.1.2.2.1 46 (by decide)))⟩⟩
          · refine tz_aload_n (pc := 51) dX12_drawn_51 rfl rfl ?_
            refine tz_iload_n (pc := 52) dX12_drawn_52 rfl rfl ?_
            refine tz_iconst (pc := 53) dX12_drawn_53 ?_
            refine tz_isub (pc := 54) (v := x - 1) dX12_drawn_54 rfl ?_
            have l0_55 := (q_38).1.2
            have t0_55 := (q_38).1.1.told
            refine tz_cV (pc := 55) (ih _ _ (by omega) s m (q_38).1.1 (by rw [(q_38).2.2.1.2.2.1 9 (by decide)]; exact h9) (by omega) (by omega)) vl_X12_430 dX12_drawn_55 o_164 rfl rfl (Nat.le_of_ble_eq_true rfl) ⟨(show (6 + 1 * r9) + 1 ≤ 6 + 1 * (r9 + 1) by omega), (show 8 + (7 + 11) + 40 * ((6 + 1 * r9)) ≤ 40 * (6 + 1 * (r9 + 1)) by omega)⟩ rfl rfl (Nat.le_of_ble_eq_true rfl) (Nat.le_of_ble_eq_true rfl) (fun r9 J_55 hq9 => ?_)
            obtain ⟨z_55, rfl, hz_55, m_55, g_55, h_55, x_55⟩ := hq9
            have q_55 := MG.tr q_38 g_55
            have f_55 := g_55.2.2.2
            have l_55 := g_55.1.2
            refine tz_goto (pc := 58) (tgt := 62) dX12_drawn_58 (by decide) ?_
            refine tz_istore (pc := 62) (L2 := [_, _, _, _, _, _, _]) dX12_drawn_62 (by decide) rfl ?_
            refine tz_aload_n (pc := 64) dX12_drawn_64 rfl rfl ?_
            refine tz_fR (pc := 65) dX12_drawn_65 fl_X12_25 r_164_5 ?_
            refine tz_iload_n (pc := 68) dX12_drawn_68 rfl rfl ?_
            refine tz_aL (pc := 69) (z := z_38) (v := (J 170 z_38)) dX12_drawn_69 a_170 rfl (by omega) (Eq.trans (congrFun (g_55.2.2.1.2.2.2 170 rfl) z_38) (Eq.trans (congrFun (e_38 170 rfl) z_38) (Eq.trans (congrFun (e_3 170 rfl) z_38) rfl))) (fun r_69 => ?_)
            refine tz_iconst (pc := 70) dX12_drawn_70 ?_
            refine tz_icmp_le (pc := 71) (tgt := 84) dX12_drawn_71 (by decide) (by omega) (by decide) (fun h_71 => ?_) (fun h_71 => ?_)
            · refine tz_iconst (pc := 84) dX12_drawn_84 ?_
              refine tz_istore (pc := 85) (L2 := [_, _, _, _, _, _, _]) dX12_drawn_85 (by decide) rfl ?_
              refine tz_aload_n (pc := 87) dX12_drawn_87 rfl rfl ?_
              refine tz_fR (pc := 88) dX12_drawn_88 fl_X12_25 r_164_5 ?_
              refine tz_iload_n (pc := 91) dX12_drawn_91 rfl rfl ?_
              refine tz_aL (pc := 92) (z := z_38) (v := (J 170 z_38)) dX12_drawn_92 a_170 rfl (by omega) (Eq.trans (congrFun (g_55.2.2.1.2.2.2 170 rfl) z_38) (Eq.trans (congrFun (e_38 170 rfl) z_38) (Eq.trans (congrFun (e_3 170 rfl) z_38) rfl))) (fun r_92 => ?_)
              refine tz_iconst (pc := 93) dX12_drawn_93 ?_
              refine tz_icmp_le (pc := 94) (tgt := 107) dX12_drawn_94 (by decide) (by omega) (by decide) (fun h_94 => ?_) (fun h_94 => ?_)
              · refine tz_iconst (pc := 107) dX12_drawn_107 ?_
                refine tz_istore (pc := 108) (L2 := [_, _, _, _, _, _, _]) dX12_drawn_108 (by decide) rfl ?_
                refine tz_aload_n (pc := 110) dX12_drawn_110 rfl rfl ?_
                refine tz_iload_n (pc := 111) dX12_drawn_111 rfl rfl ?_
                refine tz_iload (pc := 112) dX12_drawn_112 rfl ?_
                refine tz_iload (pc := 114) dX12_drawn_114 rfl ?_
                refine tz_iload (pc := 116) dX12_drawn_116 rfl ?_
                have l0_118 := (q_55).1.2
                have t0_118 := (q_55).1.1.told
                refine tz_cV (pc := 118) (o_termOf hl n _ _ _ _ _ (by omega) (by omega) (by omega) (by omega) s m_55 (q_55).1.1 (((q_55).2.2.1.2.2.1 9 (by decide)).trans h9) (by omega) (fun q9 => by simp only [arh_pos (show 0 ≤ z_38 by omega), Int.zero_add, (q_55).2.2.1.2.2.2 170 rfl]; omega)) vl_X12_107 dX12_drawn_118 o_164 rfl rfl (Nat.le_of_ble_eq_true rfl) ⟨(show 2 + 1 ≤ 6 + 1 * (r9 + 1) by omega), (show 8 + (8 + 11) + 40 * (2) ≤ 40 * (6 + 1 * (r9 + 1)) by omega)⟩ rfl rfl (Nat.le_of_ble_eq_true rfl) (Nat.le_of_ble_eq_true rfl) (fun r9 J_118 hq9 => ?_)
                obtain ⟨z_118, rfl, hz_118, x_118, m_118, g_118, h_118⟩ := hq9
                have q_118 := MG.tr q_55 (MG.mono g_118 (fun _ h => by simp at h) (fun _ h => by simp at h) (fun _ h => h))
                have f_118 := g_118.2.2.2
                have l_118 := g_118.1.2
                exact tz_iret (pc := 121) (z := z_118) dX12_drawn_121 rfl (Nat.le_of_ble_eq_true rfl) (Nat.le_of_ble_eq_true rfl) ⟨Nat.le_refl _, Nat.le_add_right _ _⟩ ⟨_, rfl, (by omega), ⟨m_118, q_118, h_118, md_c (by omega) (t_38.trans t_3) (by rw [s_38, s_3]) (by rw [zv_38, s_3, h9]) (by rw [← zv_3]; omega) (by omega) (md_end (by omega) (Or.inl ⟨by rw [Int.zero_add, e38]; omega, x_55⟩) (Or.inr ⟨by rw [Int.zero_add, e38]; omega, rfl, rfl⟩) (Or.inr ⟨by rw [Int.zero_add, e38]; omega, rfl, rfl⟩) (Prod.ext x_118.1 x_118.2) (g_118.2.2.1.2.2.1 46 (by decide)))⟩⟩
              · refine tz_aload_n (pc := 97) dX12_drawn_97 rfl rfl ?_
                refine tz_iload_n (pc := 98) dX12_drawn_98 rfl rfl ?_
                refine tz_iconst (pc := 99) dX12_drawn_99 ?_
                refine tz_isub (pc := 100) (v := x - 1) dX12_drawn_100 rfl ?_
                have l0_101 := (q_55).1.2
                have t0_101 := (q_55).1.1.told
                refine tz_cV (pc := 101) (ih _ _ (by omega) s m_55 (q_55).1.1 (by rw [(q_55).2.2.1.2.2.1 9 (by decide)]; exact h9) (by omega) (by omega)) vl_X12_430 dX12_drawn_101 o_164 rfl rfl (Nat.le_of_ble_eq_true rfl) ⟨(show (6 + 1 * r9) + 1 ≤ 6 + 1 * (r9 + 1) by omega), (show 8 + (7 + 11) + 40 * ((6 + 1 * r9)) ≤ 40 * (6 + 1 * (r9 + 1)) by omega)⟩ rfl rfl (Nat.le_of_ble_eq_true rfl) (Nat.le_of_ble_eq_true rfl) (fun r9 J_101 hq9 => ?_)
                obtain ⟨z_101, rfl, hz_101, m_101, g_101, h_101, x_101⟩ := hq9
                have q_101 := MG.tr q_55 g_101
                have f_101 := g_101.2.2.2
                have l_101 := g_101.1.2
                refine tz_goto (pc := 104) (tgt := 108) dX12_drawn_104 (by decide) ?_
                refine tz_istore (pc := 108) (L2 := [_, _, _, _, _, _, _]) dX12_drawn_108 (by decide) rfl ?_
                refine tz_aload_n (pc := 110) dX12_drawn_110 rfl rfl ?_
                refine tz_iload_n (pc := 111) dX12_drawn_111 rfl rfl ?_
                refine tz_iload (pc := 112) dX12_drawn_112 rfl ?_
                refine tz_iload (pc := 114) dX12_drawn_114 rfl ?_
                refine tz_iload (pc := 116) dX12_drawn_116 rfl ?_
                have l0_118 := (q_101).1.2
                have t0_118 := (q_101).1.1.told
                refine tz_cV (pc := 118) (o_termOf hl n _ _ _ _ _ (by omega) (by omega) (by omega) (by omega) s m_101 (q_101).1.1 (((q_101).2.2.1.2.2.1 9 (by decide)).trans h9) (by omega) (fun q9 => by simp only [arh_pos (show 0 ≤ z_38 by omega), Int.zero_add, (q_101).2.2.1.2.2.2 170 rfl]; omega)) vl_X12_107 dX12_drawn_118 o_164 rfl rfl (Nat.le_of_ble_eq_true rfl) ⟨(show 2 + 1 ≤ 6 + 1 * (r9 + 1) by omega), (show 8 + (8 + 11) + 40 * (2) ≤ 40 * (6 + 1 * (r9 + 1)) by omega)⟩ rfl rfl (Nat.le_of_ble_eq_true rfl) (Nat.le_of_ble_eq_true rfl) (fun r9 J_118 hq9 => ?_)
                obtain ⟨z_118, rfl, hz_118, x_118, m_118, g_118, h_118⟩ := hq9
                have q_118 := MG.tr q_101 (MG.mono g_118 (fun _ h => by simp at h) (fun _ h => by simp at h) (fun _ h => h))
                have f_118 := g_118.2.2.2
                have l_118 := g_118.1.2
                exact tz_iret (pc := 121) (z := z_118) dX12_drawn_121 rfl (Nat.le_of_ble_eq_true rfl) (Nat.le_of_ble_eq_true rfl) ⟨Nat.le_refl _, Nat.le_add_right _ _⟩ ⟨_, rfl, (by omega), ⟨m_118, q_118, h_118, md_c (by omega) (t_38.trans t_3) (by rw [s_38, s_3]) (by rw [zv_38, s_3, h9]) (by rw [← zv_3]; omega) (by omega) (md_end (by omega) (Or.inl ⟨by rw [Int.zero_add, e38]; omega, x_55⟩) (Or.inr ⟨by rw [Int.zero_add, e38]; omega, rfl, rfl⟩) (Or.inl ⟨by rw [Int.zero_add, e38]; omega, x_101⟩) (Prod.ext x_118.1 x_118.2) (g_118.2.2.1.2.2.1 46 (by decide)))⟩⟩
            · refine tz_aload_n (pc := 74) dX12_drawn_74 rfl rfl ?_
              refine tz_iload_n (pc := 75) dX12_drawn_75 rfl rfl ?_
              refine tz_iconst (pc := 76) dX12_drawn_76 ?_
              refine tz_isub (pc := 77) (v := x - 1) dX12_drawn_77 rfl ?_
              have l0_78 := (q_55).1.2
              have t0_78 := (q_55).1.1.told
              refine tz_cV (pc := 78) (ih _ _ (by omega) s m_55 (q_55).1.1 (by rw [(q_55).2.2.1.2.2.1 9 (by decide)]; exact h9) (by omega) (by omega)) vl_X12_430 dX12_drawn_78 o_164 rfl rfl (Nat.le_of_ble_eq_true rfl) ⟨(show (6 + 1 * r9) + 1 ≤ 6 + 1 * (r9 + 1) by omega), (show 8 + (7 + 11) + 40 * ((6 + 1 * r9)) ≤ 40 * (6 + 1 * (r9 + 1)) by omega)⟩ rfl rfl (Nat.le_of_ble_eq_true rfl) (Nat.le_of_ble_eq_true rfl) (fun r9 J_78 hq9 => ?_)
              obtain ⟨z_78, rfl, hz_78, m_78, g_78, h_78, x_78⟩ := hq9
              have q_78 := MG.tr q_55 g_78
              have f_78 := g_78.2.2.2
              have l_78 := g_78.1.2
              refine tz_goto (pc := 81) (tgt := 85) dX12_drawn_81 (by decide) ?_
              refine tz_istore (pc := 85) (L2 := [_, _, _, _, _, _, _]) dX12_drawn_85 (by decide) rfl ?_
              refine tz_aload_n (pc := 87) dX12_drawn_87 rfl rfl ?_
              refine tz_fR (pc := 88) dX12_drawn_88 fl_X12_25 r_164_5 ?_
              refine tz_iload_n (pc := 91) dX12_drawn_91 rfl rfl ?_
              refine tz_aL (pc := 92) (z := z_38) (v := (J 170 z_38)) dX12_drawn_92 a_170 rfl (by omega) (Eq.trans (congrFun (g_78.2.2.1.2.2.2 170 rfl) z_38) (Eq.trans (congrFun (g_55.2.2.1.2.2.2 170 rfl) z_38) (Eq.trans (congrFun (e_38 170 rfl) z_38) (Eq.trans (congrFun (e_3 170 rfl) z_38) rfl)))) (fun r_92 => ?_)
              refine tz_iconst (pc := 93) dX12_drawn_93 ?_
              refine tz_icmp_le (pc := 94) (tgt := 107) dX12_drawn_94 (by decide) (by omega) (by decide) (fun h_94 => ?_) (fun h_94 => ?_)
              · refine tz_iconst (pc := 107) dX12_drawn_107 ?_
                refine tz_istore (pc := 108) (L2 := [_, _, _, _, _, _, _]) dX12_drawn_108 (by decide) rfl ?_
                refine tz_aload_n (pc := 110) dX12_drawn_110 rfl rfl ?_
                refine tz_iload_n (pc := 111) dX12_drawn_111 rfl rfl ?_
                refine tz_iload (pc := 112) dX12_drawn_112 rfl ?_
                refine tz_iload (pc := 114) dX12_drawn_114 rfl ?_
                refine tz_iload (pc := 116) dX12_drawn_116 rfl ?_
                have l0_118 := (q_78).1.2
                have t0_118 := (q_78).1.1.told
                refine tz_cV (pc := 118) (o_termOf hl n _ _ _ _ _ (by omega) (by omega) (by omega) (by omega) s m_78 (q_78).1.1 (((q_78).2.2.1.2.2.1 9 (by decide)).trans h9) (by omega) (fun q9 => by simp only [arh_pos (show 0 ≤ z_38 by omega), Int.zero_add, (q_78).2.2.1.2.2.2 170 rfl]; omega)) vl_X12_107 dX12_drawn_118 o_164 rfl rfl (Nat.le_of_ble_eq_true rfl) ⟨(show 2 + 1 ≤ 6 + 1 * (r9 + 1) by omega), (show 8 + (8 + 11) + 40 * (2) ≤ 40 * (6 + 1 * (r9 + 1)) by omega)⟩ rfl rfl (Nat.le_of_ble_eq_true rfl) (Nat.le_of_ble_eq_true rfl) (fun r9 J_118 hq9 => ?_)
                obtain ⟨z_118, rfl, hz_118, x_118, m_118, g_118, h_118⟩ := hq9
                have q_118 := MG.tr q_78 (MG.mono g_118 (fun _ h => by simp at h) (fun _ h => by simp at h) (fun _ h => h))
                have f_118 := g_118.2.2.2
                have l_118 := g_118.1.2
                exact tz_iret (pc := 121) (z := z_118) dX12_drawn_121 rfl (Nat.le_of_ble_eq_true rfl) (Nat.le_of_ble_eq_true rfl) ⟨Nat.le_refl _, Nat.le_add_right _ _⟩ ⟨_, rfl, (by omega), ⟨m_118, q_118, h_118, md_c (by omega) (t_38.trans t_3) (by rw [s_38, s_3]) (by rw [zv_38, s_3, h9]) (by rw [← zv_3]; omega) (by omega) (md_end (by omega) (Or.inl ⟨by rw [Int.zero_add, e38]; omega, x_55⟩) (Or.inl ⟨by rw [Int.zero_add, e38]; omega, x_78⟩) (Or.inr ⟨by rw [Int.zero_add, e38]; omega, rfl, rfl⟩) (Prod.ext x_118.1 x_118.2) (g_118.2.2.1.2.2.1 46 (by decide)))⟩⟩
              · refine tz_aload_n (pc := 97) dX12_drawn_97 rfl rfl ?_
                refine tz_iload_n (pc := 98) dX12_drawn_98 rfl rfl ?_
                refine tz_iconst (pc := 99) dX12_drawn_99 ?_
                refine tz_isub (pc := 100) (v := x - 1) dX12_drawn_100 rfl ?_
                have l0_101 := (q_78).1.2
                have t0_101 := (q_78).1.1.told
                refine tz_cV (pc := 101) (ih _ _ (by omega) s m_78 (q_78).1.1 (by rw [(q_78).2.2.1.2.2.1 9 (by decide)]; exact h9) (by omega) (by omega)) vl_X12_430 dX12_drawn_101 o_164 rfl rfl (Nat.le_of_ble_eq_true rfl) ⟨(show (6 + 1 * r9) + 1 ≤ 6 + 1 * (r9 + 1) by omega), (show 8 + (7 + 11) + 40 * ((6 + 1 * r9)) ≤ 40 * (6 + 1 * (r9 + 1)) by omega)⟩ rfl rfl (Nat.le_of_ble_eq_true rfl) (Nat.le_of_ble_eq_true rfl) (fun r9 J_101 hq9 => ?_)
                obtain ⟨z_101, rfl, hz_101, m_101, g_101, h_101, x_101⟩ := hq9
                have q_101 := MG.tr q_78 g_101
                have f_101 := g_101.2.2.2
                have l_101 := g_101.1.2
                refine tz_goto (pc := 104) (tgt := 108) dX12_drawn_104 (by decide) ?_
                refine tz_istore (pc := 108) (L2 := [_, _, _, _, _, _, _]) dX12_drawn_108 (by decide) rfl ?_
                refine tz_aload_n (pc := 110) dX12_drawn_110 rfl rfl ?_
                refine tz_iload_n (pc := 111) dX12_drawn_111 rfl rfl ?_
                refine tz_iload (pc := 112) dX12_drawn_112 rfl ?_
                refine tz_iload (pc := 114) dX12_drawn_114 rfl ?_
                refine tz_iload (pc := 116) dX12_drawn_116 rfl ?_
                have l0_118 := (q_101).1.2
                have t0_118 := (q_101).1.1.told
                refine tz_cV (pc := 118) (o_termOf hl n _ _ _ _ _ (by omega) (by omega) (by omega) (by omega) s m_101 (q_101).1.1 (((q_101).2.2.1.2.2.1 9 (by decide)).trans h9) (by omega) (fun q9 => by simp only [arh_pos (show 0 ≤ z_38 by omega), Int.zero_add, (q_101).2.2.1.2.2.2 170 rfl]; omega)) vl_X12_107 dX12_drawn_118 o_164 rfl rfl (Nat.le_of_ble_eq_true rfl) ⟨(show 2 + 1 ≤ 6 + 1 * (r9 + 1) by omega), (show 8 + (8 + 11) + 40 * (2) ≤ 40 * (6 + 1 * (r9 + 1)) by omega)⟩ rfl rfl (Nat.le_of_ble_eq_true rfl) (Nat.le_of_ble_eq_true rfl) (fun r9 J_118 hq9 => ?_)
                obtain ⟨z_118, rfl, hz_118, x_118, m_118, g_118, h_118⟩ := hq9
                have q_118 := MG.tr q_101 (MG.mono g_118 (fun _ h => by simp at h) (fun _ h => by simp at h) (fun _ h => h))
                have f_118 := g_118.2.2.2
                have l_118 := g_118.1.2
                exact tz_iret (pc := 121) (z := z_118) dX12_drawn_121 rfl (Nat.le_of_ble_eq_true rfl) (Nat.le_of_ble_eq_true rfl) ⟨Nat.le_refl _, Nat.le_add_right _ _⟩ ⟨_, rfl, (by omega), ⟨m_118, q_118, h_118, md_c (by omega) (t_38.trans t_3) (by rw [s_38, s_3]) (by rw [zv_38, s_3, h9]) (by rw [← zv_3]; omega) (by omega) (md_end (by omega) (Or.inl ⟨by rw [Int.zero_add, e38]; omega, x_55⟩) (Or.inl ⟨by rw [Int.zero_add, e38]; omega, x_78⟩) (Or.inl ⟨by rw [Int.zero_add, e38]; omega, x_101⟩) (Prod.ext x_118.1 x_118.2) (g_118.2.2.1.2.2.1 46 (by decide)))⟩⟩
        · refine tz_aload_n (pc := 23) dX12_drawn_23 rfl rfl ?_
          refine tz_aload_n (pc := 24) dX12_drawn_24 rfl rfl ?_
          refine tz_iconst (pc := 25) dX12_drawn_25 ?_
          refine tz_cV (pc := 26) (o_drawOf hl n _ _ (by omega) (by omega)) vl_X12_427 dX12_drawn_26 o_164 rfl rfl (Nat.le_of_ble_eq_true rfl) ⟨(show 0 + 1 ≤ 6 + 1 * (r9 + 1) by omega), (show 8 + (2 + 11) + 40 * (0) ≤ 40 * (6 + 1 * (r9 + 1)) by omega)⟩ rfl rfl (Nat.le_of_ble_eq_true rfl) (Nat.le_of_ble_eq_true rfl) (fun r9 J_26 hq9 => ?_)
          obtain ⟨z_26, rfl, hz_26, hj_26, hz_26, zv_26⟩ := hq9
          have e_26 : zOf (zbut [164]) J_26 J_3 := by rw [← hj_26]; exact zOf.up rfl zOf.rf
          have k_26 : ∀ k, ¬ k = 46 → J_26 164 k = J_3 164 k := fun k hk => by rw [← hj_26]; exact zup_ne hk
          have q_26 : MG [] [46] (fun _ => false) J_26 J 0 0 0 s m m := (q_3).off (fun k hk => k_26 k (by simp at hk; omega)) (fun k _ => congrFun (e_26 165 rfl) k) (e_26.mono (zbut_sub (fun c hc => by simp at hc ⊢; omega))) ⟨rfl, rfl, rfl, rfl⟩ rfl ⟨rfl, rfl, rfl, rfl⟩
          have t_26 : tb0 J_26 = tb0 J_3 := by rw [← hj_26]; exact tb0_it
          have s_26 : J_26 164 46 = dwS (J_3 164 46) := by rw [← hj_26]; exact zup_at
          have l0_29 := (q_26).1.2
          have t0_29 := (q_26).1.1.told
          refine tz_cV (pc := 29) (o_varTerm hl n _ _ (by omega) s m (q_26).1.1 (((q_26).2.2.1.2.2.1 9 (by decide)).trans h9) (by omega)) vl_X12_180 dX12_drawn_29 o_164 rfl rfl (Nat.le_of_ble_eq_true rfl) ⟨(show 3 + 1 ≤ 6 + 1 * (r9 + 1) by omega), (show 8 + (2 + 11) + 40 * (3) ≤ 40 * (6 + 1 * (r9 + 1)) by omega)⟩ rfl rfl (Nat.le_of_ble_eq_true rfl) (Nat.le_of_ble_eq_true rfl) (fun r9 J_29 hq9 => ?_)
          obtain ⟨z_29, rfl, hz_29, x_29, m_29, g_29, h_29⟩ := hq9
          have q_29 := MG.tr q_26 (MG.mono g_29 (fun _ h => by simp at h) (fun _ h => by simp at h) (fun _ h => h))
          have f_29 := g_29.2.2.2
          have l_29 := g_29.1.2
          exact tz_iret (pc := 32) (z := z_29) dX12_drawn_32 rfl (Nat.le_of_ble_eq_true rfl) (Nat.le_of_ble_eq_true rfl) ⟨Nat.le_refl _, Nat.le_add_right _ _⟩ ⟨_, rfl, (by omega), ⟨m_29, q_29, h_29, md_v (by omega) (t_26.trans t_3) (by rw [s_26, s_3]) (by rw [zv_26, s_3]) (by rw [← zv_3]; omega) (Prod.ext x_29.1 x_29.2) (g_29.2.2.1.2.2.1 46 (by decide))⟩⟩

theorem o_drawn {l : Launch} {G : tb_G} (hl : l.stackTraces = false) (n : Nat) (J : zJ) (x : Int) (hr_x : -2147483648 ≤ x ∧ x < 2147483648) (s m : Int) (hM : MS J 0 0 0 s m) (h9 : J 164 9 = s) (hx : 1 ≤ x ∧ x ≤ 4) : tz_Ok l G M_X12_drawn 11 0 0 [.ref 164, zi x] n J (zqi (fun z J' => ∃ m', MG [] [46] (fun _ => false) J' J 0 0 0 s m m' ∧ (J' 164 21 = 0 → 0 ≤ z ∧ z < m') ∧ ((tb0 J', z), J' 164 46) = drO x.toNat (tb0 J) (J 164 46))) zN := o_drawnR hl n 5 J x hr_x s m hM h9 hx.1 (by omega)
end
section
/-! ===== draw of the reference, exact ===== -/
theorem MOP.mgi {Jo Jb : zJ} {s m m' v : Int} (g : MG [] [46] (fun _ => false) Jo (zup Jb 164 46 v) 0 0 0 s m m') : MOP Jo Jb m := by
  obtain ⟨g1, g2, ⟨f1, f2, f3, f4⟩, g4⟩ := g
  refine ⟨⟨fun k a => f2 k (by omega) rfl, fun k a b => f1.1 k (by omega), fun k a b => f1.2 k (by omega), f3 12 (by decide), f3 13 (by decide)⟩, fun k a => f2 k (by omega) rfl, ⟨f3 9 (by decide), f3 10 (by decide), f3 11 (by decide)⟩, fun t a b => ?_, fun k a b => ?_, fun k _ _ => ⟨by rw [f4 169 rfl]; rfl, by rw [f4 170 rfl]; rfl, by rw [f4 171 rfl]; rfl⟩⟩
  · have := (g2 t a b).1
    rw [Int.zero_add] at this
    exact this
  · have := (g2 (k / 3) (by omega) (by omega)).2 (k % 3) (by omega) (by omega)
    rw [show 3 * (0 + k / 3) + k % 3 = k from by omega] at this
    exact this
set_option maxHeartbeats 4000000 in
set_option maxRecDepth 100000 in
theorem v_qdraw {l : Launch} {G : tb_G} (hl : l.stackTraces = false) (n : Nat) (J : zJ) (x : Int) (y : Int) (hr_x : -2147483648 ≤ x ∧ x < 2147483648) (hr_y : -2147483648 ≤ y ∧ y < 2147483648) (m : Int) (pn : Int) (RR : Int → Int → Int) (hI : MI J m) (u9 : MUr J pn RR) : tz_Ok l G M_X12_draw 12 0 0 [.ref 164, zi x, zi y] n J (zqi (fun z J' => MQr J' J ∧ MFI J' J ∧ (((1 ≤ y ∧ y ≤ 4) ∧ MED (tbz J) pn RR (drO y.toNat (tbz J) x).1 J' z) ∨ (¬ (1 ≤ y ∧ y ≤ 4) ∧ z = -1 ∧ MBT J' (tbz J) ∧ MUr J' pn RR)))) zN := by
  refine tz_Ok.of hl (by decide +kernel) rfl (tb_c1 rfl) (Nat.le_of_ble_eq_true rfl) ?_
  show tz_At l G M_X12_draw (tb_rm 12 0 0) none (tb_ZM G 0 0 (zQ n 0 (zqi (fun z J' => MQr J' J ∧ MFI J' J ∧ (((1 ≤ y ∧ y ≤ 4) ∧ MED (tbz J) pn RR (drO y.toNat (tbz J) x).1 J' z) ∨ (¬ (1 ≤ y ∧ y ≤ 4) ∧ z = -1 ∧ MBT J' (tbz J) ∧ MUr J' pn RR))))) (zX n 0 zN)) 0 0 n J 0 [some (.ref 164), some (zi x), some (zi y)] []
  have hT := hI.told
  have hW := hI.row
  have hM := hI.1
  have hL := hI.2.1
  refine tz_aload_n (pc := 0) dX12_draw_0 rfl rfl ?_
  refine tz_iconst (pc := 1) dX12_draw_1 ?_
  refine tz_pI (pc := 2) (kz := 8) dX12_draw_2 fl_X12_68 i_164_8 rfl rfl (by decide) ?_
  refine tz_iload_n (pc := 5) dX12_draw_5 rfl rfl ?_
  refine tz_iconst (pc := 6) dX12_draw_6 ?_
  refine tz_iconst (pc := 7) dX12_draw_7 ?_
  refine tz_cS (pc := 8) (m_within hl n _ _ _ _ (by omega) (by decide) (by decide)) sl_X12_283 dX12_draw_8 rfl rfl (Nat.le_of_ble_eq_true rfl) ⟨(Nat.le_of_ble_eq_true rfl), (Nat.le_of_ble_eq_true rfl)⟩ rfl rfl (Nat.le_of_ble_eq_true rfl) (Nat.le_of_ble_eq_true rfl) (fun r9 J_8 hq9 => ?_)
  obtain ⟨z_8, rfl, hz_8, rfl, hw_8⟩ := hq9
  refine tz_if_ne (pc := 11) (tgt := 21) dX12_draw_11 (by decide) (by omega) (fun h_11 => ?_) (fun h_11 => ?_)
  · refine tz_aload_n (pc := 21) dX12_draw_21 rfl rfl ?_
    refine tz_cV (pc := 22) (m_begins hl n _) vl_X12_400 dX12_draw_22 o_164 rfl rfl (Nat.le_of_ble_eq_true rfl) ⟨(Nat.le_of_ble_eq_true rfl), (Nat.le_of_ble_eq_true rfl)⟩ rfl rfl (Nat.le_of_ble_eq_true rfl) (Nat.le_of_ble_eq_true rfl) (fun r9 J_22 hq9 => ?_)
    obtain ⟨rfl, hj_22⟩ := hq9
    have a_22 : AM J_22 J m m := by rw [← hj_22]; exact AM.begin (hI.z (MZ.up (k := 8) MZ.rf (by decide))) ⟨MZ.lo (MZ.up (k := 8) MZ.rf (by decide)), SC.z (MZ.up (k := 8) MZ.rf (by decide))⟩
    have br_22 : ∀ k, (k < 63 ∨ 126 ≤ k) → J_22 165 k = ((zup J 164 8 0) : zJ) 165 k := fun k hk => by rw [← hj_22]; exact zbg_r hk
    have bl_22 : ∀ k, ¬ k = 34 → ¬ k = 33 → ¬ k = 21 → J_22 164 k = ((zup J 164 8 0) : zJ) 164 k := fun k u v w => by rw [← hj_22]; exact zbg_f u v w
    have bo_22 : zOf (zbut [164, 165]) J_22 (zup J 164 8 0) := by rw [← hj_22]; exact zbg_of
    have b3_22 : J_22 164 21 = 0 ∧ J_22 164 33 = 0 ∧ J_22 164 34 = 0 := by rw [← hj_22]; exact ⟨rfl, rfl, rfl⟩
    have s9_22 : J_22 164 9 = J 164 9 := (bl_22 9 (by decide) (by decide) (by decide)).trans ((MZ.up (k := 8) MZ.rf (by decide)).2 9 (by decide) (by decide))
    obtain ⟨⟨bt_22, bs_22, bm_22, ba_22⟩, bu_22, bn_22, bf_22, bi_22⟩ := mbeg hI (MZ.up (k := 8) MZ.rf (by decide)) hj_22 u9
    refine tz_aload_n (pc := 25) dX12_draw_25 rfl rfl ?_
    refine tz_iload_n (pc := 26) dX12_draw_26 rfl rfl ?_
    refine tz_pI (pc := 27) (kz := 46) dX12_draw_27 fl_X12_423 i_164_46 rfl rfl (by omega) ?_
    refine tz_aload_n (pc := 30) dX12_draw_30 rfl rfl ?_
    refine tz_aload_n (pc := 31) dX12_draw_31 rfl rfl ?_
    refine tz_iload_n (pc := 32) dX12_draw_32 rfl rfl ?_
    refine tz_cV (pc := 33) (o_drawn hl n _ _ (by omega) (J_22 164 9) m (AM.z a_22 (MZ.up (k := 46) (v := x) MZ.rf (by decide)) (fun q => q)).1.1 rfl (by omega)) vl_X12_430 dX12_draw_33 o_164 rfl rfl (Nat.le_of_ble_eq_true rfl) ⟨(Nat.le_of_ble_eq_true rfl), (Nat.le_of_ble_eq_true rfl)⟩ rfl rfl (Nat.le_of_ble_eq_true rfl) (Nat.le_of_ble_eq_true rfl) (fun r9 J_33 hq9 => ?_)
    obtain ⟨z_33, rfl, hz_33, m_33, g_33, h_33, x_33⟩ := hq9
    have a_33 := AM.grow0 (AM.z a_22 (MZ.up (k := 46) (v := x) MZ.rf (by decide)) (fun q => q)) g_33 (fun c hc => by simp at hc) (fun k x y => by simp; omega) rfl
    have lm_33 := a_33.1.2.2
    rw [tb0_it, bt_22, show zup J_22 164 46 x 164 46 = x from zup_at] at x_33
    have e_33 := congrArg Prod.fst x_33
    refine tz_cV (pc := 36) (m_keeps hl n _ _ (by omega) (a_33).2.2.2.1.1.1 (a_33).2.2.2.1.1.2) vl_X12_403 dX12_draw_36 o_164 rfl rfl (Nat.le_of_ble_eq_true rfl) ⟨(Nat.le_of_ble_eq_true rfl), (Nat.le_of_ble_eq_true rfl)⟩ rfl rfl (Nat.le_of_ble_eq_true rfl) (Nat.le_of_ble_eq_true rfl) (fun r9 J_36 hq9 => ?_)
    obtain ⟨z_36, rfl, hz_36, k_36⟩ := hq9
    exact tz_iret (pc := 39) (z := z_36) dX12_draw_39 rfl (Nat.le_of_ble_eq_true rfl) (Nat.le_of_ble_eq_true rfl) ⟨Nat.le_refl _, Nat.le_add_right _ _⟩ ⟨_, rfl, (by omega), (AE (AM.keep a_33 k_36) bi_22 (mact_end (F := (drO y.toNat (tbz J) x).1) bt_22 bs_22 bm_22 ba_22 bu_22 bn_22 bf_22 (MOP.mgi g_33) (congrArg Prod.fst e_33) (by rw [← congrArg Prod.fst e_33]; show J_33 165 0 ≤ 400; have t9 := g_33.1.1.told; have s9 := g_33.1.1.2.2.2.2.1; omega) (fun _ => congrArg Prod.snd e_33) k_36) (by omega))⟩
  · refine tz_aload_n (pc := 14) dX12_draw_14 rfl rfl ?_
    refine tz_iconst (pc := 15) dX12_draw_15 ?_
    refine tz_iconst (pc := 16) dX12_draw_16 ?_
    refine tz_cV (pc := 17) (m_refuses hl n _ _ _ (by decide) (by decide) (by decide)) vl_X12_391 dX12_draw_17 o_164 rfl rfl (Nat.le_of_ble_eq_true rfl) ⟨(Nat.le_of_ble_eq_true rfl), (Nat.le_of_ble_eq_true rfl)⟩ rfl rfl (Nat.le_of_ble_eq_true rfl) (Nat.le_of_ble_eq_true rfl) (fun r9 J_17 hq9 => ?_)
    obtain ⟨z_17, rfl, hz_17, rfl, f_17⟩ := hq9
    have y_17 : MZ J_17 J := MZ.tr (MZ.up (k := 8) MZ.rf (by decide)) (MZ.c f_17 (by decide))
    exact tz_iret (pc := 20) (z := (-1)) dX12_draw_20 rfl (Nat.le_of_ble_eq_true rfl) (Nat.le_of_ble_eq_true rfl) ⟨Nat.le_refl _, Nat.le_add_right _ _⟩ ⟨_, rfl, (by decide), ⟨MQr.z hI y_17, MFI.z y_17, Or.inr ⟨by omega, rfl, MBT.z hI y_17, u9.z y_17⟩⟩⟩

end
section
/-! ===== putting a term at a place, as a function ===== -/
theorem A0.tsk {J G : zJ} {m : Int} (E : A0 J G) (C : CT J m) (hm : J 6 12 = m) : ∀ (k : Nat) (t : Int), (0 ≤ t ∧ t < m) → J 12 t ≤ k → tsz (mar G 0 0) (mag G 0) k t = J 10 t
  | 0, t, ht, h => by have := C.nums ht.1 ht.2; omega
  | k + 1, t, ht, h => by
    have e8 := (C.2.1 t ht.1 ht.2).1.1
    have hd := (C.ar ht.1 ht.2).2.2
    have eh : G 166 (0 + t) = J 7 t := (E.2.2.1 t ht.1 (by have := E.2.1; omega)).1.symm
    have eA : mar G 0 0 t = J 8 t := by
      show oar G (G 166 (0 + t)) = J 8 t
      rw [eh, E.ar hd.2, e8]
    have st : ∀ n : Nat, (n : Int) ≤ J 8 t → tps (tsz (mar G 0 0) (mag G 0) k) (mag G 0) t n = zfr J t n := fun n => by
      induction n with
      | zero => intro _; rfl
      | succ n ih =>
        intro hn
        show tps _ _ t n + _ = zfr J t n + J 10 (J 9 (t * 3 + n))
        have ea : mag G 0 t n = J 9 (t * 3 + n) := (E.2.2.2 t n ht.1 (by have := E.2.1; omega) (by omega) (by omega)).symm
        have hg := C.arg (t := t) (i := n) (by omega) (by omega) (by omega) (by omega)
        rw [ih (by omega), ea, A0.tsk E C hm k (J 9 (t * 3 + n)) (by omega) (by omega)]
    show tps _ _ t (mar G 0 0 t).toNat = _
    rw [eA, st _ (by have := (C.ar ht.1 ht.2).1; omega), zfr_end C ht.1 ht.2]
theorem A0.sz {J G : zJ} {m t : Int} (E : A0 J G) (C : CT J m) (hm : J 6 12 = m) (ht : 0 ≤ t ∧ t < m) : msz G 0 0 t = J 10 t := A0.tsk E C hm 6 t ht (by have := C.nums ht.1 ht.2; omega)
/-- where argument i begins -/
def pfr (G : zJ) (t : Int) (i : Nat) : Int := tps (msz G 0 0) (mag G 0) t i
/-- the argument that a place lies in -/
def puI (G : zJ) (t p : Int) : Int := if p < pfr G t 1 then 0 else if p < pfr G t 2 then 1 else 2
noncomputable def puR (T : zJ → Int → Int → zJ × Int) (G : zJ) (t p : Int) : zJ × Int := tmO (T G (mag G 0 t (puI G t p)) (p - pfr G t (puI G t p).toNat)).1 (G 166 (0 + t)) (if puI G t p = 0 then (T G (mag G 0 t (puI G t p)) (p - pfr G t (puI G t p).toNat)).2 else mag G 0 t 0) (if puI G t p = 1 then (T G (mag G 0 t (puI G t p)) (p - pfr G t (puI G t p).toNat)).2 else mag G 0 t 1) (if puI G t p = 2 then (T G (mag G 0 t (puI G t p)) (p - pfr G t (puI G t p).toNat)).2 else mag G 0 t 2)
noncomputable def puO (x : Int) : Nat → zJ → Int → Int → zJ × Int
  | 0, G, _, _ => (zup G 164 21 1, 0)
  | k + 1, G, t, p => if p ≤ 0 then (G, x) else puR (puO x k) G t p
theorem puO_s {x : Int} {k : Nat} {G : zJ} {t p : Int} : puO x (k + 1) G t p = if p ≤ 0 then (G, x) else puR (puO x k) G t p := rfl
theorem A0.pfr {J G : zJ} {m t : Int} (E : A0 J G) (C : CT J m) (hm : J 6 12 = m) (ht : 0 ≤ t ∧ t < m) : ∀ n : Nat, (n : Int) ≤ J 8 t → tps (msz G 0 0) (mag G 0) t n = zfr J t n
  | 0, _ => rfl
  | n + 1, hn => by
    show tps _ _ t n + _ = zfr J t n + J 10 (J 9 (t * 3 + n))
    have ea : mag G 0 t n = J 9 (t * 3 + n) := (E.2.2.2 t n ht.1 (by have := E.2.1; omega) (by omega) (by omega)).symm
    have hg := C.arg (t := t) (i := n) (by omega) (by omega) (by omega) (by omega)
    rw [A0.pfr E C hm ht n (by omega), ea, E.sz C hm (t := J 9 (t * 3 + n)) (by omega)]
theorem A0.puI {J G : zJ} {m t p i : Int} (E : A0 J G) (C : CT J m) (hm : J 6 12 = m) (ht : 0 ≤ t ∧ t < m) (hi : 0 ≤ i ∧ i < J 8 t) (h1 : zfr J t i.toNat ≤ p) (h2 : p < zfr J t (i + 1).toNat) : puI G t p = i := by
  have h8 := (C.ar ht.1 ht.2).1
  have f := E.pfr C hm ht
  have z1 := zfr_bd C ht.1 ht.2
  have mo : ∀ n : Nat, ((n + 1 : Nat) : Int) ≤ J 8 t → zfr J t n ≤ zfr J t (n + 1) := fun n hn => by
    have hg := C.arg (t := t) (i := n) (by omega) (by omega) (by omega) (by omega)
    have := C.nums (t := J 9 (t * 3 + n)) (by omega) (by omega)
    show _ ≤ zfr J t n + J 10 (J 9 (t * 3 + n))
    omega
  show (if p < tps (msz G 0 0) (mag G 0) t 1 then (0 : Int) else if p < tps (msz G 0 0) (mag G 0) t 2 then 1 else 2) = i
  rcases (show i = 0 ∨ i = 1 ∨ i = 2 by omega) with e | e | e
  · subst e
    rw [f 1 (by omega), if_pos (show p < zfr J t 1 from h2)]
  · subst e
    rw [f 1 (by omega), f 2 (by omega), if_neg (by have : zfr J t 1 ≤ p := h1; omega), if_pos (show p < zfr J t 2 from h2)]
  · subst e
    have m1 : zfr J t 1 ≤ zfr J t 2 := mo 1 (by omega)
    have h1 : zfr J t 2 ≤ p := h1
    rw [f 1 (by omega), f 2 (by omega), if_neg (by omega), if_neg (by omega)]
theorem pu_end {T : zJ → Int → Int → zJ × Int} {G J J1 J' : zJ} {t p i m m1 z1 a b c z : Int} (hG : G 164 21 = 0) (E : A0 J G) (C : CT J m) (hm : J 6 12 = m) (ht : 0 ≤ t ∧ t < m) (hi : 0 ≤ i ∧ i < J 8 t) (h1 : zfr J t i.toNat ≤ p) (h2 : p < zfr J t (i + 1).toNat) (g1 : GR J1 J m m1) (hz : z1 = -3 ∨ (0 ≤ z1 ∧ z1 < m1)) (x1 : ∀ S, S 164 21 = 0 → A0 J S → EXO (T S (J 9 (t * 3 + i)) (p - zfr J t i.toNat)) z1 J1) (q : madeP J1 m1 (J1 7 t) a b c z J') (ha : (i = 0 ∧ a = z1) ∨ (¬ i = 0 ∧ a = J1 9 (t * 3 + 0))) (hb : (i = 1 ∧ b = z1) ∨ (¬ i = 1 ∧ b = J1 9 (t * 3 + 1))) (hc : (i = 2 ∧ c = z1) ∨ (¬ i = 2 ∧ c = J1 9 (t * 3 + 2))) : EXO (puR T G t p) z J' := by
  have e8 := (C.2.1 t ht.1 ht.2).1.1
  have hd := (C.ar ht.1 ht.2).2.2
  have h8 := (C.ar ht.1 ht.2).1
  have l1 := g1.1
  have eh : G 166 (0 + t) = J 7 t := (E.2.2.1 t ht.1 (by have := E.2.1; omega)).1.symm
  have eI : puI G t p = i := E.puI C hm ht hi h1 h2
  have ef : pfr G t i.toNat = zfr J t i.toNat := E.pfr C hm ht i.toNat (by omega)
  have em : ∀ j, 0 ≤ j → j < J 8 t → mag G 0 t j = J 9 (t * 3 + j) := fun j x y => (E.2.2.2 t j ht.1 (by have := E.2.1; omega) x y).symm
  have e9 : ∀ j, 0 ≤ j → j < J 8 t → J1 9 (t * 3 + j) = J 9 (t * 3 + j) := fun j x y => g1.2.2.2.1.2 (t * 3 + j) (by omega) (by omega)
  have e7 : J1 7 t = J 7 t := (g1.2.2.2.1.1 t ht.1 ht.2).1
  have e3 : J1 3 = J 3 := g1.2.2.2.2 3 rfl
  have e1 : J1 1 = J 1 := g1.2.2.2.2 1 rfl
  have ea : arh (J1 3) (J 7 t) = J 8 t := by rw [e3, e8]
  rw [e7] at q
  unfold puR
  rw [eI, ef, em i hi.1 hi.2, eh]
  rcases x1 G hG E with ⟨u1, u2⟩ | ⟨u1, u2, u3, u4⟩
  · refine Or.inl ⟨made_neg q (fun k => ?_), ?_⟩
    · rw [ea] at k
      obtain ⟨k0, k1, k2⟩ := k
      omega
    · rw [tmO_f u2]; exact u2
  · have b0 : ∀ j, 0 ≤ j → j < J 8 t → 0 ≤ J 9 (t * 3 + j) ∧ J 9 (t * 3 + j) < m1 := fun j x y => by
      have := C.arg (t := t) (i := j) ht.1 ht.2 x y
      omega
    have := u3.made u2 g1.2.1 g1.2.2.1 (h := J 7 t) (a := a) (b := b) (c := c) (x := if i = 0 then (T G (J 9 (t * 3 + i)) (p - zfr J t i.toNat)).2 else mag G 0 t 0) (y := if i = 1 then (T G (J 9 (t * 3 + i)) (p - zfr J t i.toNat)).2 else mag G 0 t 1) (w := if i = 2 then (T G (J 9 (t * 3 + i)) (p - zfr J t i.toNat)).2 else mag G 0 t 2) (by rw [e1]; exact hd) (by
      rw [ea]
      refine ⟨fun u => ?_, fun u => ?_, fun u => ?_⟩
      · rcases ha with ⟨v, w⟩ | ⟨v, w⟩
        · rw [if_pos v, w, u4]
        · rw [if_neg v, w, em 0 (by omega) u, e9 0 (by omega) u]
      · rcases hb with ⟨v, w⟩ | ⟨v, w⟩
        · rw [if_pos v, w, u4]
        · rw [if_neg v, w, em 1 (by omega) u, e9 1 (by omega) u]
      · rcases hc with ⟨v, w⟩ | ⟨v, w⟩
        · rw [if_pos v, w, u4]
        · rw [if_neg v, w, em 2 (by omega) u, e9 2 (by omega) u]) (by
      rw [ea]
      refine ⟨fun u => ?_, fun u => ?_, fun u => ?_⟩
      · have := b0 0 (by omega) u
        have := e9 0 (by omega) u
        omega
      · have := b0 1 (by omega) u
        have := e9 1 (by omega) u
        omega
      · have := b0 2 (by omega) u
        have := e9 2 (by omega) u
        omega) q
    exact this.imp (fun u => ⟨u.1.2, u.2⟩) id
end
