/-! ===== appliedBy of the reference, exact ===== -/
theorem mst {T : zJ → Int → zJ × Int} {J1 J0 : zJ} {t A i z : Int} (h : 0 ≤ 3 * (0 + t) + i ∧ 3 * (0 + t) + i < 1200) (a : (i < A ∧ (tb0 J1, z) = T (tb0 J0) (J0 167 (3 * (0 + t) + i))) ∨ (¬ i < A ∧ J1 = J0 ∧ z = 0)) : apA T (tb0 J0) t A i = (tb0 J1, z) := by
  unfold apA
  rcases a with ⟨p, q⟩ | ⟨p, q, r⟩
  · rw [if_pos p, tb0_7, if_pos h, q]
  · rw [if_neg p, q, r]
theorem mp_end {T : zJ → Int → zJ × Int} {J J0 J1 J2 J' : zJ} {s m t z0 z1 z2 z : Int} (hM : MS J 0 0 0 s m) (ht : 0 ≤ t ∧ t < m) (a0 : (0 < mar J 0 0 t ∧ (tb0 J0, z0) = T (tb0 J) (J 167 (3 * (0 + t) + 0))) ∨ (¬ 0 < mar J 0 0 t ∧ J0 = J ∧ z0 = 0)) (a1 : (1 < mar J 0 0 t ∧ (tb0 J1, z1) = T (tb0 J0) (J0 167 (3 * (0 + t) + 1))) ∨ (¬ 1 < mar J 0 0 t ∧ J1 = J0 ∧ z1 = 0)) (a2 : (2 < mar J 0 0 t ∧ (tb0 J2, z2) = T (tb0 J1) (J1 167 (3 * (0 + t) + 2))) ∨ (¬ 2 < mar J 0 0 t ∧ J2 = J1 ∧ z2 = 0)) (p : (tb0 J', z) = tmO (tb0 J2) (J 166 (0 + t)) z0 z1 z2) : (tb0 J', z) = apR T (tb0 J) t := by
  have hT := hM.told
  have h6 : tb0 J 166 (0 + t) = J 166 (0 + t) := by rw [tb0_6, if_pos (by omega)]
  have hd := (hM.ar ht).2.1
  have eA : oar (tb0 J) (tb0 J 166 (0 + t)) = mar J 0 0 t := by
    rw [h6]
    unfold mar oar
    exact arh_cg (fun q => by rw [tb0_0, if_pos (by omega)])
  have e0 : ap0 T (tb0 J) t = (tb0 J0, z0) := by unfold ap0; rw [eA]; exact mst (by omega) a0
  have e1 : ap1 T (tb0 J) t = (tb0 J1, z1) := by unfold ap1; rw [eA, e0]; exact mst (by omega) a1
  have e2 : ap2 T (tb0 J) t = (tb0 J2, z2) := by unfold ap2; rw [eA, e1]; exact mst (by omega) a2
  unfold apR
  rw [e0, e1, e2, h6]
  exact p
set_option maxHeartbeats 4000000 in
set_option maxRecDepth 100000 in
theorem o_remade {l : Launch} {G : tb_G} (hl : l.stackTraces = false) (n : Nat) (J : zJ) (t : Int) (x : Int) (y : Int) (w : Int) (hr_t : -2147483648 ≤ t ∧ t < 2147483648) (hr_x : -2147483648 ≤ x ∧ x < 2147483648) (hr_y : -2147483648 ≤ y ∧ y < 2147483648) (hr_w : -2147483648 ≤ w ∧ w < 2147483648) (s m : Int) (hM : MS J 0 0 0 s m) (hs : J 164 9 = s) (ht : 0 ≤ t ∧ t < m) (hg : J 164 21 = 0 → (0 < mar J 0 0 t → 0 ≤ x ∧ x < m) ∧ (1 < mar J 0 0 t → 0 ≤ y ∧ y < m) ∧ (2 < mar J 0 0 t → 0 ≤ w ∧ w < m)) : tz_Ok l G M_X12_remade 3 0 0 [.ref 164, zi t, zi x, zi y, zi w] n J (zqi (fun z J' => ∃ m', MG [] [] (fun _ => false) J' J 0 0 0 s m m' ∧ (J' 164 21 = 0 → 0 ≤ z ∧ z < m') ∧ (tb0 J', z) = tmO (tb0 J) (J 166 (0 + t)) x y w)) zN := by
  refine tz_Ok.of hl (by decide +kernel) rfl (tb_c1 rfl) (Nat.le_of_ble_eq_true rfl) ?_
  show tz_At l G M_X12_remade (tb_rm 3 0 0) none (tb_ZM G 0 0 (zQ n 0 (zqi (fun z J' => ∃ m', MG [] [] (fun _ => false) J' J 0 0 0 s m m' ∧ (J' 164 21 = 0 → 0 ≤ z ∧ z < m') ∧ (tb0 J', z) = tmO (tb0 J) (J 166 (0 + t)) x y w))) (zX n 0 zN)) 0 0 n J 0 [some (.ref 164), some (zi t), some (zi x), some (zi y), some (zi w)] []
  have hT := hM.told
  have ha := hM.ar ht
  refine tz_aload_n (pc := 0) dX12_remade_0 rfl rfl ?_
  refine tz_aload_n (pc := 1) dX12_remade_1 rfl rfl ?_
  refine tz_iload_n (pc := 2) dX12_remade_2 rfl rfl ?_
  refine tz_cV (pc := 3) (m_head hl n _ _ (by omega) 0 0 0 s m hM (by omega)) vl_X12_74 dX12_remade_3 o_164 rfl rfl (Nat.le_of_ble_eq_true rfl) ⟨(Nat.le_of_ble_eq_true rfl), (Nat.le_of_ble_eq_true rfl)⟩ rfl rfl (Nat.le_of_ble_eq_true rfl) (Nat.le_of_ble_eq_true rfl) (fun r9 J_3 hq9 => ?_)
  obtain ⟨z_3, rfl, hz_3, rfl, rfl⟩ := hq9
  refine tz_iload_n (pc := 6) dX12_remade_6 rfl rfl ?_
  refine tz_iload_n (pc := 7) dX12_remade_7 rfl rfl ?_
  refine tz_iload (pc := 8) dX12_remade_8 rfl ?_
  refine tz_cV (pc := 10) (o_termOf hl n _ _ _ _ _ (by omega) (by omega) (by omega) (by omega) s m hM hs (by omega) hg) vl_X12_107 dX12_remade_10 o_164 rfl rfl (Nat.le_of_ble_eq_true rfl) ⟨(Nat.le_of_ble_eq_true rfl), (Nat.le_of_ble_eq_true rfl)⟩ rfl rfl (Nat.le_of_ble_eq_true rfl) (Nat.le_of_ble_eq_true rfl) (fun r9 J_10 hq9 => ?_)
  obtain ⟨z_10, rfl, hz_10, e1, m1, g1, h1⟩ := hq9
  exact tz_iret (pc := 13) (z := z_10) dX12_remade_13 rfl (Nat.le_of_ble_eq_true rfl) (Nat.le_of_ble_eq_true rfl) ⟨Nat.le_refl _, Nat.le_add_right _ _⟩ ⟨_, rfl, (by omega), ⟨m1, g1, h1, Prod.ext e1.1 e1.2⟩⟩

theorem op_c {β : Int → Int} {J J' : zJ} {s m t z : Int} {k : Nat} (hM : MS J 0 0 0 s m) (ht : 0 ≤ t ∧ t < m) (hv : ¬ J 166 (0 + t) < 0) (hk : J 168 (0 + t) ≤ k) (e : ∀ k9 : Nat, k = k9 + 1 → (tb0 J', z) = apR (apO β k9) (tb0 J) t) (h21 : J 164 21 = 0) : (tb0 J', z) = apO β k (tb0 J) t := by
  have hT := hM.told
  have dp := (hM.ar ht).2.2.1
  obtain ⟨k9, rfl⟩ : ∃ k9, k = k9 + 1 := ⟨k - 1, by omega⟩
  have h6 : tb0 J 166 (0 + t) = J 166 (0 + t) := by rw [tb0_6, if_pos (by omega)]
  rw [apO_s, if_pos (show tb0 J 164 21 = 0 from h21), h6, if_neg hv]
  exact e k9 rfl
theorem op_v {β f : Int → Int} {J : zJ} {s m t z : Int} {k : Nat} (hM : MS J 0 0 0 s m) (ht : 0 ≤ t ∧ t < m) (hβ : ∀ v, 0 ≤ v → v < 8 → β v = f v) (hk : J 168 (0 + t) ≤ k) (e : (¬ J 164 21 = 0 ∧ z = 0) ∨ (J 164 21 = 0 ∧ J 166 (0 + t) < 0 ∧ ((f (-1 - J 166 (0 + t)) = -1 ∧ z = t) ∨ (¬ f (-1 - J 166 (0 + t)) = -1 ∧ z = f (-1 - J 166 (0 + t)))))) : (tb0 J, z) = apO β k (tb0 J) t := by
  have hT := hM.told
  have dp := (hM.ar ht).2.2.1
  have hd := (hM.ar ht).2.1
  obtain ⟨k9, rfl⟩ : ∃ k9, k = k9 + 1 := ⟨k - 1, by omega⟩
  rw [apO_s]
  rcases e with ⟨a, b⟩ | ⟨a, b, c⟩
  · rw [if_neg (show ¬ tb0 J 164 21 = 0 from a), b]
  · have h6 : tb0 J 166 (0 + t) = J 166 (0 + t) := by rw [tb0_6, if_pos (by omega)]
    rw [if_pos (show tb0 J 164 21 = 0 from a), h6, if_pos b, hβ _ (by omega) (by omega)]
    rcases c with ⟨c, d⟩ | ⟨c, d⟩
    · rw [if_pos c, d]
    · rw [if_neg c, d]
set_option maxHeartbeats 4000000 in
set_option maxRecDepth 100000 in
theorem o_appBR {l : Launch} {G : tb_G} (hl : l.stackTraces = false) (n : Nat) : ∀ (r9 : Nat) (J : zJ) (t : Int) (hr_t : -2147483648 ≤ t ∧ t < 2147483648) (s m : Int) (hM : MS J 0 0 0 s m) (hs : J 164 9 = s) (ht : 0 ≤ t ∧ t < m) (hy : gOK (J 175) m), ((J 168 (0 + t)).toNat) < r9 → tz_Ok l G M_X12_appliedBy (4 + 1 * r9) 0 0 [.ref 164, zi t, .ref 175] n J (zqi (fun z J' => ∃ m', MG [] [] (fun _ => false) J' J 0 0 0 s m m' ∧ (J' 164 21 = 0 → 0 ≤ z ∧ z < m') ∧ ∀ (k : Nat) (β : Int → Int), (∀ v, 0 ≤ v → v < 8 → β v = J 175 v) → J 168 (0 + t) ≤ k → (tb0 J', z) = apO β k (tb0 J) t)) zN := by
  intro r9
  induction r9 with
  | zero => intro J t hr_t s m hM hs ht hy hm9; exact absurd hm9 (Nat.not_lt_zero _)
  | succ r9 ih =>
    intro J t hr_t s m hM hs ht hy hm9
    refine tz_Ok.of hl (by decide +kernel) rfl (tb_c1 rfl) (Nat.le_of_ble_eq_true rfl) ?_
    show tz_At l G M_X12_appliedBy (tb_rm (4 + 1 * (r9 + 1)) 0 0) none (tb_ZM G 0 0 (zQ n 0 (zqi (fun z J' => ∃ m', MG [] [] (fun _ => false) J' J 0 0 0 s m m' ∧ (J' 164 21 = 0 → 0 ≤ z ∧ z < m') ∧ ∀ (k : Nat) (β : Int → Int), (∀ v, 0 ≤ v → v < 8 → β v = J 175 v) → J 168 (0 + t) ≤ k → (tb0 J', z) = apO β k (tb0 J) t))) (zX n 0 zN)) 0 0 n J 0 [some (.ref 164), some (zi t), some (.ref 175), none, none, none, none] []
    have hT := hM.told
    have ha := hM.ar ht
    have g0 : MG [] [] (fun _ => false) J J 0 0 0 s m m := MG.rf hM
    refine tz_aload_n (pc := 0) dX12_appliedBy_0 rfl rfl ?_
    refine tz_fI (pc := 1) (kz := 21) (v := (J 164 21)) dX12_appliedBy_1 fl_X12_92 i_164_21 rfl rfl (fun r_1 => ?_)
    refine tz_if_eq (pc := 4) (tgt := 9) dX12_appliedBy_4 (by decide) (by omega) (fun h_4 => ?_) (fun h_4 => ?_)
    · refine tz_aload_n (pc := 9) dX12_appliedBy_9 rfl rfl ?_
      refine tz_iload_n (pc := 10) dX12_appliedBy_10 rfl rfl ?_
      refine tz_cV (pc := 11) (m_isVar hl n _ _ (by omega) 0 0 0 s m hM (by omega)) vl_X12_78 dX12_appliedBy_11 o_164 rfl rfl (Nat.le_of_ble_eq_true rfl) ⟨(show 1 + 1 ≤ 4 + 1 * (r9 + 1) by omega), (show 8 + (2 + 11) + 40 * (1) ≤ 40 * (4 + 1 * (r9 + 1)) by omega)⟩ rfl rfl (Nat.le_of_ble_eq_true rfl) (Nat.le_of_ble_eq_true rfl) (fun r9 J_11 hq9 => ?_)
      obtain ⟨z_11, rfl, hz_11, rfl, rfl⟩ := hq9
      by_cases hw_14 : J 166 (0 + t) < 0
      · rw [show (if J 166 (0 + t) < 0 then 1 else 0 : Int) = 1 from if_pos hw_14]
        refine tz_if_eqF (pc := 14) (tgt := 40) (by decide) dX12_appliedBy_14 (by decide) (by decide) ?_
        refine tz_aload_n (pc := 17) dX12_appliedBy_17 rfl rfl ?_
        refine tz_aload_n (pc := 18) dX12_appliedBy_18 rfl rfl ?_
        refine tz_iload_n (pc := 19) dX12_appliedBy_19 rfl rfl ?_
        refine tz_cV (pc := 20) (m_varOf hl n _ _ (by omega) 0 0 0 s m hM (by omega)) vl_X12_123 dX12_appliedBy_20 o_164 rfl rfl (Nat.le_of_ble_eq_true rfl) ⟨(show 1 + 1 ≤ 4 + 1 * (r9 + 1) by omega), (show 8 + (2 + 11) + 40 * (1) ≤ 40 * (4 + 1 * (r9 + 1)) by omega)⟩ rfl rfl (Nat.le_of_ble_eq_true rfl) (Nat.le_of_ble_eq_true rfl) (fun r9 J_20 hq9 => ?_)
        obtain ⟨z_20, rfl, hz_20, rfl, rfl⟩ := hq9
        have hv9 := hy (-1 - J 166 (0 + t)) (by omega) (by omega)
        refine tz_aL (pc := 23) (z := (-1 - J 166 (0 + t))) (v := (J 175 (-1 - J 166 (0 + t)))) dX12_appliedBy_23 a_175 rfl (by omega) rfl (fun r_23 => ?_)
        refine tz_iconst (pc := 24) dX12_appliedBy_24 ?_
        refine tz_icmp_ne (pc := 25) (tgt := 32) dX12_appliedBy_25 (by decide) (by omega) (by decide) (fun h_25 => ?_) (fun h_25 => ?_)
        · refine tz_aload_n (pc := 32) dX12_appliedBy_32 rfl rfl ?_
          refine tz_aload_n (pc := 33) dX12_appliedBy_33 rfl rfl ?_
          refine tz_iload_n (pc := 34) dX12_appliedBy_34 rfl rfl ?_
          refine tz_cV (pc := 35) (m_varOf hl n _ _ (by omega) 0 0 0 s m hM (by omega)) vl_X12_123 dX12_appliedBy_35 o_164 rfl rfl (Nat.le_of_ble_eq_true rfl) ⟨(show 1 + 1 ≤ 4 + 1 * (r9 + 1) by omega), (show 8 + (2 + 11) + 40 * (1) ≤ 40 * (4 + 1 * (r9 + 1)) by omega)⟩ rfl rfl (Nat.le_of_ble_eq_true rfl) (Nat.le_of_ble_eq_true rfl) (fun r9 J_35 hq9 => ?_)
          obtain ⟨z_35, rfl, hz_35, rfl, rfl⟩ := hq9
          refine tz_aL (pc := 38) (z := (-1 - J 166 (0 + t))) (v := (J 175 (-1 - J 166 (0 + t)))) dX12_appliedBy_38 a_175 rfl (by omega) rfl (fun r_38 => ?_)
          exact tz_iret (pc := 39) (z := (J 175 (-1 - J 166 (0 + t)))) dX12_appliedBy_39 rfl (Nat.le_of_ble_eq_true rfl) (Nat.le_of_ble_eq_true rfl) ⟨Nat.le_refl _, Nat.le_add_right _ _⟩ ⟨_, rfl, (by omega), ⟨m, g0, fun q9 => by omega, fun k β hβ hk => op_v hM ht hβ hk (by omega)⟩⟩
        · refine tz_iload_n (pc := 28) dX12_appliedBy_28 rfl rfl ?_
          refine tz_goto (pc := 29) (tgt := 39) dX12_appliedBy_29 (by decide) ?_
          exact tz_iret (pc := 39) (z := t) dX12_appliedBy_39 rfl (Nat.le_of_ble_eq_true rfl) (Nat.le_of_ble_eq_true rfl) ⟨Nat.le_refl _, Nat.le_add_right _ _⟩ ⟨_, rfl, (by omega), ⟨m, g0, fun q9 => by omega, fun k β hβ hk => op_v hM ht hβ hk (by omega)⟩⟩
      · rw [show (if J 166 (0 + t) < 0 then 1 else 0 : Int) = 0 from if_neg hw_14]
        refine tz_if_eqT (pc := 14) (tgt := 40) (by decide) dX12_appliedBy_14 (by decide) (by decide) ?_
        refine tz_aload_n (pc := 40) dX12_appliedBy_40 rfl rfl ?_
        refine tz_iload_n (pc := 41) dX12_appliedBy_41 rfl rfl ?_
        refine tz_cV (pc := 42) (m_arity hl n _ _ (by omega) 0 0 0 s m hM (by omega)) vl_X12_111 dX12_appliedBy_42 o_164 rfl rfl (Nat.le_of_ble_eq_true rfl) ⟨(show 2 + 1 ≤ 4 + 1 * (r9 + 1) by omega), (show 8 + (2 + 11) + 40 * (2) ≤ 40 * (4 + 1 * (r9 + 1)) by omega)⟩ rfl rfl (Nat.le_of_ble_eq_true rfl) (Nat.le_of_ble_eq_true rfl) (fun r9 J_42 hq9 => ?_)
        obtain ⟨z_42, rfl, hz_42, rfl, rfl⟩ := hq9
        refine tz_istore_n (pc := 45) (L2 := [_, _, _, _, _, _, _]) dX12_appliedBy_45 rfl (by decide) rfl ?_
        refine tz_iload_n (pc := 46) dX12_appliedBy_46 rfl rfl ?_
        refine tz_if_le (pc := 47) (tgt := 64) dX12_appliedBy_47 (by decide) (by omega) (fun h_47 => ?_) (fun h_47 => ?_)
        · refine tz_iconst (pc := 64) dX12_appliedBy_64 ?_
          refine tz_istore (pc := 65) (L2 := [_, _, _, _, _, _, _]) dX12_appliedBy_65 (by decide) rfl ?_
          refine tz_iload_n (pc := 67) dX12_appliedBy_67 rfl rfl ?_
          refine tz_iconst (pc := 68) dX12_appliedBy_68 ?_
          refine tz_icmp_le (pc := 69) (tgt := 86) dX12_appliedBy_69 (by decide) (by omega) (by decide) (fun h_69 => ?_) (fun h_69 => ?_)
          · refine tz_iconst (pc := 86) dX12_appliedBy_86 ?_
            refine tz_istore (pc := 87) (L2 := [_, _, _, _, _, _, _]) dX12_appliedBy_87 (by decide) rfl ?_
            refine tz_iload_n (pc := 89) dX12_appliedBy_89 rfl rfl ?_
            refine tz_iconst (pc := 90) dX12_appliedBy_90 ?_
            refine tz_icmp_le (pc := 91) (tgt := 108) dX12_appliedBy_91 (by decide) (by omega) (by decide) (fun h_91 => ?_) (fun h_91 => ?_)
            · refine tz_iconst (pc := 108) dX12_appliedBy_108 ?_
              refine tz_istore (pc := 109) (L2 := [_, _, _, _, _, _, _]) dX12_appliedBy_109 (by decide) rfl ?_
              refine tz_aload_n (pc := 111) dX12_appliedBy_111 rfl rfl ?_
              refine tz_iload_n (pc := 112) dX12_appliedBy_112 rfl rfl ?_
              refine tz_iload (pc := 113) dX12_appliedBy_113 rfl ?_
              refine tz_iload (pc := 115) dX12_appliedBy_115 rfl ?_
              refine tz_iload (pc := 117) dX12_appliedBy_117 rfl ?_
              have l0_119 := (g0).1.2
              have t0_119 := (g0).1.1.told
              refine tz_cV (pc := 119) (o_remade hl n _ _ _ _ _ (by omega) (by omega) (by omega) (by omega) s m (g0).1.1 (((g0).2.2.1.2.2.1 9 rfl).trans hs) (by omega) (fun q9 => by have e9 := (g0).ar ht ((g0).2.2.1.2.2.2 170 rfl); rw [e9]; omega)) vl_X12_152 dX12_appliedBy_119 o_164 rfl rfl (Nat.le_of_ble_eq_true rfl) ⟨(show 3 + 1 ≤ 4 + 1 * (r9 + 1) by omega), (show 8 + (5 + 11) + 40 * (3) ≤ 40 * (4 + 1 * (r9 + 1)) by omega)⟩ rfl rfl (Nat.le_of_ble_eq_true rfl) (Nat.le_of_ble_eq_true rfl) (fun r9 J_119 hq9 => ?_)
              obtain ⟨z_119, rfl, hz_119, m_119, g_119, h_119, x_119⟩ := hq9
              have q_119 := MG.tr g0 g_119
              have f_119 := g_119.2.2.2
              have l_119 := g_119.1.2
              exact tz_iret (pc := 122) (z := z_119) dX12_appliedBy_122 rfl (Nat.le_of_ble_eq_true rfl) (Nat.le_of_ble_eq_true rfl) ⟨Nat.le_refl _, Nat.le_add_right _ _⟩ ⟨_, rfl, (by omega), ⟨m_119, q_119, h_119, fun k β hβ hk => op_c hM ht (by omega) hk (fun k9 hk9 => mp_end (T := apO β k9) hM ht (Or.inr ⟨by omega, rfl, rfl⟩) (Or.inr ⟨by omega, rfl, rfl⟩) (Or.inr ⟨by omega, rfl, rfl⟩) (by have e7 := x_119; rw [show J 166 (0 + t) = J 166 (0 + t) from rfl] at e7; exact e7)) (by omega)⟩⟩
            · refine tz_aload_n (pc := 94) dX12_appliedBy_94 rfl rfl ?_
              refine tz_aload_n (pc := 95) dX12_appliedBy_95 rfl rfl ?_
              refine tz_iload_n (pc := 96) dX12_appliedBy_96 rfl rfl ?_
              refine tz_iconst (pc := 97) dX12_appliedBy_97 ?_
              refine tz_cV (pc := 98) (m_arg hl n _ _ _ (by omega) (by decide) 0 0 0 s m hM (by omega) (by omega)) vl_X12_88 dX12_appliedBy_98 o_164 rfl rfl (Nat.le_of_ble_eq_true rfl) ⟨(show 0 + 1 ≤ 4 + 1 * (r9 + 1) by omega), (show 8 + (3 + 11) + 40 * (0) ≤ 40 * (4 + 1 * (r9 + 1)) by omega)⟩ rfl rfl (Nat.le_of_ble_eq_true rfl) (Nat.le_of_ble_eq_true rfl) (fun r9 J_98 hq9 => ?_)
              obtain ⟨z_98, rfl, hz_98, rfl, rfl⟩ := hq9
              refine tz_aload_n (pc := 101) dX12_appliedBy_101 rfl rfl ?_
              have l0_102 := (g0).1.2
              have t0_102 := (g0).1.1.told
              have a_102 := hM.arg (t := t) (i := 2) ht (by omega)
              refine tz_cV (pc := 102) (ih _ _ (by omega) s m (g0).1.1 (((g0).2.2.1.2.2.1 9 rfl).trans hs) (by omega) (fun v x9 y9 => by have := hy v x9 y9; rw [(g0).2.2.1.2.2.2 175 rfl]; omega) (by rw [((g0).2.1 _ (by omega) (by omega)).1.2]; omega)) vl_X12_148 dX12_appliedBy_102 o_164 rfl rfl (Nat.le_of_ble_eq_true rfl) ⟨(show (4 + 1 * r9) + 1 ≤ 4 + 1 * (r9 + 1) by omega), (show 8 + (7 + 11) + 40 * ((4 + 1 * r9)) ≤ 40 * (4 + 1 * (r9 + 1)) by omega)⟩ rfl rfl (Nat.le_of_ble_eq_true rfl) (Nat.le_of_ble_eq_true rfl) (fun r9 J_102 hq9 => ?_)
              obtain ⟨z_102, rfl, hz_102, m_102, g_102, h_102, x_102⟩ := hq9
              have q_102 := MG.tr g0 g_102
              have f_102 := g_102.2.2.2
              have l_102 := g_102.1.2
              have w_102 : J 167 (3 * (0 + t) + 2) = J 167 (3 * (0 + t) + 2) := rfl
              have v_102 : J 175 = J 175 := rfl
              have y_102 : J 168 (0 + J 167 (3 * (0 + t) + 2)) = J 168 (0 + J 167 (3 * (0 + t) + 2)) := rfl
              refine tz_goto (pc := 105) (tgt := 109) dX12_appliedBy_105 (by decide) ?_
              refine tz_istore (pc := 109) (L2 := [_, _, _, _, _, _, _]) dX12_appliedBy_109 (by decide) rfl ?_
              refine tz_aload_n (pc := 111) dX12_appliedBy_111 rfl rfl ?_
              refine tz_iload_n (pc := 112) dX12_appliedBy_112 rfl rfl ?_
              refine tz_iload (pc := 113) dX12_appliedBy_113 rfl ?_
              refine tz_iload (pc := 115) dX12_appliedBy_115 rfl ?_
              refine tz_iload (pc := 117) dX12_appliedBy_117 rfl ?_
              have l0_119 := (q_102).1.2
              have t0_119 := (q_102).1.1.told
              refine tz_cV (pc := 119) (o_remade hl n _ _ _ _ _ (by omega) (by omega) (by omega) (by omega) s m_102 (q_102).1.1 (((q_102).2.2.1.2.2.1 9 rfl).trans hs) (by omega) (fun q9 => by have e9 := (q_102).ar ht ((q_102).2.2.1.2.2.2 170 rfl); rw [e9]; omega)) vl_X12_152 dX12_appliedBy_119 o_164 rfl rfl (Nat.le_of_ble_eq_true rfl) ⟨(show 3 + 1 ≤ 4 + 1 * (r9 + 1) by omega), (show 8 + (5 + 11) + 40 * (3) ≤ 40 * (4 + 1 * (r9 + 1)) by omega)⟩ rfl rfl (Nat.le_of_ble_eq_true rfl) (Nat.le_of_ble_eq_true rfl) (fun r9 J_119 hq9 => ?_)
              obtain ⟨z_119, rfl, hz_119, m_119, g_119, h_119, x_119⟩ := hq9
              have q_119 := MG.tr q_102 g_119
              have f_119 := g_119.2.2.2
              have l_119 := g_119.1.2
              exact tz_iret (pc := 122) (z := z_119) dX12_appliedBy_122 rfl (Nat.le_of_ble_eq_true rfl) (Nat.le_of_ble_eq_true rfl) ⟨Nat.le_refl _, Nat.le_add_right _ _⟩ ⟨_, rfl, (by omega), ⟨m_119, q_119, h_119, fun k β hβ hk => op_c hM ht (by omega) hk (fun k9 hk9 => mp_end (T := apO β k9) hM ht (Or.inr ⟨by omega, rfl, rfl⟩) (Or.inr ⟨by omega, rfl, rfl⟩) (Or.inl ⟨by omega, by rw [w_102]; exact x_102 k9 β (fun v a c => by rw [v_102]; exact hβ v a c) (by rw [y_102]; have d9 := (hM.td t ht.1 ht.2).2.2 2 (by decide) (by omega); dsimp only at d9; unfold mag at d9; omega)⟩) (by have e7 := x_119; rw [show J_102 166 (0 + t) = J 166 (0 + t) from ((q_102).2.1 t ht.1 ht.2).1.1] at e7; exact e7)) (by omega)⟩⟩
          · refine tz_aload_n (pc := 72) dX12_appliedBy_72 rfl rfl ?_
            refine tz_aload_n (pc := 73) dX12_appliedBy_73 rfl rfl ?_
            refine tz_iload_n (pc := 74) dX12_appliedBy_74 rfl rfl ?_
            refine tz_iconst (pc := 75) dX12_appliedBy_75 ?_
            refine tz_cV (pc := 76) (m_arg hl n _ _ _ (by omega) (by decide) 0 0 0 s m hM (by omega) (by omega)) vl_X12_88 dX12_appliedBy_76 o_164 rfl rfl (Nat.le_of_ble_eq_true rfl) ⟨(show 0 + 1 ≤ 4 + 1 * (r9 + 1) by omega), (show 8 + (3 + 11) + 40 * (0) ≤ 40 * (4 + 1 * (r9 + 1)) by omega)⟩ rfl rfl (Nat.le_of_ble_eq_true rfl) (Nat.le_of_ble_eq_true rfl) (fun r9 J_76 hq9 => ?_)
            obtain ⟨z_76, rfl, hz_76, rfl, rfl⟩ := hq9
            refine tz_aload_n (pc := 79) dX12_appliedBy_79 rfl rfl ?_
            have l0_80 := (g0).1.2
            have t0_80 := (g0).1.1.told
            have a_80 := hM.arg (t := t) (i := 1) ht (by omega)
            refine tz_cV (pc := 80) (ih _ _ (by omega) s m (g0).1.1 (((g0).2.2.1.2.2.1 9 rfl).trans hs) (by omega) (fun v x9 y9 => by have := hy v x9 y9; rw [(g0).2.2.1.2.2.2 175 rfl]; omega) (by rw [((g0).2.1 _ (by omega) (by omega)).1.2]; omega)) vl_X12_148 dX12_appliedBy_80 o_164 rfl rfl (Nat.le_of_ble_eq_true rfl) ⟨(show (4 + 1 * r9) + 1 ≤ 4 + 1 * (r9 + 1) by omega), (show 8 + (7 + 11) + 40 * ((4 + 1 * r9)) ≤ 40 * (4 + 1 * (r9 + 1)) by omega)⟩ rfl rfl (Nat.le_of_ble_eq_true rfl) (Nat.le_of_ble_eq_true rfl) (fun r9 J_80 hq9 => ?_)
            obtain ⟨z_80, rfl, hz_80, m_80, g_80, h_80, x_80⟩ := hq9
            have q_80 := MG.tr g0 g_80
            have f_80 := g_80.2.2.2
            have l_80 := g_80.1.2
            have w_80 : J 167 (3 * (0 + t) + 1) = J 167 (3 * (0 + t) + 1) := rfl
            have v_80 : J 175 = J 175 := rfl
            have y_80 : J 168 (0 + J 167 (3 * (0 + t) + 1)) = J 168 (0 + J 167 (3 * (0 + t) + 1)) := rfl
            refine tz_goto (pc := 83) (tgt := 87) dX12_appliedBy_83 (by decide) ?_
            refine tz_istore (pc := 87) (L2 := [_, _, _, _, _, _, _]) dX12_appliedBy_87 (by decide) rfl ?_
            refine tz_iload_n (pc := 89) dX12_appliedBy_89 rfl rfl ?_
            refine tz_iconst (pc := 90) dX12_appliedBy_90 ?_
            refine tz_icmp_le (pc := 91) (tgt := 108) dX12_appliedBy_91 (by decide) (by omega) (by decide) (fun h_91 => ?_) (fun h_91 => ?_)
            · refine tz_iconst (pc := 108) dX12_appliedBy_108 ?_
              refine tz_istore (pc := 109) (L2 := [_, _, _, _, _, _, _]) dX12_appliedBy_109 (by decide) rfl ?_
              refine tz_aload_n (pc := 111) dX12_appliedBy_111 rfl rfl ?_
              refine tz_iload_n (pc := 112) dX12_appliedBy_112 rfl rfl ?_
              refine tz_iload (pc := 113) dX12_appliedBy_113 rfl ?_
              refine tz_iload (pc := 115) dX12_appliedBy_115 rfl ?_
              refine tz_iload (pc := 117) dX12_appliedBy_117 rfl ?_
              have l0_119 := (q_80).1.2
              have t0_119 := (q_80).1.1.told
              refine tz_cV (pc := 119) (o_remade hl n _ _ _ _ _ (by omega) (by omega) (by omega) (by omega) s m_80 (q_80).1.1 (((q_80).2.2.1.2.2.1 9 rfl).trans hs) (by omega) (fun q9 => by have e9 := (q_80).ar ht ((q_80).2.2.1.2.2.2 170 rfl); rw [e9]; omega)) vl_X12_152 dX12_appliedBy_119 o_164 rfl rfl (Nat.le_of_ble_eq_true rfl) ⟨(show 3 + 1 ≤ 4 + 1 * (r9 + 1) by omega), (show 8 + (5 + 11) + 40 * (3) ≤ 40 * (4 + 1 * (r9 + 1)) by omega)⟩ rfl rfl (Nat.le_of_ble_eq_true rfl) (Nat.le_of_ble_eq_true rfl) (fun r9 J_119 hq9 => ?_)
              obtain ⟨z_119, rfl, hz_119, m_119, g_119, h_119, x_119⟩ := hq9
              have q_119 := MG.tr q_80 g_119
              have f_119 := g_119.2.2.2
              have l_119 := g_119.1.2
              exact tz_iret (pc := 122) (z := z_119) dX12_appliedBy_122 rfl (Nat.le_of_ble_eq_true rfl) (Nat.le_of_ble_eq_true rfl) ⟨Nat.le_refl _, Nat.le_add_right _ _⟩ ⟨_, rfl, (by omega), ⟨m_119, q_119, h_119, fun k β hβ hk => op_c hM ht (by omega) hk (fun k9 hk9 => mp_end (T := apO β k9) hM ht (Or.inr ⟨by omega, rfl, rfl⟩) (Or.inl ⟨by omega, by rw [w_80]; exact x_80 k9 β (fun v a c => by rw [v_80]; exact hβ v a c) (by rw [y_80]; have d9 := (hM.td t ht.1 ht.2).2.2 1 (by decide) (by omega); dsimp only at d9; unfold mag at d9; omega)⟩) (Or.inr ⟨by omega, rfl, rfl⟩) (by have e7 := x_119; rw [show J_80 166 (0 + t) = J 166 (0 + t) from ((q_80).2.1 t ht.1 ht.2).1.1] at e7; exact e7)) (by omega)⟩⟩
            · refine tz_aload_n (pc := 94) dX12_appliedBy_94 rfl rfl ?_
              refine tz_aload_n (pc := 95) dX12_appliedBy_95 rfl rfl ?_
              refine tz_iload_n (pc := 96) dX12_appliedBy_96 rfl rfl ?_
              refine tz_iconst (pc := 97) dX12_appliedBy_97 ?_
              have l_98 := (q_80).1.2
              have tt_98 := (q_80).1.1.told
              refine tz_cV (pc := 98) (m_arg hl n _ _ _ (by omega) (by decide) 0 0 0 s m_80 (q_80).1.1 (by omega) (by omega)) vl_X12_88 dX12_appliedBy_98 o_164 rfl rfl (Nat.le_of_ble_eq_true rfl) ⟨(show 0 + 1 ≤ 4 + 1 * (r9 + 1) by omega), (show 8 + (3 + 11) + 40 * (0) ≤ 40 * (4 + 1 * (r9 + 1)) by omega)⟩ rfl rfl (Nat.le_of_ble_eq_true rfl) (Nat.le_of_ble_eq_true rfl) (fun r9 J_98 hq9 => ?_)
              obtain ⟨z_98, rfl, hz_98, rfl, hv_98⟩ := hq9
              have he_98 : J_80 167 (3 * (0 + t) + 2) = J 167 (3 * (0 + t) + 2) := ((q_80).2.1 t ht.1 ht.2).2 2 (by omega) (by omega)
              rw [he_98] at hv_98
              obtain rfl : J 167 (3 * (0 + t) + 2) = z_98 := hv_98
              refine tz_aload_n (pc := 101) dX12_appliedBy_101 rfl rfl ?_
              have l0_102 := (q_80).1.2
              have t0_102 := (q_80).1.1.told
              have a_102 := hM.arg (t := t) (i := 2) ht (by omega)
              refine tz_cV (pc := 102) (ih _ _ (by omega) s m_80 (q_80).1.1 (((q_80).2.2.1.2.2.1 9 rfl).trans hs) (by omega) (fun v x9 y9 => by have := hy v x9 y9; rw [(q_80).2.2.1.2.2.2 175 rfl]; omega) (by rw [((q_80).2.1 _ (by omega) (by omega)).1.2]; omega)) vl_X12_148 dX12_appliedBy_102 o_164 rfl rfl (Nat.le_of_ble_eq_true rfl) ⟨(show (4 + 1 * r9) + 1 ≤ 4 + 1 * (r9 + 1) by omega), (show 8 + (7 + 11) + 40 * ((4 + 1 * r9)) ≤ 40 * (4 + 1 * (r9 + 1)) by omega)⟩ rfl rfl (Nat.le_of_ble_eq_true rfl) (Nat.le_of_ble_eq_true rfl) (fun r9 J_102 hq9 => ?_)
              obtain ⟨z_102, rfl, hz_102, m_102, g_102, h_102, x_102⟩ := hq9
              have q_102 := MG.tr q_80 g_102
              have f_102 := g_102.2.2.2
              have l_102 := g_102.1.2
              have w_102 : J_80 167 (3 * (0 + t) + 2) = J 167 (3 * (0 + t) + 2) := ((q_80).2.1 t ht.1 ht.2).2 2 (by decide) (by decide)
              have v_102 : J_80 175 = J 175 := (q_80).2.2.1.2.2.2 175 rfl
              have y_102 : J_80 168 (0 + J 167 (3 * (0 + t) + 2)) = J 168 (0 + J 167 (3 * (0 + t) + 2)) := ((q_80).2.1 _ (by omega) (by omega)).1.2
              refine tz_goto (pc := 105) (tgt := 109) dX12_appliedBy_105 (by decide) ?_
              refine tz_istore (pc := 109) (L2 := [_, _, _, _, _, _, _]) dX12_appliedBy_109 (by decide) rfl ?_
              refine tz_aload_n (pc := 111) dX12_appliedBy_111 rfl rfl ?_
              refine tz_iload_n (pc := 112) dX12_appliedBy_112 rfl rfl ?_
              refine tz_iload (pc := 113) dX12_appliedBy_113 rfl ?_
              refine tz_iload (pc := 115) dX12_appliedBy_115 rfl ?_
              refine tz_iload (pc := 117) dX12_appliedBy_117 rfl ?_
              have l0_119 := (q_102).1.2
              have t0_119 := (q_102).1.1.told
              refine tz_cV (pc := 119) (o_remade hl n _ _ _ _ _ (by omega) (by omega) (by omega) (by omega) s m_102 (q_102).1.1 (((q_102).2.2.1.2.2.1 9 rfl).trans hs) (by omega) (fun q9 => by have e9 := (q_102).ar ht ((q_102).2.2.1.2.2.2 170 rfl); rw [e9]; omega)) vl_X12_152 dX12_appliedBy_119 o_164 rfl rfl (Nat.le_of_ble_eq_true rfl) ⟨(show 3 + 1 ≤ 4 + 1 * (r9 + 1) by omega), (show 8 + (5 + 11) + 40 * (3) ≤ 40 * (4 + 1 * (r9 + 1)) by omega)⟩ rfl rfl (Nat.le_of_ble_eq_true rfl) (Nat.le_of_ble_eq_true rfl) (fun r9 J_119 hq9 => ?_)
              obtain ⟨z_119, rfl, hz_119, m_119, g_119, h_119, x_119⟩ := hq9
              have q_119 := MG.tr q_102 g_119
              have f_119 := g_119.2.2.2
              have l_119 := g_119.1.2
              exact tz_iret (pc := 122) (z := z_119) dX12_appliedBy_122 rfl (Nat.le_of_ble_eq_true rfl) (Nat.le_of_ble_eq_true rfl) ⟨Nat.le_refl _, Nat.le_add_right _ _⟩ ⟨_, rfl, (by omega), ⟨m_119, q_119, h_119, fun k β hβ hk => op_c hM ht (by omega) hk (fun k9 hk9 => mp_end (T := apO β k9) hM ht (Or.inr ⟨by omega, rfl, rfl⟩) (Or.inl ⟨by omega, by rw [w_80]; exact x_80 k9 β (fun v a c => by rw [v_80]; exact hβ v a c) (by rw [y_80]; have d9 := (hM.td t ht.1 ht.2).2.2 1 (by decide) (by omega); dsimp only at d9; unfold mag at d9; omega)⟩) (Or.inl ⟨by omega, by rw [w_102]; exact x_102 k9 β (fun v a c => by rw [v_102]; exact hβ v a c) (by rw [y_102]; have d9 := (hM.td t ht.1 ht.2).2.2 2 (by decide) (by omega); dsimp only at d9; unfold mag at d9; omega)⟩) (by have e7 := x_119; rw [show J_102 166 (0 + t) = J 166 (0 + t) from ((q_102).2.1 t ht.1 ht.2).1.1] at e7; exact e7)) (by omega)⟩⟩
        · refine tz_aload_n (pc := 50) dX12_appliedBy_50 rfl rfl ?_
          refine tz_aload_n (pc := 51) dX12_appliedBy_51 rfl rfl ?_
          refine tz_iload_n (pc := 52) dX12_appliedBy_52 rfl rfl ?_
          refine tz_iconst (pc := 53) dX12_appliedBy_53 ?_
          refine tz_cV (pc := 54) (m_arg hl n _ _ _ (by omega) (by decide) 0 0 0 s m hM (by omega) (by omega)) vl_X12_88 dX12_appliedBy_54 o_164 rfl rfl (Nat.le_of_ble_eq_true rfl) ⟨(show 0 + 1 ≤ 4 + 1 * (r9 + 1) by omega), (show 8 + (3 + 11) + 40 * (0) ≤ 40 * (4 + 1 * (r9 + 1)) by omega)⟩ rfl rfl (Nat.le_of_ble_eq_true rfl) (Nat.le_of_ble_eq_true rfl) (fun r9 J_54 hq9 => ?_)
          obtain ⟨z_54, rfl, hz_54, rfl, rfl⟩ := hq9
          refine tz_aload_n (pc := 57) dX12_appliedBy_57 rfl rfl ?_
          have l0_58 := (g0).1.2
          have t0_58 := (g0).1.1.told
          have a_58 := hM.arg (t := t) (i := 0) ht (by omega)
          refine tz_cV (pc := 58) (ih _ _ (by omega) s m (g0).1.1 (((g0).2.2.1.2.2.1 9 rfl).trans hs) (by omega) (fun v x9 y9 => by have := hy v x9 y9; rw [(g0).2.2.1.2.2.2 175 rfl]; omega) (by rw [((g0).2.1 _ (by omega) (by omega)).1.2]; omega)) vl_X12_148 dX12_appliedBy_58 o_164 rfl rfl (Nat.le_of_ble_eq_true rfl) ⟨(show (4 + 1 * r9) + 1 ≤ 4 + 1 * (r9 + 1) by omega), (show 8 + (7 + 11) + 40 * ((4 + 1 * r9)) ≤ 40 * (4 + 1 * (r9 + 1)) by omega)⟩ rfl rfl (Nat.le_of_ble_eq_true rfl) (Nat.le_of_ble_eq_true rfl) (fun r9 J_58 hq9 => ?_)
          obtain ⟨z_58, rfl, hz_58, m_58, g_58, h_58, x_58⟩ := hq9
          have q_58 := MG.tr g0 g_58
          have f_58 := g_58.2.2.2
          have l_58 := g_58.1.2
          have w_58 : J 167 (3 * (0 + t) + 0) = J 167 (3 * (0 + t) + 0) := rfl
          have v_58 : J 175 = J 175 := rfl
          have y_58 : J 168 (0 + J 167 (3 * (0 + t) + 0)) = J 168 (0 + J 167 (3 * (0 + t) + 0)) := rfl
          refine tz_goto (pc := 61) (tgt := 65) dX12_appliedBy_61 (by decide) ?_
          refine tz_istore (pc := 65) (L2 := [_, _, _, _, _, _, _]) dX12_appliedBy_65 (by decide) rfl ?_
          refine tz_iload_n (pc := 67) dX12_appliedBy_67 rfl rfl ?_
          refine tz_iconst (pc := 68) dX12_appliedBy_68 ?_
          refine tz_icmp_le (pc := 69) (tgt := 86) dX12_appliedBy_69 (by decide) (by omega) (by decide) (fun h_69 => ?_) (fun h_69 => ?_)
          · refine tz_iconst (pc := 86) dX12_appliedBy_86 ?_
            refine tz_istore (pc := 87) (L2 := [_, _, _, _, _, _, _]) dX12_appliedBy_87 (by decide) rfl ?_
            refine tz_iload_n (pc := 89) dX12_appliedBy_89 rfl rfl ?_
            refine tz_iconst (pc := 90) dX12_appliedBy_90 ?_
            refine tz_icmp_le (pc := 91) (tgt := 108) dX12_appliedBy_91 (by decide) (by omega) (by decide) (fun h_91 => ?_) (fun h_91 => ?_)
            · refine tz_iconst (pc := 108) dX12_appliedBy_108 ?_
              refine tz_istore (pc := 109) (L2 := [_, _, _, _, _, _, _]) dX12_appliedBy_109 (by decide) rfl ?_
              refine tz_aload_n (pc := 111) dX12_appliedBy_111 rfl rfl ?_
              refine tz_iload_n (pc := 112) dX12_appliedBy_112 rfl rfl ?_
              refine tz_iload (pc := 113) dX12_appliedBy_113 rfl ?_
              refine tz_iload (pc := 115) dX12_appliedBy_115 rfl ?_
              refine tz_iload (pc := 117) dX12_appliedBy_117 rfl ?_
              have l0_119 := (q_58).1.2
              have t0_119 := (q_58).1.1.told
              refine tz_cV (pc := 119) (o_remade hl n _ _ _ _ _ (by omega) (by omega) (by omega) (by omega) s m_58 (q_58).1.1 (((q_58).2.2.1.2.2.1 9 rfl).trans hs) (by omega) (fun q9 => by have e9 := (q_58).ar ht ((q_58).2.2.1.2.2.2 170 rfl); rw [e9]; omega)) vl_X12_152 dX12_appliedBy_119 o_164 rfl rfl (Nat.le_of_ble_eq_true rfl) ⟨(show 3 + 1 ≤ 4 + 1 * (r9 + 1) by omega), (show 8 + (5 + 11) + 40 * (3) ≤ 40 * (4 + 1 * (r9 + 1)) by omega)⟩ rfl rfl (Nat.le_of_ble_eq_true rfl) (Nat.le_of_ble_eq_true rfl) (fun r9 J_119 hq9 => ?_)
              obtain ⟨z_119, rfl, hz_119, m_119, g_119, h_119, x_119⟩ := hq9
              have q_119 := MG.tr q_58 g_119
              have f_119 := g_119.2.2.2
              have l_119 := g_119.1.2
              exact tz_iret (pc := 122) (z := z_119) dX12_appliedBy_122 rfl (Nat.le_of_ble_eq_true rfl) (Nat.le_of_ble_eq_true rfl) ⟨Nat.le_refl _, Nat.le_add_right _ _⟩ ⟨_, rfl, (by omega), ⟨m_119, q_119, h_119, fun k β hβ hk => op_c hM ht (by omega) hk (fun k9 hk9 => mp_end (T := apO β k9) hM ht (Or.inl ⟨by omega, by rw [w_58]; exact x_58 k9 β (fun v a c => by rw [v_58]; exact hβ v a c) (by rw [y_58]; have d9 := (hM.td t ht.1 ht.2).2.2 0 (by decide) (by omega); dsimp only at d9; unfold mag at d9; omega)⟩) (Or.inr ⟨by omega, rfl, rfl⟩) (Or.inr ⟨by omega, rfl, rfl⟩) (by have e7 := x_119; rw [show J_58 166 (0 + t) = J 166 (0 + t) from ((q_58).2.1 t ht.1 ht.2).1.1] at e7; exact e7)) (by omega)⟩⟩
            · refine tz_aload_n (pc := 94) dX12_appliedBy_94 rfl rfl ?_
              refine tz_aload_n (pc := 95) dX12_appliedBy_95 rfl rfl ?_
              refine tz_iload_n (pc := 96) dX12_appliedBy_96 rfl rfl ?_
              refine tz_iconst (pc := 97) dX12_appliedBy_97 ?_
              have l_98 := (q_58).1.2
              have tt_98 := (q_58).1.1.told
              refine tz_cV (pc := 98) (m_arg hl n _ _ _ (by omega) (by decide) 0 0 0 s m_58 (q_58).1.1 (by omega) (by omega)) vl_X12_88 dX12_appliedBy_98 o_164 rfl rfl (Nat.le_of_ble_eq_true rfl) ⟨(show 0 + 1 ≤ 4 + 1 * (r9 + 1) by omega), (show 8 + (3 + 11) + 40 * (0) ≤ 40 * (4 + 1 * (r9 + 1)) by omega)⟩ rfl rfl (Nat.le_of_ble_eq_true rfl) (Nat.le_of_ble_eq_true rfl) (fun r9 J_98 hq9 => ?_)
              obtain ⟨z_98, rfl, hz_98, rfl, hv_98⟩ := hq9
              have he_98 : J_58 167 (3 * (0 + t) + 2) = J 167 (3 * (0 + t) + 2) := ((q_58).2.1 t ht.1 ht.2).2 2 (by omega) (by omega)
              rw [he_98] at hv_98
              obtain rfl : J 167 (3 * (0 + t) + 2) = z_98 := hv_98
              refine tz_aload_n (pc := 101) dX12_appliedBy_101 rfl rfl ?_
              have l0_102 := (q_58).1.2
              have t0_102 := (q_58).1.1.told
              have a_102 := hM.arg (t := t) (i := 2) ht (by omega)
              refine tz_cV (pc := 102) (ih _ _ (by omega) s m_58 (q_58).1.1 (((q_58).2.2.1.2.2.1 9 rfl).trans hs) (by omega) (fun v x9 y9 => by have := hy v x9 y9; rw [(q_58).2.2.1.2.2.2 175 rfl]; omega) (by rw [((q_58).2.1 _ (by omega) (by omega)).1.2]; omega)) vl_X12_148 dX12_appliedBy_102 o_164 rfl rfl (Nat.le_of_ble_eq_true rfl) ⟨(show (4 + 1 * r9) + 1 ≤ 4 + 1 * (r9 + 1) by omega), (show 8 + (7 + 11) + 40 * ((4 + 1 * r9)) ≤ 40 * (4 + 1 * (r9 + 1)) by omega)⟩ rfl rfl (Nat.le_of_ble_eq_true rfl) (Nat.le_of_ble_eq_true rfl) (fun r9 J_102 hq9 => ?_)
              obtain ⟨z_102, rfl, hz_102, m_102, g_102, h_102, x_102⟩ := hq9
              have q_102 := MG.tr q_58 g_102
              have f_102 := g_102.2.2.2
              have l_102 := g_102.1.2
              have w_102 : J_58 167 (3 * (0 + t) + 2) = J 167 (3 * (0 + t) + 2) := ((q_58).2.1 t ht.1 ht.2).2 2 (by decide) (by decide)
              have v_102 : J_58 175 = J 175 := (q_58).2.2.1.2.2.2 175 rfl
              have y_102 : J_58 168 (0 + J 167 (3 * (0 + t) + 2)) = J 168 (0 + J 167 (3 * (0 + t) + 2)) := ((q_58).2.1 _ (by omega) (by omega)).1.2
              refine tz_goto (pc := 105) (tgt := 109) dX12_appliedBy_105 (by decide) ?_
              refine tz_istore (pc := 109) (L2 := [_, _, _, _, _, _, _]) dX12_appliedBy_109 (by decide) rfl ?_
              refine tz_aload_n (pc := 111) dX12_appliedBy_111 rfl rfl ?_
              refine tz_iload_n (pc := 112) dX12_appliedBy_112 rfl rfl ?_
              refine tz_iload (pc := 113) dX12_appliedBy_113 rfl ?_
              refine tz_iload (pc := 115) dX12_appliedBy_115 rfl ?_
              refine tz_iload (pc := 117) dX12_appliedBy_117 rfl ?_
              have l0_119 := (q_102).1.2
              have t0_119 := (q_102).1.1.told
              refine tz_cV (pc := 119) (o_remade hl n _ _ _ _ _ (by omega) (by omega) (by omega) (by omega) s m_102 (q_102).1.1 (((q_102).2.2.1.2.2.1 9 rfl).trans hs) (by omega) (fun q9 => by have e9 := (q_102).ar ht ((q_102).2.2.1.2.2.2 170 rfl); rw [e9]; omega)) vl_X12_152 dX12_appliedBy_119 o_164 rfl rfl (Nat.le_of_ble_eq_true rfl) ⟨(show 3 + 1 ≤ 4 + 1 * (r9 + 1) by omega), (show 8 + (5 + 11) + 40 * (3) ≤ 40 * (4 + 1 * (r9 + 1)) by omega)⟩ rfl rfl (Nat.le_of_ble_eq_true rfl) (Nat.le_of_ble_eq_true rfl) (fun r9 J_119 hq9 => ?_)
              obtain ⟨z_119, rfl, hz_119, m_119, g_119, h_119, x_119⟩ := hq9
              have q_119 := MG.tr q_102 g_119
              have f_119 := g_119.2.2.2
              have l_119 := g_119.1.2
              exact tz_iret (pc := 122) (z := z_119) dX12_appliedBy_122 rfl (Nat.le_of_ble_eq_true rfl) (Nat.le_of_ble_eq_true rfl) ⟨Nat.le_refl _, Nat.le_add_right _ _⟩ ⟨_, rfl, (by omega), ⟨m_119, q_119, h_119, fun k β hβ hk => op_c hM ht (by omega) hk (fun k9 hk9 => mp_end (T := apO β k9) hM ht (Or.inl ⟨by omega, by rw [w_58]; exact x_58 k9 β (fun v a c => by rw [v_58]; exact hβ v a c) (by rw [y_58]; have d9 := (hM.td t ht.1 ht.2).2.2 0 (by decide) (by omega); dsimp only at d9; unfold mag at d9; omega)⟩) (Or.inr ⟨by omega, rfl, rfl⟩) (Or.inl ⟨by omega, by rw [w_102]; exact x_102 k9 β (fun v a c => by rw [v_102]; exact hβ v a c) (by rw [y_102]; have d9 := (hM.td t ht.1 ht.2).2.2 2 (by decide) (by omega); dsimp only at d9; unfold mag at d9; omega)⟩) (by have e7 := x_119; rw [show J_102 166 (0 + t) = J 166 (0 + t) from ((q_102).2.1 t ht.1 ht.2).1.1] at e7; exact e7)) (by omega)⟩⟩
          · refine tz_aload_n (pc := 72) dX12_appliedBy_72 rfl rfl ?_
            refine tz_aload_n (pc := 73) dX12_appliedBy_73 rfl rfl ?_
            refine tz_iload_n (pc := 74) dX12_appliedBy_74 rfl rfl ?_
            refine tz_iconst (pc := 75) dX12_appliedBy_75 ?_
            have l_76 := (q_58).1.2
            have tt_76 := (q_58).1.1.told
            refine tz_cV (pc := 76) (m_arg hl n _ _ _ (by omega) (by decide) 0 0 0 s m_58 (q_58).1.1 (by omega) (by omega)) vl_X12_88 dX12_appliedBy_76 o_164 rfl rfl (Nat.le_of_ble_eq_true rfl) ⟨(show 0 + 1 ≤ 4 + 1 * (r9 + 1) by omega), (show 8 + (3 + 11) + 40 * (0) ≤ 40 * (4 + 1 * (r9 + 1)) by omega)⟩ rfl rfl (Nat.le_of_ble_eq_true rfl) (Nat.le_of_ble_eq_true rfl) (fun r9 J_76 hq9 => ?_)
            obtain ⟨z_76, rfl, hz_76, rfl, hv_76⟩ := hq9
            have he_76 : J_58 167 (3 * (0 + t) + 1) = J 167 (3 * (0 + t) + 1) := ((q_58).2.1 t ht.1 ht.2).2 1 (by omega) (by omega)
            rw [he_76] at hv_76
            obtain rfl : J 167 (3 * (0 + t) + 1) = z_76 := hv_76
            refine tz_aload_n (pc := 79) dX12_appliedBy_79 rfl rfl ?_
            have l0_80 := (q_58).1.2
            have t0_80 := (q_58).1.1.told
            have a_80 := hM.arg (t := t) (i := 1) ht (by omega)
            refine tz_cV (pc := 80) (ih _ _ (by omega) s m_58 (q_58).1.1 (((q_58).2.2.1.2.2.1 9 rfl).trans hs) (by omega) (fun v x9 y9 => by have := hy v x9 y9; rw [(q_58).2.2.1.2.2.2 175 rfl]; omega) (by rw [((q_58).2.1 _ (by omega) (by omega)).1.2]; omega)) vl_X12_148 dX12_appliedBy_80 o_164 rfl rfl (Nat.le_of_ble_eq_true rfl) ⟨(show (4 + 1 * r9) + 1 ≤ 4 + 1 * (r9 + 1) by omega), (show 8 + (7 + 11) + 40 * ((4 + 1 * r9)) ≤ 40 * (4 + 1 * (r9 + 1)) by omega)⟩ rfl rfl (Nat.le_of_ble_eq_true rfl) (Nat.le_of_ble_eq_true rfl) (fun r9 J_80 hq9 => ?_)
            obtain ⟨z_80, rfl, hz_80, m_80, g_80, h_80, x_80⟩ := hq9
            have q_80 := MG.tr q_58 g_80
            have f_80 := g_80.2.2.2
            have l_80 := g_80.1.2
            have w_80 : J_58 167 (3 * (0 + t) + 1) = J 167 (3 * (0 + t) + 1) := ((q_58).2.1 t ht.1 ht.2).2 1 (by decide) (by decide)
            have v_80 : J_58 175 = J 175 := (q_58).2.2.1.2.2.2 175 rfl
            have y_80 : J_58 168 (0 + J 167 (3 * (0 + t) + 1)) = J 168 (0 + J 167 (3 * (0 + t) + 1)) := ((q_58).2.1 _ (by omega) (by omega)).1.2
            refine tz_goto (pc := 83) (tgt := 87) dX12_appliedBy_83 (by decide) ?_
            refine tz_istore (pc := 87) (L2 := [_, _, _, _, _, _, _]) dX12_appliedBy_87 (by decide) rfl ?_
            refine tz_iload_n (pc := 89) dX12_appliedBy_89 rfl rfl ?_
            refine tz_iconst (pc := 90) dX12_appliedBy_90 ?_
            refine tz_icmp_le (pc := 91) (tgt := 108) dX12_appliedBy_91 (by decide) (by omega) (by decide) (fun h_91 => ?_) (fun h_91 => ?_)
            · refine tz_iconst (pc := 108) dX12_appliedBy_108 ?_
              refine tz_istore (pc := 109) (L2 := [_, _, _, _, _, _, _]) dX12_appliedBy_109 (by decide) rfl ?_
              refine tz_aload_n (pc := 111) dX12_appliedBy_111 rfl rfl ?_
              refine tz_iload_n (pc := 112) dX12_appliedBy_112 rfl rfl ?_
              refine tz_iload (pc := 113) dX12_appliedBy_113 rfl ?_
              refine tz_iload (pc := 115) dX12_appliedBy_115 rfl ?_
              refine tz_iload (pc := 117) dX12_appliedBy_117 rfl ?_
              have l0_119 := (q_80).1.2
              have t0_119 := (q_80).1.1.told
              refine tz_cV (pc := 119) (o_remade hl n _ _ _ _ _ (by omega) (by omega) (by omega) (by omega) s m_80 (q_80).1.1 (((q_80).2.2.1.2.2.1 9 rfl).trans hs) (by omega) (fun q9 => by have e9 := (q_80).ar ht ((q_80).2.2.1.2.2.2 170 rfl); rw [e9]; omega)) vl_X12_152 dX12_appliedBy_119 o_164 rfl rfl (Nat.le_of_ble_eq_true rfl) ⟨(show 3 + 1 ≤ 4 + 1 * (r9 + 1) by omega), (show 8 + (5 + 11) + 40 * (3) ≤ 40 * (4 + 1 * (r9 + 1)) by omega)⟩ rfl rfl (Nat.le_of_ble_eq_true rfl) (Nat.le_of_ble_eq_true rfl) (fun r9 J_119 hq9 => ?_)
              obtain ⟨z_119, rfl, hz_119, m_119, g_119, h_119, x_119⟩ := hq9
              have q_119 := MG.tr q_80 g_119
              have f_119 := g_119.2.2.2
              have l_119 := g_119.1.2
              exact tz_iret (pc := 122) (z := z_119) dX12_appliedBy_122 rfl (Nat.le_of_ble_eq_true rfl) (Nat.le_of_ble_eq_true rfl) ⟨Nat.le_refl _, Nat.le_add_right _ _⟩ ⟨_, rfl, (by omega), ⟨m_119, q_119, h_119, fun k β hβ hk => op_c hM ht (by omega) hk (fun k9 hk9 => mp_end (T := apO β k9) hM ht (Or.inl ⟨by omega, by rw [w_58]; exact x_58 k9 β (fun v a c => by rw [v_58]; exact hβ v a c) (by rw [y_58]; have d9 := (hM.td t ht.1 ht.2).2.2 0 (by decide) (by omega); dsimp only at d9; unfold mag at d9; omega)⟩) (Or.inl ⟨by omega, by rw [w_80]; exact x_80 k9 β (fun v a c => by rw [v_80]; exact hβ v a c) (by rw [y_80]; have d9 := (hM.td t ht.1 ht.2).2.2 1 (by decide) (by omega); dsimp only at d9; unfold mag at d9; omega)⟩) (Or.inr ⟨by omega, rfl, rfl⟩) (by have e7 := x_119; rw [show J_80 166 (0 + t) = J 166 (0 + t) from ((q_80).2.1 t ht.1 ht.2).1.1] at e7; exact e7)) (by omega)⟩⟩
            · refine tz_aload_n (pc := 94) dX12_appliedBy_94 rfl rfl ?_
              refine tz_aload_n (pc := 95) dX12_appliedBy_95 rfl rfl ?_
              refine tz_iload_n (pc := 96) dX12_appliedBy_96 rfl rfl ?_
              refine tz_iconst (pc := 97) dX12_appliedBy_97 ?_
              have l_98 := (q_80).1.2
              have tt_98 := (q_80).1.1.told
              refine tz_cV (pc := 98) (m_arg hl n _ _ _ (by omega) (by decide) 0 0 0 s m_80 (q_80).1.1 (by omega) (by omega)) vl_X12_88 dX12_appliedBy_98 o_164 rfl rfl (Nat.le_of_ble_eq_true rfl) ⟨(show 0 + 1 ≤ 4 + 1 * (r9 + 1) by omega), (show 8 + (3 + 11) + 40 * (0) ≤ 40 * (4 + 1 * (r9 + 1)) by omega)⟩ rfl rfl (Nat.le_of_ble_eq_true rfl) (Nat.le_of_ble_eq_true rfl) (fun r9 J_98 hq9 => ?_)
              obtain ⟨z_98, rfl, hz_98, rfl, hv_98⟩ := hq9
              have he_98 : J_80 167 (3 * (0 + t) + 2) = J 167 (3 * (0 + t) + 2) := ((q_80).2.1 t ht.1 ht.2).2 2 (by omega) (by omega)
              rw [he_98] at hv_98
              obtain rfl : J 167 (3 * (0 + t) + 2) = z_98 := hv_98
              refine tz_aload_n (pc := 101) dX12_appliedBy_101 rfl rfl ?_
              have l0_102 := (q_80).1.2
              have t0_102 := (q_80).1.1.told
              have a_102 := hM.arg (t := t) (i := 2) ht (by omega)
              refine tz_cV (pc := 102) (ih _ _ (by omega) s m_80 (q_80).1.1 (((q_80).2.2.1.2.2.1 9 rfl).trans hs) (by omega) (fun v x9 y9 => by have := hy v x9 y9; rw [(q_80).2.2.1.2.2.2 175 rfl]; omega) (by rw [((q_80).2.1 _ (by omega) (by omega)).1.2]; omega)) vl_X12_148 dX12_appliedBy_102 o_164 rfl rfl (Nat.le_of_ble_eq_true rfl) ⟨(show (4 + 1 * r9) + 1 ≤ 4 + 1 * (r9 + 1) by omega), (show 8 + (7 + 11) + 40 * ((4 + 1 * r9)) ≤ 40 * (4 + 1 * (r9 + 1)) by omega)⟩ rfl rfl (Nat.le_of_ble_eq_true rfl) (Nat.le_of_ble_eq_true rfl) (fun r9 J_102 hq9 => ?_)
              obtain ⟨z_102, rfl, hz_102, m_102, g_102, h_102, x_102⟩ := hq9
              have q_102 := MG.tr q_80 g_102
              have f_102 := g_102.2.2.2
              have l_102 := g_102.1.2
              have w_102 : J_80 167 (3 * (0 + t) + 2) = J 167 (3 * (0 + t) + 2) := ((q_80).2.1 t ht.1 ht.2).2 2 (by decide) (by decide)
              have v_102 : J_80 175 = J 175 := (q_80).2.2.1.2.2.2 175 rfl
              have y_102 : J_80 168 (0 + J 167 (3 * (0 + t) + 2)) = J 168 (0 + J 167 (3 * (0 + t) + 2)) := ((q_80).2.1 _ (by omega) (by omega)).1.2
              refine tz_goto (pc := 105) (tgt := 109) dX12_appliedBy_105 (by decide) ?_
              refine tz_istore (pc := 109) (L2 := [_, _, _, _, _, _, _]) dX12_appliedBy_109 (by decide) rfl ?_
              refine tz_aload_n (pc := 111) dX12_appliedBy_111 rfl rfl ?_
              refine tz_iload_n (pc := 112) dX12_appliedBy_112 rfl rfl ?_
              refine tz_iload (pc := 113) dX12_appliedBy_113 rfl ?_
              refine tz_iload (pc := 115) dX12_appliedBy_115 rfl ?_
              refine tz_iload (pc := 117) dX12_appliedBy_117 rfl ?_
              have l0_119 := (q_102).1.2
              have t0_119 := (q_102).1.1.told
              refine tz_cV (pc := 119) (o_remade hl n _ _ _ _ _ (by omega) (by omega) (by omega) (by omega) s m_102 (q_102).1.1 (((q_102).2.2.1.2.2.1 9 rfl).trans hs) (by omega) (fun q9 => by have e9 := (q_102).ar ht ((q_102).2.2.1.2.2.2 170 rfl); rw [e9]; omega)) vl_X12_152 dX12_appliedBy_119 o_164 rfl rfl (Nat.le_of_ble_eq_true rfl) ⟨(show 3 + 1 ≤ 4 + 1 * (r9 + 1) by omega), (show 8 + (5 + 11) + 40 * (3) ≤ 40 * (4 + 1 * (r9 + 1)) by omega)⟩ rfl rfl (Nat.le_of_ble_eq_true rfl) (Nat.le_of_ble_eq_true rfl) (fun r9 J_119 hq9 => ?_)
              obtain ⟨z_119, rfl, hz_119, m_119, g_119, h_119, x_119⟩ := hq9
              have q_119 := MG.tr q_102 g_119
              have f_119 := g_119.2.2.2
              have l_119 := g_119.1.2
              exact tz_iret (pc := 122) (z := z_119) dX12_appliedBy_122 rfl (Nat.le_of_ble_eq_true rfl) (Nat.le_of_ble_eq_true rfl) ⟨Nat.le_refl _, Nat.le_add_right _ _⟩ ⟨_, rfl, (by omega), ⟨m_119, q_119, h_119, fun k β hβ hk => op_c hM ht (by omega) hk (fun k9 hk9 => mp_end (T := apO β k9) hM ht (Or.inl ⟨by omega, by rw [w_58]; exact x_58 k9 β (fun v a c => by rw [v_58]; exact hβ v a c) (by rw [y_58]; have d9 := (hM.td t ht.1 ht.2).2.2 0 (by decide) (by omega); dsimp only at d9; unfold mag at d9; omega)⟩) (Or.inl ⟨by omega, by rw [w_80]; exact x_80 k9 β (fun v a c => by rw [v_80]; exact hβ v a c) (by rw [y_80]; have d9 := (hM.td t ht.1 ht.2).2.2 1 (by decide) (by omega); dsimp only at d9; unfold mag at d9; omega)⟩) (Or.inl ⟨by omega, by rw [w_102]; exact x_102 k9 β (fun v a c => by rw [v_102]; exact hβ v a c) (by rw [y_102]; have d9 := (hM.td t ht.1 ht.2).2.2 2 (by decide) (by omega); dsimp only at d9; unfold mag at d9; omega)⟩) (by have e7 := x_119; rw [show J_102 166 (0 + t) = J 166 (0 + t) from ((q_102).2.1 t ht.1 ht.2).1.1] at e7; exact e7)) (by omega)⟩⟩
    · refine tz_iconst (pc := 7) dX12_appliedBy_7 ?_
      exact tz_iret (pc := 8) (z := 0) dX12_appliedBy_8 rfl (Nat.le_of_ble_eq_true rfl) (Nat.le_of_ble_eq_true rfl) ⟨Nat.le_refl _, Nat.le_add_right _ _⟩ ⟨_, rfl, (by decide), ⟨m, g0, fun q9 => by omega, fun k β hβ hk => op_v hM ht hβ hk (by omega)⟩⟩

set_option maxHeartbeats 4000000 in
set_option maxRecDepth 100000 in
theorem o_appMR {l : Launch} {G : tb_G} (hl : l.stackTraces = false) (n : Nat) : ∀ (r9 : Nat) (J : zJ) (t : Int) (hr_t : -2147483648 ≤ t ∧ t < 2147483648) (s m : Int) (hM : MS J 0 0 0 s m) (hs : J 164 9 = s) (ht : 0 ≤ t ∧ t < m) (hy : gOK (J 174) m), ((J 168 (0 + t)).toNat) < r9 → tz_Ok l G M_X12_appliedBy (4 + 1 * r9) 0 0 [.ref 164, zi t, .ref 174] n J (zqi (fun z J' => ∃ m', MG [] [] (fun _ => false) J' J 0 0 0 s m m' ∧ (J' 164 21 = 0 → 0 ≤ z ∧ z < m') ∧ ∀ (k : Nat) (β : Int → Int), (∀ v, 0 ≤ v → v < 8 → β v = J 174 v) → J 168 (0 + t) ≤ k → (tb0 J', z) = apO β k (tb0 J) t)) zN := by
  intro r9
  induction r9 with
  | zero => intro J t hr_t s m hM hs ht hy hm9; exact absurd hm9 (Nat.not_lt_zero _)
  | succ r9 ih =>
    intro J t hr_t s m hM hs ht hy hm9
    refine tz_Ok.of hl (by decide +kernel) rfl (tb_c1 rfl) (Nat.le_of_ble_eq_true rfl) ?_
    show tz_At l G M_X12_appliedBy (tb_rm (4 + 1 * (r9 + 1)) 0 0) none (tb_ZM G 0 0 (zQ n 0 (zqi (fun z J' => ∃ m', MG [] [] (fun _ => false) J' J 0 0 0 s m m' ∧ (J' 164 21 = 0 → 0 ≤ z ∧ z < m') ∧ ∀ (k : Nat) (β : Int → Int), (∀ v, 0 ≤ v → v < 8 → β v = J 174 v) → J 168 (0 + t) ≤ k → (tb0 J', z) = apO β k (tb0 J) t))) (zX n 0 zN)) 0 0 n J 0 [some (.ref 164), some (zi t), some (.ref 174), none, none, none, none] []
    have hT := hM.told
    have ha := hM.ar ht
    have g0 : MG [] [] (fun _ => false) J J 0 0 0 s m m := MG.rf hM
    refine tz_aload_n (pc := 0) dX12_appliedBy_0 rfl rfl ?_
    refine tz_fI (pc := 1) (kz := 21) (v := (J 164 21)) dX12_appliedBy_1 fl_X12_92 i_164_21 rfl rfl (fun r_1 => ?_)
    refine tz_if_eq (pc := 4) (tgt := 9) dX12_appliedBy_4 (by decide) (by omega) (fun h_4 => ?_) (fun h_4 => ?_)
    · refine tz_aload_n (pc := 9) dX12_appliedBy_9 rfl rfl ?_
      refine tz_iload_n (pc := 10) dX12_appliedBy_10 rfl rfl ?_
      refine tz_cV (pc := 11) (m_isVar hl n _ _ (by omega) 0 0 0 s m hM (by omega)) vl_X12_78 dX12_appliedBy_11 o_164 rfl rfl (Nat.le_of_ble_eq_true rfl) ⟨(show 1 + 1 ≤ 4 + 1 * (r9 + 1) by omega), (show 8 + (2 + 11) + 40 * (1) ≤ 40 * (4 + 1 * (r9 + 1)) by omega)⟩ rfl rfl (Nat.le_of_ble_eq_true rfl) (Nat.le_of_ble_eq_true rfl) (fun r9 J_11 hq9 => ?_)
      obtain ⟨z_11, rfl, hz_11, rfl, rfl⟩ := hq9
      by_cases hw_14 : J 166 (0 + t) < 0
      · rw [show (if J 166 (0 + t) < 0 then 1 else 0 : Int) = 1 from if_pos hw_14]
        refine tz_if_eqF (pc := 14) (tgt := 40) (by decide) dX12_appliedBy_14 (by decide) (by decide) ?_
        refine tz_aload_n (pc := 17) dX12_appliedBy_17 rfl rfl ?_
        refine tz_aload_n (pc := 18) dX12_appliedBy_18 rfl rfl ?_
        refine tz_iload_n (pc := 19) dX12_appliedBy_19 rfl rfl ?_
        refine tz_cV (pc := 20) (m_varOf hl n _ _ (by omega) 0 0 0 s m hM (by omega)) vl_X12_123 dX12_appliedBy_20 o_164 rfl rfl (Nat.le_of_ble_eq_true rfl) ⟨(show 1 + 1 ≤ 4 + 1 * (r9 + 1) by omega), (show 8 + (2 + 11) + 40 * (1) ≤ 40 * (4 + 1 * (r9 + 1)) by omega)⟩ rfl rfl (Nat.le_of_ble_eq_true rfl) (Nat.le_of_ble_eq_true rfl) (fun r9 J_20 hq9 => ?_)
        obtain ⟨z_20, rfl, hz_20, rfl, rfl⟩ := hq9
        have hv9 := hy (-1 - J 166 (0 + t)) (by omega) (by omega)
        refine tz_aL (pc := 23) (z := (-1 - J 166 (0 + t))) (v := (J 174 (-1 - J 166 (0 + t)))) dX12_appliedBy_23 a_174 rfl (by omega) rfl (fun r_23 => ?_)
        refine tz_iconst (pc := 24) dX12_appliedBy_24 ?_
        refine tz_icmp_ne (pc := 25) (tgt := 32) dX12_appliedBy_25 (by decide) (by omega) (by decide) (fun h_25 => ?_) (fun h_25 => ?_)
        · refine tz_aload_n (pc := 32) dX12_appliedBy_32 rfl rfl ?_
          refine tz_aload_n (pc := 33) dX12_appliedBy_33 rfl rfl ?_
          refine tz_iload_n (pc := 34) dX12_appliedBy_34 rfl rfl ?_
          refine tz_cV (pc := 35) (m_varOf hl n _ _ (by omega) 0 0 0 s m hM (by omega)) vl_X12_123 dX12_appliedBy_35 o_164 rfl rfl (Nat.le_of_ble_eq_true rfl) ⟨(show 1 + 1 ≤ 4 + 1 * (r9 + 1) by omega), (show 8 + (2 + 11) + 40 * (1) ≤ 40 * (4 + 1 * (r9 + 1)) by omega)⟩ rfl rfl (Nat.le_of_ble_eq_true rfl) (Nat.le_of_ble_eq_true rfl) (fun r9 J_35 hq9 => ?_)
          obtain ⟨z_35, rfl, hz_35, rfl, rfl⟩ := hq9
          refine tz_aL (pc := 38) (z := (-1 - J 166 (0 + t))) (v := (J 174 (-1 - J 166 (0 + t)))) dX12_appliedBy_38 a_174 rfl (by omega) rfl (fun r_38 => ?_)
          exact tz_iret (pc := 39) (z := (J 174 (-1 - J 166 (0 + t)))) dX12_appliedBy_39 rfl (Nat.le_of_ble_eq_true rfl) (Nat.le_of_ble_eq_true rfl) ⟨Nat.le_refl _, Nat.le_add_right _ _⟩ ⟨_, rfl, (by omega), ⟨m, g0, fun q9 => by omega, fun k β hβ hk => op_v hM ht hβ hk (by omega)⟩⟩
        · refine tz_iload_n (pc := 28) dX12_appliedBy_28 rfl rfl ?_
          refine tz_goto (pc := 29) (tgt := 39) dX12_appliedBy_29 (by decide) ?_
          exact tz_iret (pc := 39) (z := t) dX12_appliedBy_39 rfl (Nat.le_of_ble_eq_true rfl) (Nat.le_of_ble_eq_true rfl) ⟨Nat.le_refl _, Nat.le_add_right _ _⟩ ⟨_, rfl, (by omega), ⟨m, g0, fun q9 => by omega, fun k β hβ hk => op_v hM ht hβ hk (by omega)⟩⟩
      · rw [show (if J 166 (0 + t) < 0 then 1 else 0 : Int) = 0 from if_neg hw_14]
        refine tz_if_eqT (pc := 14) (tgt := 40) (by decide) dX12_appliedBy_14 (by decide) (by decide) ?_
        refine tz_aload_n (pc := 40) dX12_appliedBy_40 rfl rfl ?_
        refine tz_iload_n (pc := 41) dX12_appliedBy_41 rfl rfl ?_
        refine tz_cV (pc := 42) (m_arity hl n _ _ (by omega) 0 0 0 s m hM (by omega)) vl_X12_111 dX12_appliedBy_42 o_164 rfl rfl (Nat.le_of_ble_eq_true rfl) ⟨(show 2 + 1 ≤ 4 + 1 * (r9 + 1) by omega), (show 8 + (2 + 11) + 40 * (2) ≤ 40 * (4 + 1 * (r9 + 1)) by omega)⟩ rfl rfl (Nat.le_of_ble_eq_true rfl) (Nat.le_of_ble_eq_true rfl) (fun r9 J_42 hq9 => ?_)
        obtain ⟨z_42, rfl, hz_42, rfl, rfl⟩ := hq9
        refine tz_istore_n (pc := 45) (L2 := [_, _, _, _, _, _, _]) dX12_appliedBy_45 rfl (by decide) rfl ?_
        refine tz_iload_n (pc := 46) dX12_appliedBy_46 rfl rfl ?_
        refine tz_if_le (pc := 47) (tgt := 64) dX12_appliedBy_47 (by decide) (by omega) (fun h_47 => ?_) (fun h_47 => ?_)
        · refine tz_iconst (pc := 64) dX12_appliedBy_64 ?_
          refine tz_istore (pc := 65) (L2 := [_, _, _, _, _, _, _]) dX12_appliedBy_65 (by decide) rfl ?_
          refine tz_iload_n (pc := 67) dX12_appliedBy_67 rfl rfl ?_
          refine tz_iconst (pc := 68) dX12_appliedBy_68 ?_
          refine tz_icmp_le (pc := 69) (tgt := 86) dX12_appliedBy_69 (by decide) (by omega) (by decide) (fun h_69 => ?_) (fun h_69 => ?_)
          · refine tz_iconst (pc := 86) dX12_appliedBy_86 ?_
            refine tz_istore (pc := 87) (L2 := [_, _, _, _, _, _, _]) dX12_appliedBy_87 (by decide) rfl ?_
            refine tz_iload_n (pc := 89) dX12_appliedBy_89 rfl rfl ?_
            refine tz_iconst (pc := 90) dX12_appliedBy_90 ?_
            refine tz_icmp_le (pc := 91) (tgt := 108) dX12_appliedBy_91 (by decide) (by omega) (by decide) (fun h_91 => ?_) (fun h_91 => ?_)
            · refine tz_iconst (pc := 108) dX12_appliedBy_108 ?_
              refine tz_istore (pc := 109) (L2 := [_, _, _, _, _, _, _]) dX12_appliedBy_109 (by decide) rfl ?_
              refine tz_aload_n (pc := 111) dX12_appliedBy_111 rfl rfl ?_
              refine tz_iload_n (pc := 112) dX12_appliedBy_112 rfl rfl ?_
              refine tz_iload (pc := 113) dX12_appliedBy_113 rfl ?_
              refine tz_iload (pc := 115) dX12_appliedBy_115 rfl ?_
              refine tz_iload (pc := 117) dX12_appliedBy_117 rfl ?_
              have l0_119 := (g0).1.2
              have t0_119 := (g0).1.1.told
              refine tz_cV (pc := 119) (o_remade hl n _ _ _ _ _ (by omega) (by omega) (by omega) (by omega) s m (g0).1.1 (((g0).2.2.1.2.2.1 9 rfl).trans hs) (by omega) (fun q9 => by have e9 := (g0).ar ht ((g0).2.2.1.2.2.2 170 rfl); rw [e9]; omega)) vl_X12_152 dX12_appliedBy_119 o_164 rfl rfl (Nat.le_of_ble_eq_true rfl) ⟨(show 3 + 1 ≤ 4 + 1 * (r9 + 1) by omega), (show 8 + (5 + 11) + 40 * (3) ≤ 40 * (4 + 1 * (r9 + 1)) by omega)⟩ rfl rfl (Nat.le_of_ble_eq_true rfl) (Nat.le_of_ble_eq_true rfl) (fun r9 J_119 hq9 => ?_)
              obtain ⟨z_119, rfl, hz_119, m_119, g_119, h_119, x_119⟩ := hq9
              have q_119 := MG.tr g0 g_119
              have f_119 := g_119.2.2.2
              have l_119 := g_119.1.2
              exact tz_iret (pc := 122) (z := z_119) dX12_appliedBy_122 rfl (Nat.le_of_ble_eq_true rfl) (Nat.le_of_ble_eq_true rfl) ⟨Nat.le_refl _, Nat.le_add_right _ _⟩ ⟨_, rfl, (by omega), ⟨m_119, q_119, h_119, fun k β hβ hk => op_c hM ht (by omega) hk (fun k9 hk9 => mp_end (T := apO β k9) hM ht (Or.inr ⟨by omega, rfl, rfl⟩) (Or.inr ⟨by omega, rfl, rfl⟩) (Or.inr ⟨by omega, rfl, rfl⟩) (by have e7 := x_119; rw [show J 166 (0 + t) = J 166 (0 + t) from rfl] at e7; exact e7)) (by omega)⟩⟩
            · refine tz_aload_n (pc := 94) dX12_appliedBy_94 rfl rfl ?_
              refine tz_aload_n (pc := 95) dX12_appliedBy_95 rfl rfl ?_
              refine tz_iload_n (pc := 96) dX12_appliedBy_96 rfl rfl ?_
              refine tz_iconst (pc := 97) dX12_appliedBy_97 ?_
              refine tz_cV (pc := 98) (m_arg hl n _ _ _ (by omega) (by decide) 0 0 0 s m hM (by omega) (by omega)) vl_X12_88 dX12_appliedBy_98 o_164 rfl rfl (Nat.le_of_ble_eq_true rfl) ⟨(show 0 + 1 ≤ 4 + 1 * (r9 + 1) by omega), (show 8 + (3 + 11) + 40 * (0) ≤ 40 * (4 + 1 * (r9 + 1)) by omega)⟩ rfl rfl (Nat.le_of_ble_eq_true rfl) (Nat.le_of_ble_eq_true rfl) (fun r9 J_98 hq9 => ?_)
              obtain ⟨z_98, rfl, hz_98, rfl, rfl⟩ := hq9
              refine tz_aload_n (pc := 101) dX12_appliedBy_101 rfl rfl ?_
              have l0_102 := (g0).1.2
              have t0_102 := (g0).1.1.told
              have a_102 := hM.arg (t := t) (i := 2) ht (by omega)
              refine tz_cV (pc := 102) (ih _ _ (by omega) s m (g0).1.1 (((g0).2.2.1.2.2.1 9 rfl).trans hs) (by omega) (fun v x9 y9 => by have := hy v x9 y9; rw [(g0).2.2.1.2.2.2 174 rfl]; omega) (by rw [((g0).2.1 _ (by omega) (by omega)).1.2]; omega)) vl_X12_148 dX12_appliedBy_102 o_164 rfl rfl (Nat.le_of_ble_eq_true rfl) ⟨(show (4 + 1 * r9) + 1 ≤ 4 + 1 * (r9 + 1) by omega), (show 8 + (7 + 11) + 40 * ((4 + 1 * r9)) ≤ 40 * (4 + 1 * (r9 + 1)) by omega)⟩ rfl rfl (Nat.le_of_ble_eq_true rfl) (Nat.le_of_ble_eq_true rfl) (fun r9 J_102 hq9 => ?_)
              obtain ⟨z_102, rfl, hz_102, m_102, g_102, h_102, x_102⟩ := hq9
              have q_102 := MG.tr g0 g_102
              have f_102 := g_102.2.2.2
              have l_102 := g_102.1.2
              have w_102 : J 167 (3 * (0 + t) + 2) = J 167 (3 * (0 + t) + 2) := rfl
              have v_102 : J 174 = J 174 := rfl
              have y_102 : J 168 (0 + J 167 (3 * (0 + t) + 2)) = J 168 (0 + J 167 (3 * (0 + t) + 2)) := rfl
              refine tz_goto (pc := 105) (tgt := 109) dX12_appliedBy_105 (by decide) ?_
              refine tz_istore (pc := 109) (L2 := [_, _, _, _, _, _, _]) dX12_appliedBy_109 (by decide) rfl ?_
              refine tz_aload_n (pc := 111) dX12_appliedBy_111 rfl rfl ?_
              refine tz_iload_n (pc := 112) dX12_appliedBy_112 rfl rfl ?_
              refine tz_iload (pc := 113) dX12_appliedBy_113 rfl ?_
              refine tz_iload (pc := 115) dX12_appliedBy_115 rfl ?_
              refine tz_iload (pc := 117) dX12_appliedBy_117 rfl ?_
              have l0_119 := (q_102).1.2
              have t0_119 := (q_102).1.1.told
              refine tz_cV (pc := 119) (o_remade hl n _ _ _ _ _ (by omega) (by omega) (by omega) (by omega) s m_102 (q_102).1.1 (((q_102).2.2.1.2.2.1 9 rfl).trans hs) (by omega) (fun q9 => by have e9 := (q_102).ar ht ((q_102).2.2.1.2.2.2 170 rfl); rw [e9]; omega)) vl_X12_152 dX12_appliedBy_119 o_164 rfl rfl (Nat.le_of_ble_eq_true rfl) ⟨(show 3 + 1 ≤ 4 + 1 * (r9 + 1) by omega), (show 8 + (5 + 11) + 40 * (3) ≤ 40 * (4 + 1 * (r9 + 1)) by omega)⟩ rfl rfl (Nat.le_of_ble_eq_true rfl) (Nat.le_of_ble_eq_true rfl) (fun r9 J_119 hq9 => ?_)
              obtain ⟨z_119, rfl, hz_119, m_119, g_119, h_119, x_119⟩ := hq9
              have q_119 := MG.tr q_102 g_119
              have f_119 := g_119.2.2.2
              have l_119 := g_119.1.2
              exact tz_iret (pc := 122) (z := z_119) dX12_appliedBy_122 rfl (Nat.le_of_ble_eq_true rfl) (Nat.le_of_ble_eq_true rfl) ⟨Nat.le_refl _, Nat.le_add_right _ _⟩ ⟨_, rfl, (by omega), ⟨m_119, q_119, h_119, fun k β hβ hk => op_c hM ht (by omega) hk (fun k9 hk9 => mp_end (T := apO β k9) hM ht (Or.inr ⟨by omega, rfl, rfl⟩) (Or.inr ⟨by omega, rfl, rfl⟩) (Or.inl ⟨by omega, by rw [w_102]; exact x_102 k9 β (fun v a c => by rw [v_102]; exact hβ v a c) (by rw [y_102]; have d9 := (hM.td t ht.1 ht.2).2.2 2 (by decide) (by omega); dsimp only at d9; unfold mag at d9; omega)⟩) (by have e7 := x_119; rw [show J_102 166 (0 + t) = J 166 (0 + t) from ((q_102).2.1 t ht.1 ht.2).1.1] at e7; exact e7)) (by omega)⟩⟩
          · refine tz_aload_n (pc := 72) dX12_appliedBy_72 rfl rfl ?_
            refine tz_aload_n (pc := 73) dX12_appliedBy_73 rfl rfl ?_
            refine tz_iload_n (pc := 74) dX12_appliedBy_74 rfl rfl ?_
            refine tz_iconst (pc := 75) dX12_appliedBy_75 ?_
            refine tz_cV (pc := 76) (m_arg hl n _ _ _ (by omega) (by decide) 0 0 0 s m hM (by omega) (by omega)) vl_X12_88 dX12_appliedBy_76 o_164 rfl rfl (Nat.le_of_ble_eq_true rfl) ⟨(show 0 + 1 ≤ 4 + 1 * (r9 + 1) by omega), (show 8 + (3 + 11) + 40 * (0) ≤ 40 * (4 + 1 * (r9 + 1)) by omega)⟩ rfl rfl (Nat.le_of_ble_eq_true rfl) (Nat.le_of_ble_eq_true rfl) (fun r9 J_76 hq9 => ?_)
            obtain ⟨z_76, rfl, hz_76, rfl, rfl⟩ := hq9
            refine tz_aload_n (pc := 79) dX12_appliedBy_79 rfl rfl ?_
            have l0_80 := (g0).1.2
            have t0_80 := (g0).1.1.told
            have a_80 := hM.arg (t := t) (i := 1) ht (by omega)
            refine tz_cV (pc := 80) (ih _ _ (by omega) s m (g0).1.1 (((g0).2.2.1.2.2.1 9 rfl).trans hs) (by omega) (fun v x9 y9 => by have := hy v x9 y9; rw [(g0).2.2.1.2.2.2 174 rfl]; omega) (by rw [((g0).2.1 _ (by omega) (by omega)).1.2]; omega)) vl_X12_148 dX12_appliedBy_80 o_164 rfl rfl (Nat.le_of_ble_eq_true rfl) ⟨(show (4 + 1 * r9) + 1 ≤ 4 + 1 * (r9 + 1) by omega), (show 8 + (7 + 11) + 40 * ((4 + 1 * r9)) ≤ 40 * (4 + 1 * (r9 + 1)) by omega)⟩ rfl rfl (Nat.le_of_ble_eq_true rfl) (Nat.le_of_ble_eq_true rfl) (fun r9 J_80 hq9 => ?_)
            obtain ⟨z_80, rfl, hz_80, m_80, g_80, h_80, x_80⟩ := hq9
            have q_80 := MG.tr g0 g_80
            have f_80 := g_80.2.2.2
            have l_80 := g_80.1.2
            have w_80 : J 167 (3 * (0 + t) + 1) = J 167 (3 * (0 + t) + 1) := rfl
            have v_80 : J 174 = J 174 := rfl
            have y_80 : J 168 (0 + J 167 (3 * (0 + t) + 1)) = J 168 (0 + J 167 (3 * (0 + t) + 1)) := rfl
            refine tz_goto (pc := 83) (tgt := 87) dX12_appliedBy_83 (by decide) ?_
            refine tz_istore (pc := 87) (L2 := [_, _, _, _, _, _, _]) dX12_appliedBy_87 (by decide) rfl ?_
            refine tz_iload_n (pc := 89) dX12_appliedBy_89 rfl rfl ?_
            refine tz_iconst (pc := 90) dX12_appliedBy_90 ?_
            refine tz_icmp_le (pc := 91) (tgt := 108) dX12_appliedBy_91 (by decide) (by omega) (by decide) (fun h_91 => ?_) (fun h_91 => ?_)
            · refine tz_iconst (pc := 108) dX12_appliedBy_108 ?_
              refine tz_istore (pc := 109) (L2 := [_, _, _, _, _, _, _]) dX12_appliedBy_109 (by decide) rfl ?_
              refine tz_aload_n (pc := 111) dX12_appliedBy_111 rfl rfl ?_
              refine tz_iload_n (pc := 112) dX12_appliedBy_112 rfl rfl ?_
              refine tz_iload (pc := 113) dX12_appliedBy_113 rfl ?_
              refine tz_iload (pc := 115) dX12_appliedBy_115 rfl ?_
              refine tz_iload (pc := 117) dX12_appliedBy_117 rfl ?_
              have l0_119 := (q_80).1.2
              have t0_119 := (q_80).1.1.told
              refine tz_cV (pc := 119) (o_remade hl n _ _ _ _ _ (by omega) (by omega) (by omega) (by omega) s m_80 (q_80).1.1 (((q_80).2.2.1.2.2.1 9 rfl).trans hs) (by omega) (fun q9 => by have e9 := (q_80).ar ht ((q_80).2.2.1.2.2.2 170 rfl); rw [e9]; omega)) vl_X12_152 dX12_appliedBy_119 o_164 rfl rfl (Nat.le_of_ble_eq_true rfl) ⟨(show 3 + 1 ≤ 4 + 1 * (r9 + 1) by omega), (show 8 + (5 + 11) + 40 * (3) ≤ 40 * (4 + 1 * (r9 + 1)) by omega)⟩ rfl rfl (Nat.le_of_ble_eq_true rfl) (Nat.le_of_ble_eq_true rfl) (fun r9 J_119 hq9 => ?_)
              obtain ⟨z_119, rfl, hz_119, m_119, g_119, h_119, x_119⟩ := hq9
              have q_119 := MG.tr q_80 g_119
              have f_119 := g_119.2.2.2
              have l_119 := g_119.1.2
              exact tz_iret (pc := 122) (z := z_119) dX12_appliedBy_122 rfl (Nat.le_of_ble_eq_true rfl) (Nat.le_of_ble_eq_true rfl) ⟨Nat.le_refl _, Nat.le_add_right _ _⟩ ⟨_, rfl, (by omega), ⟨m_119, q_119, h_119, fun k β hβ hk => op_c hM ht (by omega) hk (fun k9 hk9 => mp_end (T := apO β k9) hM ht (Or.inr ⟨by omega, rfl, rfl⟩) (Or.inl ⟨by omega, by rw [w_80]; exact x_80 k9 β (fun v a c => by rw [v_80]; exact hβ v a c) (by rw [y_80]; have d9 := (hM.td t ht.1 ht.2).2.2 1 (by decide) (by omega); dsimp only at d9; unfold mag at d9; omega)⟩) (Or.inr ⟨by omega, rfl, rfl⟩) (by have e7 := x_119; rw [show J_80 166 (0 + t) = J 166 (0 + t) from ((q_80).2.1 t ht.1 ht.2).1.1] at e7; exact e7)) (by omega)⟩⟩
            · refine tz_aload_n (pc := 94) dX12_appliedBy_94 rfl rfl ?_
              refine tz_aload_n (pc := 95) dX12_appliedBy_95 rfl rfl ?_
              refine tz_iload_n (pc := 96) dX12_appliedBy_96 rfl rfl ?_
              refine tz_iconst (pc := 97) dX12_appliedBy_97 ?_
              have l_98 := (q_80).1.2
              have tt_98 := (q_80).1.1.told
              refine tz_cV (pc := 98) (m_arg hl n _ _ _ (by omega) (by decide) 0 0 0 s m_80 (q_80).1.1 (by omega) (by omega)) vl_X12_88 dX12_appliedBy_98 o_164 rfl rfl (Nat.le_of_ble_eq_true rfl) ⟨(show 0 + 1 ≤ 4 + 1 * (r9 + 1) by omega), (show 8 + (3 + 11) + 40 * (0) ≤ 40 * (4 + 1 * (r9 + 1)) by omega)⟩ rfl rfl (Nat.le_of_ble_eq_true rfl) (Nat.le_of_ble_eq_true rfl) (fun r9 J_98 hq9 => ?_)
              obtain ⟨z_98, rfl, hz_98, rfl, hv_98⟩ := hq9
              have he_98 : J_80 167 (3 * (0 + t) + 2) = J 167 (3 * (0 + t) + 2) := ((q_80).2.1 t ht.1 ht.2).2 2 (by omega) (by omega)
              rw [he_98] at hv_98
              obtain rfl : J 167 (3 * (0 + t) + 2) = z_98 := hv_98
              refine tz_aload_n (pc := 101) dX12_appliedBy_101 rfl rfl ?_
              have l0_102 := (q_80).1.2
              have t0_102 := (q_80).1.1.told
              have a_102 := hM.arg (t := t) (i := 2) ht (by omega)
              refine tz_cV (pc := 102) (ih _ _ (by omega) s m_80 (q_80).1.1 (((q_80).2.2.1.2.2.1 9 rfl).trans hs) (by omega) (fun v x9 y9 => by have := hy v x9 y9; rw [(q_80).2.2.1.2.2.2 174 rfl]; omega) (by rw [((q_80).2.1 _ (by omega) (by omega)).1.2]; omega)) vl_X12_148 dX12_appliedBy_102 o_164 rfl rfl (Nat.le_of_ble_eq_true rfl) ⟨(show (4 + 1 * r9) + 1 ≤ 4 + 1 * (r9 + 1) by omega), (show 8 + (7 + 11) + 40 * ((4 + 1 * r9)) ≤ 40 * (4 + 1 * (r9 + 1)) by omega)⟩ rfl rfl (Nat.le_of_ble_eq_true rfl) (Nat.le_of_ble_eq_true rfl) (fun r9 J_102 hq9 => ?_)
              obtain ⟨z_102, rfl, hz_102, m_102, g_102, h_102, x_102⟩ := hq9
              have q_102 := MG.tr q_80 g_102
              have f_102 := g_102.2.2.2
              have l_102 := g_102.1.2
              have w_102 : J_80 167 (3 * (0 + t) + 2) = J 167 (3 * (0 + t) + 2) := ((q_80).2.1 t ht.1 ht.2).2 2 (by decide) (by decide)
              have v_102 : J_80 174 = J 174 := (q_80).2.2.1.2.2.2 174 rfl
              have y_102 : J_80 168 (0 + J 167 (3 * (0 + t) + 2)) = J 168 (0 + J 167 (3 * (0 + t) + 2)) := ((q_80).2.1 _ (by omega) (by omega)).1.2
              refine tz_goto (pc := 105) (tgt := 109) dX12_appliedBy_105 (by decide) ?_
              refine tz_istore (pc := 109) (L2 := [_, _, _, _, _, _, _]) dX12_appliedBy_109 (by decide) rfl ?_
              refine tz_aload_n (pc := 111) dX12_appliedBy_111 rfl rfl ?_
              refine tz_iload_n (pc := 112) dX12_appliedBy_112 rfl rfl ?_
              refine tz_iload (pc := 113) dX12_appliedBy_113 rfl ?_
              refine tz_iload (pc := 115) dX12_appliedBy_115 rfl ?_
              refine tz_iload (pc := 117) dX12_appliedBy_117 rfl ?_
              have l0_119 := (q_102).1.2
              have t0_119 := (q_102).1.1.told
              refine tz_cV (pc := 119) (o_remade hl n _ _ _ _ _ (by omega) (by omega) (by omega) (by omega) s m_102 (q_102).1.1 (((q_102).2.2.1.2.2.1 9 rfl).trans hs) (by omega) (fun q9 => by have e9 := (q_102).ar ht ((q_102).2.2.1.2.2.2 170 rfl); rw [e9]; omega)) vl_X12_152 dX12_appliedBy_119 o_164 rfl rfl (Nat.le_of_ble_eq_true rfl) ⟨(show 3 + 1 ≤ 4 + 1 * (r9 + 1) by omega), (show 8 + (5 + 11) + 40 * (3) ≤ 40 * (4 + 1 * (r9 + 1)) by omega)⟩ rfl rfl (Nat.le_of_ble_eq_true rfl) (Nat.le_of_ble_eq_true rfl) (fun r9 J_119 hq9 => ?_)
              obtain ⟨z_119, rfl, hz_119, m_119, g_119, h_119, x_119⟩ := hq9
              have q_119 := MG.tr q_102 g_119
              have f_119 := g_119.2.2.2
              have l_119 := g_119.1.2
              exact tz_iret (pc := 122) (z := z_119) dX12_appliedBy_122 rfl (Nat.le_of_ble_eq_true rfl) (Nat.le_of_ble_eq_true rfl) ⟨Nat.le_refl _, Nat.le_add_right _ _⟩ ⟨_, rfl, (by omega), ⟨m_119, q_119, h_119, fun k β hβ hk => op_c hM ht (by omega) hk (fun k9 hk9 => mp_end (T := apO β k9) hM ht (Or.inr ⟨by omega, rfl, rfl⟩) (Or.inl ⟨by omega, by rw [w_80]; exact x_80 k9 β (fun v a c => by rw [v_80]; exact hβ v a c) (by rw [y_80]; have d9 := (hM.td t ht.1 ht.2).2.2 1 (by decide) (by omega); dsimp only at d9; unfold mag at d9; omega)⟩) (Or.inl ⟨by omega, by rw [w_102]; exact x_102 k9 β (fun v a c => by rw [v_102]; exact hβ v a c) (by rw [y_102]; have d9 := (hM.td t ht.1 ht.2).2.2 2 (by decide) (by omega); dsimp only at d9; unfold mag at d9; omega)⟩) (by have e7 := x_119; rw [show J_102 166 (0 + t) = J 166 (0 + t) from ((q_102).2.1 t ht.1 ht.2).1.1] at e7; exact e7)) (by omega)⟩⟩
        · refine tz_aload_n (pc := 50) dX12_appliedBy_50 rfl rfl ?_
          refine tz_aload_n (pc := 51) dX12_appliedBy_51 rfl rfl ?_
          refine tz_iload_n (pc := 52) dX12_appliedBy_52 rfl rfl ?_
          refine tz_iconst (pc := 53) dX12_appliedBy_53 ?_
          refine tz_cV (pc := 54) (m_arg hl n _ _ _ (by omega) (by decide) 0 0 0 s m hM (by omega) (by omega)) vl_X12_88 dX12_appliedBy_54 o_164 rfl rfl (Nat.le_of_ble_eq_true rfl) ⟨(show 0 + 1 ≤ 4 + 1 * (r9 + 1) by omega), (show 8 + (3 + 11) + 40 * (0) ≤ 40 * (4 + 1 * (r9 + 1)) by omega)⟩ rfl rfl (Nat.le_of_ble_eq_true rfl) (Nat.le_of_ble_eq_true rfl) (fun r9 J_54 hq9 => ?_)
          obtain ⟨z_54, rfl, hz_54, rfl, rfl⟩ := hq9
          refine tz_aload_n (pc := 57) dX12_appliedBy_57 rfl rfl ?_
          have l0_58 := (g0).1.2
          have t0_58 := (g0).1.1.told
          have a_58 := hM.arg (t := t) (i := 0) ht (by omega)
          refine tz_cV (pc := 58) (ih _ _ (by omega) s m (g0).1.1 (((g0).2.2.1.2.2.1 9 rfl).trans hs) (by omega) (fun v x9 y9 => by have := hy v x9 y9; rw [(g0).2.2.1.2.2.2 174 rfl]; omega) (by rw [((g0).2.1 _ (by omega) (by omega)).1.2]; omega)) vl_X12_148 dX12_appliedBy_58 o_164 rfl rfl (Nat.le_of_ble_eq_true rfl) ⟨(show (4 + 1 * r9) + 1 ≤ 4 + 1 * (r9 + 1) by omega), (show 8 + (7 + 11) + 40 * ((4 + 1 * r9)) ≤ 40 * (4 + 1 * (r9 + 1)) by omega)⟩ rfl rfl (Nat.le_of_ble_eq_true rfl) (Nat.le_of_ble_eq_true rfl) (fun r9 J_58 hq9 => ?_)
          obtain ⟨z_58, rfl, hz_58, m_58, g_58, h_58, x_58⟩ := hq9
          have q_58 := MG.tr g0 g_58
          have f_58 := g_58.2.2.2
          have l_58 := g_58.1.2
          have w_58 : J 167 (3 * (0 + t) + 0) = J 167 (3 * (0 + t) + 0) := rfl
          have v_58 : J 174 = J 174 := rfl
          have y_58 : J 168 (0 + J 167 (3 * (0 + t) + 0)) = J 168 (0 + J 167 (3 * (0 + t) + 0)) := rfl
          refine tz_goto (pc := 61) (tgt := 65) dX12_appliedBy_61 (by decide) ?_
          refine tz_istore (pc := 65) (L2 := [_, _, _, _, _, _, _]) dX12_appliedBy_65 (by decide) rfl ?_
          refine tz_iload_n (pc := 67) dX12_appliedBy_67 rfl rfl ?_
          refine tz_iconst (pc := 68) dX12_appliedBy_68 ?_
          refine tz_icmp_le (pc := 69) (tgt := 86) dX12_appliedBy_69 (by decide) (by omega) (by decide) (fun h_69 => ?_) (fun h_69 => ?_)
          · refine tz_iconst (pc := 86) dX12_appliedBy_86 ?_
            refine tz_istore (pc := 87) (L2 := [_, _, _, _, _, _, _]) dX12_appliedBy_87 (by decide) rfl ?_
            refine tz_iload_n (pc := 89) dX12_appliedBy_89 rfl rfl ?_
            refine tz_iconst (pc := 90) dX12_appliedBy_90 ?_
            refine tz_icmp_le (pc := 91) (tgt := 108) dX12_appliedBy_91 (by decide) (by omega) (by decide) (fun h_91 => ?_) (fun h_91 => ?_)
            · refine tz_iconst (pc := 108) dX12_appliedBy_108 ?_
              refine tz_istore (pc := 109) (L2 := [_, _, _, _, _, _, _]) dX12_appliedBy_109 (by decide) rfl ?_
              refine tz_aload_n (pc := 111) dX12_appliedBy_111 rfl rfl ?_
              refine tz_iload_n (pc := 112) dX12_appliedBy_112 rfl rfl ?_
              refine tz_iload (pc := 113) dX12_appliedBy_113 rfl ?_
              refine tz_iload (pc := 115) dX12_appliedBy_115 rfl ?_
              refine tz_iload (pc := 117) dX12_appliedBy_117 rfl ?_
              have l0_119 := (q_58).1.2
              have t0_119 := (q_58).1.1.told
              refine tz_cV (pc := 119) (o_remade hl n _ _ _ _ _ (by omega) (by omega) (by omega) (by omega) s m_58 (q_58).1.1 (((q_58).2.2.1.2.2.1 9 rfl).trans hs) (by omega) (fun q9 => by have e9 := (q_58).ar ht ((q_58).2.2.1.2.2.2 170 rfl); rw [e9]; omega)) vl_X12_152 dX12_appliedBy_119 o_164 rfl rfl (Nat.le_of_ble_eq_true rfl) ⟨(show 3 + 1 ≤ 4 + 1 * (r9 + 1) by omega), (show 8 + (5 + 11) + 40 * (3) ≤ 40 * (4 + 1 * (r9 + 1)) by omega)⟩ rfl rfl (Nat.le_of_ble_eq_true rfl) (Nat.le_of_ble_eq_true rfl) (fun r9 J_119 hq9 => ?_)
              obtain ⟨z_119, rfl, hz_119, m_119, g_119, h_119, x_119⟩ := hq9
              have q_119 := MG.tr q_58 g_119
              have f_119 := g_119.2.2.2
              have l_119 := g_119.1.2
              exact tz_iret (pc := 122) (z := z_119) dX12_appliedBy_122 rfl (Nat.le_of_ble_eq_true rfl) (Nat.le_of_ble_eq_true rfl) ⟨Nat.le_refl _, Nat.le_add_right _ _⟩ ⟨_, rfl, (by omega), ⟨m_119, q_119, h_119, fun k β hβ hk => op_c hM ht (by omega) hk (fun k9 hk9 => mp_end (T := apO β k9) hM ht (Or.inl ⟨by omega, by rw [w_58]; exact x_58 k9 β (fun v a c => by rw [v_58]; exact hβ v a c) (by rw [y_58]; have d9 := (hM.td t ht.1 ht.2).2.2 0 (by decide) (by omega); dsimp only at d9; unfold mag at d9; omega)⟩) (Or.inr ⟨by omega, rfl, rfl⟩) (Or.inr ⟨by omega, rfl, rfl⟩) (by have e7 := x_119; rw [show J_58 166 (0 + t) = J 166 (0 + t) from ((q_58).2.1 t ht.1 ht.2).1.1] at e7; exact e7)) (by omega)⟩⟩
            · refine tz_aload_n (pc := 94) dX12_appliedBy_94 rfl rfl ?_
              refine tz_aload_n (pc := 95) dX12_appliedBy_95 rfl rfl ?_
              refine tz_iload_n (pc := 96) dX12_appliedBy_96 rfl rfl ?_
              refine tz_iconst (pc := 97) dX12_appliedBy_97 ?_
              have l_98 := (q_58).1.2
              have tt_98 := (q_58).1.1.told
              refine tz_cV (pc := 98) (m_arg hl n _ _ _ (by omega) (by decide) 0 0 0 s m_58 (q_58).1.1 (by omega) (by omega)) vl_X12_88 dX12_appliedBy_98 o_164 rfl rfl (Nat.le_of_ble_eq_true rfl) ⟨(show 0 + 1 ≤ 4 + 1 * (r9 + 1) by omega), (show 8 + (3 + 11) + 40 * (0) ≤ 40 * (4 + 1 * (r9 + 1)) by omega)⟩ rfl rfl (Nat.le_of_ble_eq_true rfl) (Nat.le_of_ble_eq_true rfl) (fun r9 J_98 hq9 => ?_)
              obtain ⟨z_98, rfl, hz_98, rfl, hv_98⟩ := hq9
              have he_98 : J_58 167 (3 * (0 + t) + 2) = J 167 (3 * (0 + t) + 2) := ((q_58).2.1 t ht.1 ht.2).2 2 (by omega) (by omega)
              rw [he_98] at hv_98
              obtain rfl : J 167 (3 * (0 + t) + 2) = z_98 := hv_98
              refine tz_aload_n (pc := 101) dX12_appliedBy_101 rfl rfl ?_
              have l0_102 := (q_58).1.2
              have t0_102 := (q_58).1.1.told
              have a_102 := hM.arg (t := t) (i := 2) ht (by omega)
              refine tz_cV (pc := 102) (ih _ _ (by omega) s m_58 (q_58).1.1 (((q_58).2.2.1.2.2.1 9 rfl).trans hs) (by omega) (fun v x9 y9 => by have := hy v x9 y9; rw [(q_58).2.2.1.2.2.2 174 rfl]; omega) (by rw [((q_58).2.1 _ (by omega) (by omega)).1.2]; omega)) vl_X12_148 dX12_appliedBy_102 o_164 rfl rfl (Nat.le_of_ble_eq_true rfl) ⟨(show (4 + 1 * r9) + 1 ≤ 4 + 1 * (r9 + 1) by omega), (show 8 + (7 + 11) + 40 * ((4 + 1 * r9)) ≤ 40 * (4 + 1 * (r9 + 1)) by omega)⟩ rfl rfl (Nat.le_of_ble_eq_true rfl) (Nat.le_of_ble_eq_true rfl) (fun r9 J_102 hq9 => ?_)
              obtain ⟨z_102, rfl, hz_102, m_102, g_102, h_102, x_102⟩ := hq9
              have q_102 := MG.tr q_58 g_102
              have f_102 := g_102.2.2.2
              have l_102 := g_102.1.2
              have w_102 : J_58 167 (3 * (0 + t) + 2) = J 167 (3 * (0 + t) + 2) := ((q_58).2.1 t ht.1 ht.2).2 2 (by decide) (by decide)
              have v_102 : J_58 174 = J 174 := (q_58).2.2.1.2.2.2 174 rfl
              have y_102 : J_58 168 (0 + J 167 (3 * (0 + t) + 2)) = J 168 (0 + J 167 (3 * (0 + t) + 2)) := ((q_58).2.1 _ (by omega) (by omega)).1.2
              refine tz_goto (pc := 105) (tgt := 109) dX12_appliedBy_105 (by decide) ?_
              refine tz_istore (pc := 109) (L2 := [_, _, _, _, _, _, _]) dX12_appliedBy_109 (by decide) rfl ?_
              refine tz_aload_n (pc := 111) dX12_appliedBy_111 rfl rfl ?_
              refine tz_iload_n (pc := 112) dX12_appliedBy_112 rfl rfl ?_
              refine tz_iload (pc := 113) dX12_appliedBy_113 rfl ?_
              refine tz_iload (pc := 115) dX12_appliedBy_115 rfl ?_
              refine tz_iload (pc := 117) dX12_appliedBy_117 rfl ?_
              have l0_119 := (q_102).1.2
              have t0_119 := (q_102).1.1.told
              refine tz_cV (pc := 119) (o_remade hl n _ _ _ _ _ (by omega) (by omega) (by omega) (by omega) s m_102 (q_102).1.1 (((q_102).2.2.1.2.2.1 9 rfl).trans hs) (by omega) (fun q9 => by have e9 := (q_102).ar ht ((q_102).2.2.1.2.2.2 170 rfl); rw [e9]; omega)) vl_X12_152 dX12_appliedBy_119 o_164 rfl rfl (Nat.le_of_ble_eq_true rfl) ⟨(show 3 + 1 ≤ 4 + 1 * (r9 + 1) by omega), (show 8 + (5 + 11) + 40 * (3) ≤ 40 * (4 + 1 * (r9 + 1)) by omega)⟩ rfl rfl (Nat.le_of_ble_eq_true rfl) (Nat.le_of_ble_eq_true rfl) (fun r9 J_119 hq9 => ?_)
              obtain ⟨z_119, rfl, hz_119, m_119, g_119, h_119, x_119⟩ := hq9
              have q_119 := MG.tr q_102 g_119
              have f_119 := g_119.2.2.2
              have l_119 := g_119.1.2
              exact tz_iret (pc := 122) (z := z_119) dX12_appliedBy_122 rfl (Nat.le_of_ble_eq_true rfl) (Nat.le_of_ble_eq_true rfl) ⟨Nat.le_refl _, Nat.le_add_right _ _⟩ ⟨_, rfl, (by omega), ⟨m_119, q_119, h_119, fun k β hβ hk => op_c hM ht (by omega) hk (fun k9 hk9 => mp_end (T := apO β k9) hM ht (Or.inl ⟨by omega, by rw [w_58]; exact x_58 k9 β (fun v a c => by rw [v_58]; exact hβ v a c) (by rw [y_58]; have d9 := (hM.td t ht.1 ht.2).2.2 0 (by decide) (by omega); dsimp only at d9; unfold mag at d9; omega)⟩) (Or.inr ⟨by omega, rfl, rfl⟩) (Or.inl ⟨by omega, by rw [w_102]; exact x_102 k9 β (fun v a c => by rw [v_102]; exact hβ v a c) (by rw [y_102]; have d9 := (hM.td t ht.1 ht.2).2.2 2 (by decide) (by omega); dsimp only at d9; unfold mag at d9; omega)⟩) (by have e7 := x_119; rw [show J_102 166 (0 + t) = J 166 (0 + t) from ((q_102).2.1 t ht.1 ht.2).1.1] at e7; exact e7)) (by omega)⟩⟩
          · refine tz_aload_n (pc := 72) dX12_appliedBy_72 rfl rfl ?_
            refine tz_aload_n (pc := 73) dX12_appliedBy_73 rfl rfl ?_
            refine tz_iload_n (pc := 74) dX12_appliedBy_74 rfl rfl ?_
            refine tz_iconst (pc := 75) dX12_appliedBy_75 ?_
            have l_76 := (q_58).1.2
            have tt_76 := (q_58).1.1.told
            refine tz_cV (pc := 76) (m_arg hl n _ _ _ (by omega) (by decide) 0 0 0 s m_58 (q_58).1.1 (by omega) (by omega)) vl_X12_88 dX12_appliedBy_76 o_164 rfl rfl (Nat.le_of_ble_eq_true rfl) ⟨(show 0 + 1 ≤ 4 + 1 * (r9 + 1) by omega), (show 8 + (3 + 11) + 40 * (0) ≤ 40 * (4 + 1 * (r9 + 1)) by omega)⟩ rfl rfl (Nat.le_of_ble_eq_true rfl) (Nat.le_of_ble_eq_true rfl) (fun r9 J_76 hq9 => ?_)
            obtain ⟨z_76, rfl, hz_76, rfl, hv_76⟩ := hq9
            have he_76 : J_58 167 (3 * (0 + t) + 1) = J 167 (3 * (0 + t) + 1) := ((q_58).2.1 t ht.1 ht.2).2 1 (by omega) (by omega)
            rw [he_76] at hv_76
            obtain rfl : J 167 (3 * (0 + t) + 1) = z_76 := hv_76
            refine tz_aload_n (pc := 79) dX12_appliedBy_79 rfl rfl ?_
            have l0_80 := (q_58).1.2
            have t0_80 := (q_58).1.1.told
            have a_80 := hM.arg (t := t) (i := 1) ht (by omega)
            refine tz_cV (pc := 80) (ih _ _ (by omega) s m_58 (q_58).1.1 (((q_58).2.2.1.2.2.1 9 rfl).trans hs) (by omega) (fun v x9 y9 => by have := hy v x9 y9; rw [(q_58).2.2.1.2.2.2 174 rfl]; omega) (by rw [((q_58).2.1 _ (by omega) (by omega)).1.2]; omega)) vl_X12_148 dX12_appliedBy_80 o_164 rfl rfl (Nat.le_of_ble_eq_true rfl) ⟨(show (4 + 1 * r9) + 1 ≤ 4 + 1 * (r9 + 1) by omega), (show 8 + (7 + 11) + 40 * ((4 + 1 * r9)) ≤ 40 * (4 + 1 * (r9 + 1)) by omega)⟩ rfl rfl (Nat.le_of_ble_eq_true rfl) (Nat.le_of_ble_eq_true rfl) (fun r9 J_80 hq9 => ?_)
            obtain ⟨z_80, rfl, hz_80, m_80, g_80, h_80, x_80⟩ := hq9
            have q_80 := MG.tr q_58 g_80
            have f_80 := g_80.2.2.2
            have l_80 := g_80.1.2
            have w_80 : J_58 167 (3 * (0 + t) + 1) = J 167 (3 * (0 + t) + 1) := ((q_58).2.1 t ht.1 ht.2).2 1 (by decide) (by decide)
            have v_80 : J_58 174 = J 174 := (q_58).2.2.1.2.2.2 174 rfl
            have y_80 : J_58 168 (0 + J 167 (3 * (0 + t) + 1)) = J 168 (0 + J 167 (3 * (0 + t) + 1)) := ((q_58).2.1 _ (by omega) (by omega)).1.2
            refine tz_goto (pc := 83) (tgt := 87) dX12_appliedBy_83 (by decide) ?_
            refine tz_istore (pc := 87) (L2 := [_, _, _, _, _, _, _]) dX12_appliedBy_87 (by decide) rfl ?_
            refine tz_iload_n (pc := 89) dX12_appliedBy_89 rfl rfl ?_
            refine tz_iconst (pc := 90) dX12_appliedBy_90 ?_
            refine tz_icmp_le (pc := 91) (tgt := 108) dX12_appliedBy_91 (by decide) (by omega) (by decide) (fun h_91 => ?_) (fun h_91 => ?_)
            · refine tz_iconst (pc := 108) dX12_appliedBy_108 ?_
              refine tz_istore (pc := 109) (L2 := [_, _, _, _, _, _, _]) dX12_appliedBy_109 (by decide) rfl ?_
              refine tz_aload_n (pc := 111) dX12_appliedBy_111 rfl rfl ?_
              refine tz_iload_n (pc := 112) dX12_appliedBy_112 rfl rfl ?_
              refine tz_iload (pc := 113) dX12_appliedBy_113 rfl ?_
              refine tz_iload (pc := 115) dX12_appliedBy_115 rfl ?_
              refine tz_iload (pc := 117) dX12_appliedBy_117 rfl ?_
              have l0_119 := (q_80).1.2
              have t0_119 := (q_80).1.1.told
              refine tz_cV (pc := 119) (o_remade hl n _ _ _ _ _ (by omega) (by omega) (by omega) (by omega) s m_80 (q_80).1.1 (((q_80).2.2.1.2.2.1 9 rfl).trans hs) (by omega) (fun q9 => by have e9 := (q_80).ar ht ((q_80).2.2.1.2.2.2 170 rfl); rw [e9]; omega)) vl_X12_152 dX12_appliedBy_119 o_164 rfl rfl (Nat.le_of_ble_eq_true rfl) ⟨(show 3 + 1 ≤ 4 + 1 * (r9 + 1) by omega), (show 8 + (5 + 11) + 40 * (3) ≤ 40 * (4 + 1 * (r9 + 1)) by omega)⟩ rfl rfl (Nat.le_of_ble_eq_true rfl) (Nat.le_of_ble_eq_true rfl) (fun r9 J_119 hq9 => ?_)
              obtain ⟨z_119, rfl, hz_119, m_119, g_119, h_119, x_119⟩ := hq9
              have q_119 := MG.tr q_80 g_119
              have f_119 := g_119.2.2.2
              have l_119 := g_119.1.2
              exact tz_iret (pc := 122) (z := z_119) dX12_appliedBy_122 rfl (Nat.le_of_ble_eq_true rfl) (Nat.le_of_ble_eq_true rfl) ⟨Nat.le_refl _, Nat.le_add_right _ _⟩ ⟨_, rfl, (by omega), ⟨m_119, q_119, h_119, fun k β hβ hk => op_c hM ht (by omega) hk (fun k9 hk9 => mp_end (T := apO β k9) hM ht (Or.inl ⟨by omega, by rw [w_58]; exact x_58 k9 β (fun v a c => by rw [v_58]; exact hβ v a c) (by rw [y_58]; have d9 := (hM.td t ht.1 ht.2).2.2 0 (by decide) (by omega); dsimp only at d9; unfold mag at d9; omega)⟩) (Or.inl ⟨by omega, by rw [w_80]; exact x_80 k9 β (fun v a c => by rw [v_80]; exact hβ v a c) (by rw [y_80]; have d9 := (hM.td t ht.1 ht.2).2.2 1 (by decide) (by omega); dsimp only at d9; unfold mag at d9; omega)⟩) (Or.inr ⟨by omega, rfl, rfl⟩) (by have e7 := x_119; rw [show J_80 166 (0 + t) = J 166 (0 + t) from ((q_80).2.1 t ht.1 ht.2).1.1] at e7; exact e7)) (by omega)⟩⟩
            · refine tz_aload_n (pc := 94) dX12_appliedBy_94 rfl rfl ?_
              refine tz_aload_n (pc := 95) dX12_appliedBy_95 rfl rfl ?_
              refine tz_iload_n (pc := 96) dX12_appliedBy_96 rfl rfl ?_
              refine tz_iconst (pc := 97) dX12_appliedBy_97 ?_
              have l_98 := (q_80).1.2
              have tt_98 := (q_80).1.1.told
              refine tz_cV (pc := 98) (m_arg hl n _ _ _ (by omega) (by decide) 0 0 0 s m_80 (q_80).1.1 (by omega) (by omega)) vl_X12_88 dX12_appliedBy_98 o_164 rfl rfl (Nat.le_of_ble_eq_true rfl) ⟨(show 0 + 1 ≤ 4 + 1 * (r9 + 1) by omega), (show 8 + (3 + 11) + 40 * (0) ≤ 40 * (4 + 1 * (r9 + 1)) by omega)⟩ rfl rfl (Nat.le_of_ble_eq_true rfl) (Nat.le_of_ble_eq_true rfl) (fun r9 J_98 hq9 => ?_)
              obtain ⟨z_98, rfl, hz_98, rfl, hv_98⟩ := hq9
              have he_98 : J_80 167 (3 * (0 + t) + 2) = J 167 (3 * (0 + t) + 2) := ((q_80).2.1 t ht.1 ht.2).2 2 (by omega) (by omega)
              rw [he_98] at hv_98
              obtain rfl : J 167 (3 * (0 + t) + 2) = z_98 := hv_98
              refine tz_aload_n (pc := 101) dX12_appliedBy_101 rfl rfl ?_
              have l0_102 := (q_80).1.2
              have t0_102 := (q_80).1.1.told
              have a_102 := hM.arg (t := t) (i := 2) ht (by omega)
              refine tz_cV (pc := 102) (ih _ _ (by omega) s m_80 (q_80).1.1 (((q_80).2.2.1.2.2.1 9 rfl).trans hs) (by omega) (fun v x9 y9 => by have := hy v x9 y9; rw [(q_80).2.2.1.2.2.2 174 rfl]; omega) (by rw [((q_80).2.1 _ (by omega) (by omega)).1.2]; omega)) vl_X12_148 dX12_appliedBy_102 o_164 rfl rfl (Nat.le_of_ble_eq_true rfl) ⟨(show (4 + 1 * r9) + 1 ≤ 4 + 1 * (r9 + 1) by omega), (show 8 + (7 + 11) + 40 * ((4 + 1 * r9)) ≤ 40 * (4 + 1 * (r9 + 1)) by omega)⟩ rfl rfl (Nat.le_of_ble_eq_true rfl) (Nat.le_of_ble_eq_true rfl) (fun r9 J_102 hq9 => ?_)
              obtain ⟨z_102, rfl, hz_102, m_102, g_102, h_102, x_102⟩ := hq9
              have q_102 := MG.tr q_80 g_102
              have f_102 := g_102.2.2.2
              have l_102 := g_102.1.2
              have w_102 : J_80 167 (3 * (0 + t) + 2) = J 167 (3 * (0 + t) + 2) := ((q_80).2.1 t ht.1 ht.2).2 2 (by decide) (by decide)
              have v_102 : J_80 174 = J 174 := (q_80).2.2.1.2.2.2 174 rfl
              have y_102 : J_80 168 (0 + J 167 (3 * (0 + t) + 2)) = J 168 (0 + J 167 (3 * (0 + t) + 2)) := ((q_80).2.1 _ (by omega) (by omega)).1.2
              refine tz_goto (pc := 105) (tgt := 109) dX12_appliedBy_105 (by decide) ?_
              refine tz_istore (pc := 109) (L2 := [_, _, _, _, _, _, _]) dX12_appliedBy_109 (by decide) rfl ?_
              refine tz_aload_n (pc := 111) dX12_appliedBy_111 rfl rfl ?_
              refine tz_iload_n (pc := 112) dX12_appliedBy_112 rfl rfl ?_
              refine tz_iload (pc := 113) dX12_appliedBy_113 rfl ?_
              refine tz_iload (pc := 115) dX12_appliedBy_115 rfl ?_
              refine tz_iload (pc := 117) dX12_appliedBy_117 rfl ?_
              have l0_119 := (q_102).1.2
              have t0_119 := (q_102).1.1.told
              refine tz_cV (pc := 119) (o_remade hl n _ _ _ _ _ (by omega) (by omega) (by omega) (by omega) s m_102 (q_102).1.1 (((q_102).2.2.1.2.2.1 9 rfl).trans hs) (by omega) (fun q9 => by have e9 := (q_102).ar ht ((q_102).2.2.1.2.2.2 170 rfl); rw [e9]; omega)) vl_X12_152 dX12_appliedBy_119 o_164 rfl rfl (Nat.le_of_ble_eq_true rfl) ⟨(show 3 + 1 ≤ 4 + 1 * (r9 + 1) by omega), (show 8 + (5 + 11) + 40 * (3) ≤ 40 * (4 + 1 * (r9 + 1)) by omega)⟩ rfl rfl (Nat.le_of_ble_eq_true rfl) (Nat.le_of_ble_eq_true rfl) (fun r9 J_119 hq9 => ?_)
              obtain ⟨z_119, rfl, hz_119, m_119, g_119, h_119, x_119⟩ := hq9
              have q_119 := MG.tr q_102 g_119
              have f_119 := g_119.2.2.2
              have l_119 := g_119.1.2
              exact tz_iret (pc := 122) (z := z_119) dX12_appliedBy_122 rfl (Nat.le_of_ble_eq_true rfl) (Nat.le_of_ble_eq_true rfl) ⟨Nat.le_refl _, Nat.le_add_right _ _⟩ ⟨_, rfl, (by omega), ⟨m_119, q_119, h_119, fun k β hβ hk => op_c hM ht (by omega) hk (fun k9 hk9 => mp_end (T := apO β k9) hM ht (Or.inl ⟨by omega, by rw [w_58]; exact x_58 k9 β (fun v a c => by rw [v_58]; exact hβ v a c) (by rw [y_58]; have d9 := (hM.td t ht.1 ht.2).2.2 0 (by decide) (by omega); dsimp only at d9; unfold mag at d9; omega)⟩) (Or.inl ⟨by omega, by rw [w_80]; exact x_80 k9 β (fun v a c => by rw [v_80]; exact hβ v a c) (by rw [y_80]; have d9 := (hM.td t ht.1 ht.2).2.2 1 (by decide) (by omega); dsimp only at d9; unfold mag at d9; omega)⟩) (Or.inl ⟨by omega, by rw [w_102]; exact x_102 k9 β (fun v a c => by rw [v_102]; exact hβ v a c) (by rw [y_102]; have d9 := (hM.td t ht.1 ht.2).2.2 2 (by decide) (by omega); dsimp only at d9; unfold mag at d9; omega)⟩) (by have e7 := x_119; rw [show J_102 166 (0 + t) = J 166 (0 + t) from ((q_102).2.1 t ht.1 ht.2).1.1] at e7; exact e7)) (by omega)⟩⟩
    · refine tz_iconst (pc := 7) dX12_appliedBy_7 ?_
      exact tz_iret (pc := 8) (z := 0) dX12_appliedBy_8 rfl (Nat.le_of_ble_eq_true rfl) (Nat.le_of_ble_eq_true rfl) ⟨Nat.le_refl _, Nat.le_add_right _ _⟩ ⟨_, rfl, (by decide), ⟨m, g0, fun q9 => by omega, fun k β hβ hk => op_v hM ht hβ hk (by omega)⟩⟩

