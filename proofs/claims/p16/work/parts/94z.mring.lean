/-! ===== variablesIn, isRing of the reference, exact ===== -/
def vxR (J : zJ) (b d t i v : Int) : Prop := (J 166 (b + t) < 0 ∧ v = -1 - J 166 (b + t)) ∨ ∃ j, (0 ≤ j ∧ j < i) ∧ Occ J b d (J 167 (3 * (b + t) + j)) v
theorem vx_0 {J : zJ} {b d t : Int} (h : ¬ J 166 (b + t) < 0) : ∀ v, (0 ≤ v ∧ v < 8) → (bt 0 v ↔ vxR J b d t 0 v) := fun v hv => ⟨fun q => absurd q (bt_z hv), fun q => q.elim (fun q => absurd q.1 h) (fun ⟨j, hj, _⟩ => by omega)⟩
theorem vx_v {J : zJ} {b d t : Int} (h : J 166 (b + t) < 0) (h8 : -8 ≤ J 166 (b + t)) : ∀ v, (0 ≤ v ∧ v < 8) → (bt (zshl 1 (-1 - J 166 (b + t))) v ↔ vxR J b d t 0 v) := fun v hv => by
  rw [bt_shlI (by omega) hv]
  exact ⟨fun q => Or.inl ⟨h, q⟩, fun q => q.elim (fun q => q.2) (fun ⟨j, hj, _⟩ => by omega)⟩
theorem vx_s {J : zJ} {b d t i q z : Int} (hi : 0 ≤ i) (h : ∀ v, (0 ≤ v ∧ v < 8) → (bt q v ↔ vxR J b d t i v)) (hz : ∀ v, (0 ≤ v ∧ v < 8) → (bt z v ↔ Occ J b d (J 167 (3 * (b + t) + i)) v)) : ∀ v, (0 ≤ v ∧ v < 8) → (bt (zor q z) v ↔ vxR J b d t (i + 1) v) := fun v hv => by
  rw [bt_or, h v hv, hz v hv]
  unfold vxR
  rw [or_assoc]
  refine or_congr Iff.rfl ⟨fun q => q.elim (fun ⟨j, hj, o⟩ => ⟨j, by omega, o⟩) (fun o => ⟨i, by omega, o⟩), fun ⟨j, hj, o⟩ => ?_⟩
  by_cases e : j = i
  · subst e; exact Or.inr o
  · exact Or.inl ⟨j, by omega, o⟩
theorem vx_e {J : zJ} {b d t i q : Int} (h : ∀ v, (0 ≤ v ∧ v < 8) → (bt q v ↔ vxR J b d t i v)) (hi : i = mar J b d t) : ∀ v, (0 ≤ v ∧ v < 8) → (bt q v ↔ Occ J b d t v) := fun v hv => by
  rw [h v hv, Occ.iff, hi]
  exact Iff.rfl
set_option maxHeartbeats 4000000 in
set_option maxRecDepth 100000 in
theorem m_varsXR {l : Launch} {G : tb_G} (hl : l.stackTraces = false) (n : Nat) : ∀ (r9 : Nat) (J : zJ) (t : Int) (hr_t : -2147483648 ≤ t ∧ t < 2147483648) (b r d s m : Int) (hM : MS J b r d s m) (ht : 0 ≤ t ∧ t < m), ((J 168 (b + t)).toNat) < r9 → tz_Ok l G M_X12_variablesIn (3 + 1 * r9) 0 0 [.ref 164, zi t] n J (zqi (fun z J' => J = J' ∧ ∀ v, (0 ≤ v ∧ v < 8) → (bt z v ↔ Occ J b d t v))) zN := by
  intro r9
  induction r9 with
  | zero => intro J t hr_t b r d s m hM ht hm9; exact absurd hm9 (Nat.not_lt_zero _)
  | succ r9 ih =>
    intro J t hr_t b r d s m hM ht hm9
    refine tz_Ok.of hl (by decide +kernel) rfl (tb_c1 rfl) (Nat.le_of_ble_eq_true rfl) ?_
    show tz_At l G M_X12_variablesIn (tb_rm (3 + 1 * (r9 + 1)) 0 0) none (tb_ZM G 0 0 (zQ n 0 (zqi (fun z J' => J = J' ∧ ∀ v, (0 ≤ v ∧ v < 8) → (bt z v ↔ Occ J b d t v)))) (zX n 0 zN)) 0 0 n J 0 [some (.ref 164), some (zi t), none, none] []
    obtain ⟨hM1, hM2, hM3, hM4, hM5, hM6⟩ := id hM
    have hT := hM.told
    have ha := hM.ar ht
    refine tz_aload_n (pc := 0) dX12_variablesIn_0 rfl rfl ?_
    refine tz_iload_n (pc := 1) dX12_variablesIn_1 rfl rfl ?_
    refine tz_cV (pc := 2) (m_isVar hl n _ _ (by omega) b r d s m hM (by omega)) vl_X12_78 dX12_variablesIn_2 o_164 rfl rfl (Nat.le_of_ble_eq_true rfl) ⟨(show 1 + 1 ≤ 3 + 1 * (r9 + 1) by omega), (show 8 + (2 + 11) + 40 * (1) ≤ 40 * (3 + 1 * (r9 + 1)) by omega)⟩ rfl rfl (Nat.le_of_ble_eq_true rfl) (Nat.le_of_ble_eq_true rfl) (fun r9 J_2 hq9 => ?_)
    obtain ⟨z_2, rfl, hz_2, rfl, rfl⟩ := hq9
    by_cases hw_5 : J 166 (b + t) < 0
    · rw [show (if J 166 (b + t) < 0 then 1 else 0 : Int) = 1 from if_pos hw_5]
      refine tz_if_eqF (pc := 5) (tgt := 18) (by decide) dX12_variablesIn_5 (by decide) (by decide) ?_
      refine tz_iconst (pc := 8) dX12_variablesIn_8 ?_
      refine tz_aload_n (pc := 9) dX12_variablesIn_9 rfl rfl ?_
      refine tz_iload_n (pc := 10) dX12_variablesIn_10 rfl rfl ?_
      refine tz_cV (pc := 11) (m_varOf hl n _ _ (by omega) b r d s m hM (by omega)) vl_X12_123 dX12_variablesIn_11 o_164 rfl rfl (Nat.le_of_ble_eq_true rfl) ⟨(show 1 + 1 ≤ 3 + 1 * (r9 + 1) by omega), (show 8 + (2 + 11) + 40 * (1) ≤ 40 * (3 + 1 * (r9 + 1)) by omega)⟩ rfl rfl (Nat.le_of_ble_eq_true rfl) (Nat.le_of_ble_eq_true rfl) (fun r9 J_11 hq9 => ?_)
      obtain ⟨z_11, rfl, hz_11, rfl, rfl⟩ := hq9
      refine tz_ishl (pc := 14) (v := zshl 1 (-1 - J 166 (b + t))) dX12_variablesIn_14 rfl ?_
      have r_14 := zshl_rg 1 (-1 - J 166 (b + t))
      refine tz_goto (pc := 15) (tgt := 19) dX12_variablesIn_15 (by decide) ?_
      refine tz_istore_n (pc := 19) (L2 := [_, _, _, _]) dX12_variablesIn_19 rfl (by decide) rfl ?_
      refine tz_iconst (pc := 20) dX12_variablesIn_20 ?_
      refine tz_istore_n (pc := 21) (L2 := [_, _, _, _]) dX12_variablesIn_21 rfl (by decide) rfl ?_
      have loop22 : ∀ (f9 : Nat) (q : Int) (i : Int), ((3 - i).toNat) < f9 → (-2147483648 ≤ q ∧ q < 2147483648) → (0 ≤ i ∧ i ≤ mar J b d t) → (∀ v, (0 ≤ v ∧ v < 8) → (bt q v ↔ vxR J b d t i v)) → tz_At l G M_X12_variablesIn (tb_rm (3 + 1 * (r9 + 1)) 0 0) none (tb_ZM G 0 0 (zQ n 0 (zqi (fun z J' => J = J' ∧ ∀ v, (0 ≤ v ∧ v < 8) → (bt z v ↔ Occ J b d t v)))) (zX n 0 zN)) 0 0 n J 22 [some (.ref 164), some (zi t), some (zi q), some (zi i)] [] := by
        intro f9
        induction f9 with
        | zero => intro q i hm9; exact absurd hm9 (Nat.not_lt_zero _)
        | succ f9 ih22 =>
          intro q i hm22 hq hi h1
          refine tz_iload_n (pc := 22) dX12_variablesIn_22 rfl rfl ?_
          refine tz_aload_n (pc := 23) dX12_variablesIn_23 rfl rfl ?_
          refine tz_iload_n (pc := 24) dX12_variablesIn_24 rfl rfl ?_
          refine tz_cV (pc := 25) (m_arity hl n _ _ (by omega) b r d s m hM (by omega)) vl_X12_111 dX12_variablesIn_25 o_164 rfl rfl (Nat.le_of_ble_eq_true rfl) ⟨(show 2 + 1 ≤ 3 + 1 * (r9 + 1) by omega), (show 8 + (2 + 11) + 40 * (2) ≤ 40 * (3 + 1 * (r9 + 1)) by omega)⟩ rfl rfl (Nat.le_of_ble_eq_true rfl) (Nat.le_of_ble_eq_true rfl) (fun r9 J_25 hq9 => ?_)
          obtain ⟨z_25, rfl, hz_25, rfl, rfl⟩ := hq9
          refine tz_icmp_ge (pc := 28) (tgt := 50) dX12_variablesIn_28 (by decide) (by omega) (by omega) (fun h_28 => ?_) (fun h_28 => ?_)
          · refine tz_iload_n (pc := 50) dX12_variablesIn_50 rfl rfl ?_
            exact tz_iret (pc := 51) (z := q) dX12_variablesIn_51 rfl (Nat.le_of_ble_eq_true rfl) (Nat.le_of_ble_eq_true rfl) ⟨Nat.le_refl _, Nat.le_add_right _ _⟩ ⟨_, rfl, (by omega), ⟨rfl, vx_e h1 (by omega)⟩⟩
          · refine tz_iload_n (pc := 31) dX12_variablesIn_31 rfl rfl ?_
            refine tz_aload_n (pc := 32) dX12_variablesIn_32 rfl rfl ?_
            refine tz_aload_n (pc := 33) dX12_variablesIn_33 rfl rfl ?_
            refine tz_iload_n (pc := 34) dX12_variablesIn_34 rfl rfl ?_
            refine tz_iload_n (pc := 35) dX12_variablesIn_35 rfl rfl ?_
            refine tz_cV (pc := 36) (m_arg hl n _ _ _ (by omega) (by omega) b r d s m hM (by omega) (by omega)) vl_X12_88 dX12_variablesIn_36 o_164 rfl rfl (Nat.le_of_ble_eq_true rfl) ⟨(show 0 + 1 ≤ 3 + 1 * (r9 + 1) by omega), (show 8 + (3 + 11) + 40 * (0) ≤ 40 * (3 + 1 * (r9 + 1)) by omega)⟩ rfl rfl (Nat.le_of_ble_eq_true rfl) (Nat.le_of_ble_eq_true rfl) (fun r9 J_36 hq9 => ?_)
            obtain ⟨z_36, rfl, hz_36, rfl, rfl⟩ := hq9
            have hg := hM.arg (t := t) (i := i) ht (by omega)
            refine tz_cV (pc := 39) (ih _ _ (by omega) b r d s m hM (by omega) (by omega)) vl_X12_126 dX12_variablesIn_39 o_164 rfl rfl (Nat.le_of_ble_eq_true rfl) ⟨(show (3 + 1 * r9) + 1 ≤ 3 + 1 * (r9 + 1) by omega), (show 8 + (4 + 11) + 40 * ((3 + 1 * r9)) ≤ 40 * (3 + 1 * (r9 + 1)) by omega)⟩ rfl rfl (Nat.le_of_ble_eq_true rfl) (Nat.le_of_ble_eq_true rfl) (fun r9 J_39 hq9 => ?_)
            obtain ⟨z_39, rfl, hz_39, rfl, hz9⟩ := hq9
            refine tz_ior (pc := 42) (v := zor q z_39) dX12_variablesIn_42 rfl ?_
            have r_42 := zor_rg q z_39
            refine tz_istore_n (pc := 43) (L2 := [_, _, _, _]) dX12_variablesIn_43 rfl (by decide) rfl ?_
            refine tz_iinc (pc := 44) (z := i + 1) (L2 := [_, _, _, _]) dX12_variablesIn_44 rfl (by omega) rfl ?_
            refine tz_goto (pc := 47) (tgt := 22) dX12_variablesIn_47 (by decide) ?_
            exact ih22 _ (i + 1) (by omega) (by omega) (by omega) (vx_s (by omega) h1 hz9)
      exact loop22 _ _ 0 (Nat.lt_succ_self _) (zshl_rg _ _) (by omega) (vx_v (by omega) (by omega))
    · rw [show (if J 166 (b + t) < 0 then 1 else 0 : Int) = 0 from if_neg hw_5]
      refine tz_if_eqT (pc := 5) (tgt := 18) (by decide) dX12_variablesIn_5 (by decide) (by decide) ?_
      refine tz_iconst (pc := 18) dX12_variablesIn_18 ?_
      refine tz_istore_n (pc := 19) (L2 := [_, _, _, _]) dX12_variablesIn_19 rfl (by decide) rfl ?_
      refine tz_iconst (pc := 20) dX12_variablesIn_20 ?_
      refine tz_istore_n (pc := 21) (L2 := [_, _, _, _]) dX12_variablesIn_21 rfl (by decide) rfl ?_
      have loop22 : ∀ (f9 : Nat) (q : Int) (i : Int), ((3 - i).toNat) < f9 → (-2147483648 ≤ q ∧ q < 2147483648) → (0 ≤ i ∧ i ≤ mar J b d t) → (∀ v, (0 ≤ v ∧ v < 8) → (bt q v ↔ vxR J b d t i v)) → tz_At l G M_X12_variablesIn (tb_rm (3 + 1 * (r9 + 1)) 0 0) none (tb_ZM G 0 0 (zQ n 0 (zqi (fun z J' => J = J' ∧ ∀ v, (0 ≤ v ∧ v < 8) → (bt z v ↔ Occ J b d t v)))) (zX n 0 zN)) 0 0 n J 22 [some (.ref 164), some (zi t), some (zi q), some (zi i)] [] := by
        intro f9
        induction f9 with
        | zero => intro q i hm9; exact absurd hm9 (Nat.not_lt_zero _)
        | succ f9 ih22 =>
          intro q i hm22 hq hi h1
          refine tz_iload_n (pc := 22) dX12_variablesIn_22 rfl rfl ?_
          refine tz_aload_n (pc := 23) dX12_variablesIn_23 rfl rfl ?_
          refine tz_iload_n (pc := 24) dX12_variablesIn_24 rfl rfl ?_
          refine tz_cV (pc := 25) (m_arity hl n _ _ (by omega) b r d s m hM (by omega)) vl_X12_111 dX12_variablesIn_25 o_164 rfl rfl (Nat.le_of_ble_eq_true rfl) ⟨(show 2 + 1 ≤ 3 + 1 * (r9 + 1) by omega), (show 8 + (2 + 11) + 40 * (2) ≤ 40 * (3 + 1 * (r9 + 1)) by omega)⟩ rfl rfl (Nat.le_of_ble_eq_true rfl) (Nat.le_of_ble_eq_true rfl) (fun r9 J_25 hq9 => ?_)
          obtain ⟨z_25, rfl, hz_25, rfl, rfl⟩ := hq9
          refine tz_icmp_ge (pc := 28) (tgt := 50) dX12_variablesIn_28 (by decide) (by omega) (by omega) (fun h_28 => ?_) (fun h_28 => ?_)
          · refine tz_iload_n (pc := 50) dX12_variablesIn_50 rfl rfl ?_
            exact tz_iret (pc := 51) (z := q) dX12_variablesIn_51 rfl (Nat.le_of_ble_eq_true rfl) (Nat.le_of_ble_eq_true rfl) ⟨Nat.le_refl _, Nat.le_add_right _ _⟩ ⟨_, rfl, (by omega), ⟨rfl, vx_e h1 (by omega)⟩⟩
          · refine tz_iload_n (pc := 31) dX12_variablesIn_31 rfl rfl ?_
            refine tz_aload_n (pc := 32) dX12_variablesIn_32 rfl rfl ?_
            refine tz_aload_n (pc := 33) dX12_variablesIn_33 rfl rfl ?_
            refine tz_iload_n (pc := 34) dX12_variablesIn_34 rfl rfl ?_
            refine tz_iload_n (pc := 35) dX12_variablesIn_35 rfl rfl ?_
            refine tz_cV (pc := 36) (m_arg hl n _ _ _ (by omega) (by omega) b r d s m hM (by omega) (by omega)) vl_X12_88 dX12_variablesIn_36 o_164 rfl rfl (Nat.le_of_ble_eq_true rfl) ⟨(show 0 + 1 ≤ 3 + 1 * (r9 + 1) by omega), (show 8 + (3 + 11) + 40 * (0) ≤ 40 * (3 + 1 * (r9 + 1)) by omega)⟩ rfl rfl (Nat.le_of_ble_eq_true rfl) (Nat.le_of_ble_eq_true rfl) (fun r9 J_36 hq9 => ?_)
            obtain ⟨z_36, rfl, hz_36, rfl, rfl⟩ := hq9
            have hg := hM.arg (t := t) (i := i) ht (by omega)
            refine tz_cV (pc := 39) (ih _ _ (by omega) b r d s m hM (by omega) (by omega)) vl_X12_126 dX12_variablesIn_39 o_164 rfl rfl (Nat.le_of_ble_eq_true rfl) ⟨(show (3 + 1 * r9) + 1 ≤ 3 + 1 * (r9 + 1) by omega), (show 8 + (4 + 11) + 40 * ((3 + 1 * r9)) ≤ 40 * (3 + 1 * (r9 + 1)) by omega)⟩ rfl rfl (Nat.le_of_ble_eq_true rfl) (Nat.le_of_ble_eq_true rfl) (fun r9 J_39 hq9 => ?_)
            obtain ⟨z_39, rfl, hz_39, rfl, hz9⟩ := hq9
            refine tz_ior (pc := 42) (v := zor q z_39) dX12_variablesIn_42 rfl ?_
            have r_42 := zor_rg q z_39
            refine tz_istore_n (pc := 43) (L2 := [_, _, _, _]) dX12_variablesIn_43 rfl (by decide) rfl ?_
            refine tz_iinc (pc := 44) (z := i + 1) (L2 := [_, _, _, _]) dX12_variablesIn_44 rfl (by omega) rfl ?_
            refine tz_goto (pc := 47) (tgt := 22) dX12_variablesIn_47 (by decide) ?_
            exact ih22 _ (i + 1) (by omega) (by omega) (by omega) (vx_s (by omega) h1 hz9)
      exact loop22 _ _ 0 (Nat.lt_succ_self _) (by decide) (by omega) (vx_0 (by omega))

theorem m_varsX {l : Launch} {G : tb_G} (hl : l.stackTraces = false) (n : Nat) (J : zJ) (t : Int) (hr_t : -2147483648 ≤ t ∧ t < 2147483648) (b r d s m : Int) (hM : MS J b r d s m) (ht : 0 ≤ t ∧ t < m) : tz_Ok l G M_X12_variablesIn 10 0 0 [.ref 164, zi t] n J (zqi (fun z J' => J = J' ∧ ∀ v, (0 ≤ v ∧ v < 8) → (bt z v ↔ Occ J b d t v))) zN := m_varsXR hl n 7 J t hr_t b r d s m hM ht (by have := (hM.ar ht).2.2.1; omega)
theorem Occ.ci {J' J : zJ} {b d t v : Int} (f : zOf (zbut [176]) J' J) : Occ J' b d t v ↔ Occ J b d t v := ⟨fun ⟨k, o⟩ => ⟨k, (occ_cg (f 166 rfl) (f 167 rfl) (f 170 rfl) k t v).1 o⟩, fun o => o.cg f⟩
theorem EX.sd {J : zJ} {f2 f1 : Int → Int} {j i : Int} (h : EX f2 f1 j i) (hj : 0 ≤ j ∧ j < 8) (p : ∀ v u, (0 ≤ v ∧ v < 8) → (0 ≤ u ∧ u < 8) → bt (f1 v) u → SDb J (J 175) v u) : ∀ v u, (0 ≤ v ∧ v < 8) → (0 ≤ u ∧ u < 8) → bt (f2 v) u → SDb J (J 175) v u := fun v u hv hu q => by
  rcases (h v u hv).1 q with q | ⟨_, q1, q2⟩
  · exact p v u hv hu q
  · exact (p v j hv hj q1).tr (p j u hj hu q2)
theorem sd_s {J J1 : zJ} {k z : Int} (h : ∀ v u, (0 ≤ v ∧ v < k) → (0 ≤ u ∧ u < 8) → bt (J1 176 v) u → SDb J (J 175) v u) (hz : ∀ u, (0 ≤ u ∧ u < 8) → bt z u → SDb J (J 175) k u) : ∀ v u, (0 ≤ v ∧ v < k + 1) → (0 ≤ u ∧ u < 8) → bt (zup J1 176 k z 176 v) u → SDb J (J 175) v u := fun v u hv hu q => by
  have e : zup J1 176 k z 176 v = if v = k then z else J1 176 v := rfl
  rw [e] at q
  by_cases w : v = k
  · rw [if_pos w] at q
    rw [w]
    exact hz u hu q
  · rw [if_neg w] at q
    exact h v u (by omega) hu q
set_option maxHeartbeats 4000000 in
set_option maxRecDepth 100000 in
theorem o_ring {l : Launch} {G : tb_G} (hl : l.stackTraces = false) (n : Nat) (J : zJ) (t : Int) (hr_t : -2147483648 ≤ t ∧ t < 2147483648) (s m : Int) (hM : MS J 0 0 0 s m) (ht : 0 ≤ t ∧ t < m) (hy : gOK (J 175) m) : tz_Ok l G M_X12_isRing 11 0 0 [.ref 164, zi t] n J (zqi (fun z J' => zOf (zbut [176]) J' J ∧ (z = 0 ∨ z = 1) ∧ (z = 0 → NR J 0 0 t) ∧ (z = 1 → ¬ NR J 0 0 t))) zN := by
  refine tz_Ok.of hl (by decide +kernel) rfl (tb_c1 rfl) (Nat.le_of_ble_eq_true rfl) ?_
  show tz_At l G M_X12_isRing (tb_rm 11 0 0) none (tb_ZM G 0 0 (zQ n 0 (zqi (fun z J' => zOf (zbut [176]) J' J ∧ (z = 0 ∨ z = 1) ∧ (z = 0 → NR J 0 0 t) ∧ (z = 1 → ¬ NR J 0 0 t)))) (zX n 0 zN)) 0 0 n J 0 [some (.ref 164), some (zi t), none, none, none, none] []
  have hT := hM.told
  refine tz_iconst (pc := 0) dX12_isRing_0 ?_
  refine tz_istore_n (pc := 1) (L2 := [_, _, _, _, _, _]) dX12_isRing_1 rfl (by decide) rfl ?_
  refine tz_iconst (pc := 2) dX12_isRing_2 ?_
  refine tz_istore_n (pc := 3) (L2 := [_, _, _, _, _, _]) dX12_isRing_3 rfl (by decide) rfl ?_
  have loop4 : ∀ (f9 : Nat) (w : Int) (k : Int) (J1 : zJ), ((8 - k).toNat) < f9 → (-2147483648 ≤ w ∧ w < 2147483648) → (0 ≤ k ∧ k ≤ 8) → (zOf (zbut [176]) J1 J) → (NB J (J1 176) 0 0 k) → (∀ v, 0 ≤ v → v < k → ¬ J 175 v = -1 → bt w v) → (∀ v u, (0 ≤ v ∧ v < k) → (0 ≤ u ∧ u < 8) → bt (J1 176 v) u → SDb J (J 175) v u) → tz_At l G M_X12_isRing (tb_rm 11 0 0) none (tb_ZM G 0 0 (zQ n 0 (zqi (fun z J' => zOf (zbut [176]) J' J ∧ (z = 0 ∨ z = 1) ∧ (z = 0 → NR J 0 0 t) ∧ (z = 1 → ¬ NR J 0 0 t)))) (zX n 0 zN)) 0 0 n J1 4 [some (.ref 164), some (zi t), some (zi w), some (zi k), none, none] [] := by
    intro f9
    induction f9 with
    | zero => intro w k J1 hm9; exact absurd hm9 (Nat.not_lt_zero _)
    | succ f9 ih4 =>
      intro w k J1 hm4 hw hk f1 h1 h2 h6
      refine tz_iload_n (pc := 4) dX12_isRing_4 rfl rfl ?_
      refine tz_bipush (pc := 5) dX12_isRing_5 (by decide) ?_
      refine tz_icmp_ge (pc := 7) (tgt := 66) dX12_isRing_7 (by decide) (by omega) (by decide) (fun h_7 => ?_) (fun h_7 => ?_)
      · have hW : ∀ v, 0 ≤ v → v < 8 → ¬ J 175 v = -1 → bt w v := fun v a c => h2 v a (by omega)
        refine tz_iconst (pc := 66) dX12_isRing_66 ?_
        refine tz_istore_n (pc := 67) (L2 := [_, _, _, _, _, _]) dX12_isRing_67 rfl (by decide) rfl ?_
        have loop68 : ∀ (f9 : Nat) (j : Int) (d4 : Option Value) (J2 : zJ), ((8 - j).toNat) < f9 → (0 ≤ j ∧ j ≤ 8) → (zOf (zbut [176]) J2 J) → (NB J (J2 176) 0 0 8) → (TP (J2 176) j) → (∀ v u, (0 ≤ v ∧ v < 8) → (0 ≤ u ∧ u < 8) → bt (J2 176 v) u → SDb J (J 175) v u) → tz_At l G M_X12_isRing (tb_rm 11 0 0) none (tb_ZM G 0 0 (zQ n 0 (zqi (fun z J' => zOf (zbut [176]) J' J ∧ (z = 0 ∨ z = 1) ∧ (z = 0 → NR J 0 0 t) ∧ (z = 1 → ¬ NR J 0 0 t)))) (zX n 0 zN)) 0 0 n J2 68 [some (.ref 164), some (zi t), some (zi w), some (zi j), d4, none] [] := by
          intro f9
          induction f9 with
          | zero => intro j d4 J2 hm9; exact absurd hm9 (Nat.not_lt_zero _)
          | succ f9 ih68 =>
            intro j d4 J2 hm68 hj g1 p1 p2 p3
            refine tz_iload_n (pc := 68) dX12_isRing_68 rfl rfl ?_
            refine tz_bipush (pc := 69) dX12_isRing_69 (by decide) ?_
            refine tz_icmp_ge (pc := 71) (tgt := 127) dX12_isRing_71 (by decide) (by omega) (by decide) (fun h_71 => ?_) (fun h_71 => ?_)
            · have p8 : TP (J2 176) 8 := by have e : j = 8 := (by omega); subst e; exact p2
              refine tz_aload_n (pc := 127) dX12_isRing_127 rfl rfl ?_
              refine tz_iload_n (pc := 128) dX12_isRing_128 rfl rfl ?_
              refine tz_cV (pc := 129) (m_varsX hl n _ _ (by omega) 0 0 0 s m (hM.c176 g1) (by omega)) vl_X12_126 dX12_isRing_129 o_164 rfl rfl (Nat.le_of_ble_eq_true rfl) ⟨(Nat.le_of_ble_eq_true rfl), (Nat.le_of_ble_eq_true rfl)⟩ rfl rfl (Nat.le_of_ble_eq_true rfl) (Nat.le_of_ble_eq_true rfl) (fun r9 J_129 hq9 => ?_)
              obtain ⟨z_129, rfl, hz_129, rfl, hx_129⟩ := hq9
              have ho_129 : ∀ v, (0 ≤ v ∧ v < 8) → (bt z_129 v ↔ Occ J 0 0 t v) := fun v hv => by rw [hx_129 v hv, Occ.ci g1]
              refine tz_istore_n (pc := 132) (L2 := [_, _, _, _, _, _]) dX12_isRing_132 rfl (by decide) rfl ?_
              refine tz_iload_n (pc := 133) dX12_isRing_133 rfl rfl ?_
              refine tz_istore (pc := 134) (L2 := [_, _, _, _, _, _]) dX12_isRing_134 (by decide) rfl ?_
              refine tz_iconst (pc := 136) dX12_isRing_136 ?_
              refine tz_istore (pc := 137) (L2 := [_, _, _, _, _, _]) dX12_isRing_137 (by decide) rfl ?_
              have loop139 : ∀ (f9 : Nat) (x : Int) (k : Int), ((8 - k).toNat) < f9 → (-2147483648 ≤ x ∧ x < 2147483648) → (0 ≤ k ∧ k ≤ 8) → (∀ u, bt z_129 u → bt x u) → (∀ v u, 0 ≤ v → v < k → bt z_129 v → bt (J2 176 v) u → bt x u) → (∀ u, (0 ≤ u ∧ u < 8) → bt x u → RTb J (J 175) t u) → tz_At l G M_X12_isRing (tb_rm 11 0 0) none (tb_ZM G 0 0 (zQ n 0 (zqi (fun z J' => zOf (zbut [176]) J' J ∧ (z = 0 ∨ z = 1) ∧ (z = 0 → NR J 0 0 t) ∧ (z = 1 → ¬ NR J 0 0 t)))) (zX n 0 zN)) 0 0 n J2 139 [some (.ref 164), some (zi t), some (zi w), some (zi x), some (zi z_129), some (zi k)] [] := by
                intro f9
                induction f9 with
                | zero => intro x k hm9; exact absurd hm9 (Nat.not_lt_zero _)
                | succ f9 ih139 =>
                  intro x k hm139 hx hk h3 h4 h7
                  refine tz_iload (pc := 139) dX12_isRing_139 rfl ?_
                  refine tz_bipush (pc := 141) dX12_isRing_141 (by decide) ?_
                  refine tz_icmp_ge (pc := 143) (tgt := 173) dX12_isRing_143 (by decide) (by omega) (by decide) (fun h_143 => ?_) (fun h_143 => ?_)
                  · have h4e : ∀ v u, 0 ≤ v → v < 8 → bt z_129 v → bt (J2 176 v) u → bt x u := fun v u a c => h4 v u a (by omega)
                    refine tz_iconst (pc := 173) dX12_isRing_173 ?_
                    refine tz_istore (pc := 174) (L2 := [_, _, _, _, _, _]) dX12_isRing_174 (by decide) rfl ?_
                    have loop176 : ∀ (f9 : Nat) (k : Int), ((8 - k).toNat) < f9 → (0 ≤ k ∧ k ≤ 8) → (∀ v, 0 ≤ v → v < k → ¬ (bt x v ∧ bt w v ∧ bt (J2 176 v) v)) → tz_At l G M_X12_isRing (tb_rm 11 0 0) none (tb_ZM G 0 0 (zQ n 0 (zqi (fun z J' => zOf (zbut [176]) J' J ∧ (z = 0 ∨ z = 1) ∧ (z = 0 → NR J 0 0 t) ∧ (z = 1 → ¬ NR J 0 0 t)))) (zX n 0 zN)) 0 0 n J2 176 [some (.ref 164), some (zi t), some (zi w), some (zi x), some (zi z_129), some (zi k)] [] := by
                      intro f9
                      induction f9 with
                      | zero => intro k hm9; exact absurd hm9 (Nat.not_lt_zero _)
                      | succ f9 ih176 =>
                        intro k hm176 hk h5
                        refine tz_iload (pc := 176) dX12_isRing_176 rfl ?_
                        refine tz_bipush (pc := 178) dX12_isRing_178 (by decide) ?_
                        refine tz_icmp_ge (pc := 180) (tgt := 217) dX12_isRing_180 (by decide) (by omega) (by decide) (fun h_180 => ?_) (fun h_180 => ?_)
                        · refine tz_iconst (pc := 217) dX12_isRing_217 ?_
                          exact tz_zret (pc := 218) (z := 0) dX12_isRing_218 rfl (Or.inl rfl) (Nat.le_of_ble_eq_true rfl) (Nat.le_of_ble_eq_true rfl) ⟨Nat.le_refl _, Nat.le_add_right _ _⟩ ⟨_, rfl, (by decide), ⟨g1, Or.inl rfl, fun _ => nr_mk hM hy p1 hW p8 (fun v o => (ho_129 v (o.rg hM ht)).2 o) h3 h4e (fun v a c => h5 v a (by omega)), fun q => absurd q (by decide)⟩⟩
                        · refine tz_iload_n (pc := 183) dX12_isRing_183 rfl rfl ?_
                          refine tz_iload (pc := 184) dX12_isRing_184 rfl ?_
                          refine tz_ishr (pc := 186) (v := zshr x k) dX12_isRing_186 rfl ?_
                          refine tz_iload_n (pc := 187) dX12_isRing_187 rfl rfl ?_
                          refine tz_iload (pc := 188) dX12_isRing_188 rfl ?_
                          refine tz_ishr (pc := 190) (v := zshr w k) dX12_isRing_190 rfl ?_
                          refine tz_iand (pc := 191) (v := zand (zshr x k) (zshr w k)) dX12_isRing_191 rfl ?_
                          refine tz_aload_n (pc := 192) dX12_isRing_192 rfl rfl ?_
                          refine tz_fR (pc := 193) dX12_isRing_193 fl_X12_47 r_164_24 ?_
                          refine tz_iload (pc := 196) dX12_isRing_196 rfl ?_
                          refine tz_aL (pc := 198) (z := k) (v := (J2 176 k)) dX12_isRing_198 a_176 rfl (by omega) rfl (fun r_198 => ?_)
                          refine tz_iload (pc := 199) dX12_isRing_199 rfl ?_
                          refine tz_ishr (pc := 201) (v := zshr (J2 176 k) k) dX12_isRing_201 rfl ?_
                          refine tz_iand (pc := 202) (v := zand (zand (zshr x k) (zshr w k)) (zshr (J2 176 k) k)) dX12_isRing_202 rfl ?_
                          refine tz_iconst (pc := 203) dX12_isRing_203 ?_
                          refine tz_iand (pc := 204) (v := zand (zand (zand (zshr x k) (zshr w k)) (zshr (J2 176 k) k)) 1) dX12_isRing_204 rfl ?_
                          refine tz_iconst (pc := 205) dX12_isRing_205 ?_
                          refine tz_icmp_ne (pc := 206) (tgt := 211) dX12_isRing_206 (by decide) (zand_rg _ _) (by decide) (fun h_206 => ?_) (fun h_206 => ?_)
                          · refine tz_iinc (pc := 211) (z := k + 1) (L2 := [_, _, _, _, _, _]) dX12_isRing_211 rfl (by omega) rfl ?_
                            refine tz_goto (pc := 214) (tgt := 176) dX12_isRing_214 (by decide) ?_
                            exact ih176 (k + 1) (by omega) (by omega) (rg_s h5 (fun q => h_206 (bt_and3 q.1 q.2.1 q.2.2)))
                          · refine tz_iconst (pc := 209) dX12_isRing_209 ?_
                            exact tz_zret (pc := 210) (z := 1) dX12_isRing_210 rfl (Or.inr rfl) (Nat.le_of_ble_eq_true rfl) (Nat.le_of_ble_eq_true rfl) ⟨Nat.le_refl _, Nat.le_add_right _ _⟩ ⟨_, rfl, (by decide), ⟨g1, Or.inr rfl, fun q => absurd q (by decide), fun _ => RTb.no (h7 k (by omega) (bt_and3r h_206).1) (p3 k k (by omega) (by omega) (bt_and3r h_206).2.2)⟩⟩
                    exact loop176 _ 0 (Nat.lt_succ_self _) (by omega) (fun v a c => by omega)
                  · refine tz_iload (pc := 146) dX12_isRing_146 rfl ?_
                    refine tz_iload (pc := 148) dX12_isRing_148 rfl ?_
                    refine tz_ishr (pc := 150) (v := zshr z_129 k) dX12_isRing_150 rfl ?_
                    refine tz_iconst (pc := 151) dX12_isRing_151 ?_
                    refine tz_iand (pc := 152) (v := zand (zshr z_129 k) 1) dX12_isRing_152 rfl ?_
                    refine tz_iconst (pc := 153) dX12_isRing_153 ?_
                    refine tz_icmp_ne (pc := 154) (tgt := 167) dX12_isRing_154 (by decide) (zand_rg _ _) (by decide) (fun h_154 => ?_) (fun h_154 => ?_)
                    · refine tz_iinc (pc := 167) (z := k + 1) (L2 := [_, _, _, _, _, _]) dX12_isRing_167 rfl (by omega) rfl ?_
                      refine tz_goto (pc := 170) (tgt := 139) dX12_isRing_170 (by decide) ?_
                      exact ih139 _ (k + 1) (by omega) (by omega) (by omega) h3 (sn_s h4 (fun u q => q) (fun u q => absurd q h_154)) h7
                    · refine tz_iload_n (pc := 157) dX12_isRing_157 rfl rfl ?_
                      refine tz_aload_n (pc := 158) dX12_isRing_158 rfl rfl ?_
                      refine tz_fR (pc := 159) dX12_isRing_159 fl_X12_47 r_164_24 ?_
                      refine tz_iload (pc := 162) dX12_isRing_162 rfl ?_
                      refine tz_aL (pc := 164) (z := k) (v := (J2 176 k)) dX12_isRing_164 a_176 rfl (by omega) rfl (fun r_164 => ?_)
                      refine tz_ior (pc := 165) (v := zor x (J2 176 k)) dX12_isRing_165 rfl ?_
                      refine tz_istore_n (pc := 166) (L2 := [_, _, _, _, _, _]) dX12_isRing_166 rfl (by decide) rfl ?_
                      refine tz_iinc (pc := 167) (z := k + 1) (L2 := [_, _, _, _, _, _]) dX12_isRing_167 rfl (by omega) rfl ?_
                      refine tz_goto (pc := 170) (tgt := 139) dX12_isRing_170 (by decide) ?_
                      exact ih139 _ (k + 1) (by omega) (zor_rg _ _) (by omega) (fun u q => bt_or.2 (Or.inl (h3 u q))) (sn_s h4 (fun u q => bt_or.2 (Or.inl q)) (fun u _ q => bt_or.2 (Or.inr q))) (fun u hu q => (bt_or.1 q).elim (h7 u hu) (fun q => Or.inr ⟨k, (ho_129 k (by omega)).1 h_154, p3 k u (by omega) hu q⟩))
              exact loop139 _ _ 0 (Nat.lt_succ_self _) (by omega) (by omega) (fun u q => q) (fun v u a c => by omega) (fun u hu q => Or.inl ((ho_129 u hu).1 q))
            · refine tz_iconst (pc := 74) dX12_isRing_74 ?_
              refine tz_istore (pc := 75) (L2 := [_, _, _, _, _, _]) dX12_isRing_75 (by decide) rfl ?_
              have loop77 : ∀ (f9 : Nat) (i : Int) (J3 : zJ), ((8 - i).toNat) < f9 → (0 ≤ i ∧ i ≤ 8) → (zOf (zbut [176]) J3 J) → (EX (J3 176) (J2 176) j i) → tz_At l G M_X12_isRing (tb_rm 11 0 0) none (tb_ZM G 0 0 (zQ n 0 (zqi (fun z J' => zOf (zbut [176]) J' J ∧ (z = 0 ∨ z = 1) ∧ (z = 0 → NR J 0 0 t) ∧ (z = 1 → ¬ NR J 0 0 t)))) (zX n 0 zN)) 0 0 n J3 77 [some (.ref 164), some (zi t), some (zi w), some (zi j), some (zi i), none] [] := by
                intro f9
                induction f9 with
                | zero => intro i J3 hm9; exact absurd hm9 (Nat.not_lt_zero _)
                | succ f9 ih77 =>
                  intro i J3 hm77 hi f2 e2
                  have hj : 0 ≤ j ∧ j < 8 := by omega
                  refine tz_iload (pc := 77) dX12_isRing_77 rfl ?_
                  refine tz_bipush (pc := 79) dX12_isRing_79 (by decide) ?_
                  refine tz_icmp_ge (pc := 81) (tgt := 121) dX12_isRing_81 (by decide) (by omega) (by decide) (fun h_81 => ?_) (fun h_81 => ?_)
                  · have e8 : EX (J3 176) (J2 176) j 8 := by have e : i = 8 := (by omega); subst e; exact e2
                    refine tz_iinc (pc := 121) (z := j + 1) (L2 := [_, _, _, _, _, _]) dX12_isRing_121 rfl (by omega) rfl ?_
                    refine tz_goto (pc := 124) (tgt := 68) dX12_isRing_124 (by decide) ?_
                    exact ih68 (j + 1) _ _ (by omega) (by omega) f2 (fun v a c q u o => e8.mo ⟨a, c⟩ (p1 v a c q u o)) (e8.e hj p2) (e8.sd hj p3)
                  · refine tz_aload_n (pc := 84) dX12_isRing_84 rfl rfl ?_
                    refine tz_fR (pc := 85) dX12_isRing_85 fl_X12_47 r_164_24 ?_
                    refine tz_iload (pc := 88) dX12_isRing_88 rfl ?_
                    refine tz_aL (pc := 90) (z := i) (v := (J3 176 i)) dX12_isRing_90 a_176 rfl (by omega) rfl (fun r_90 => ?_)
                    refine tz_iload_n (pc := 91) dX12_isRing_91 rfl rfl ?_
                    refine tz_ishr (pc := 92) (v := zshr (J3 176 i) j) dX12_isRing_92 rfl ?_
                    refine tz_iconst (pc := 93) dX12_isRing_93 ?_
                    refine tz_iand (pc := 94) (v := zand (zshr (J3 176 i) j) 1) dX12_isRing_94 rfl ?_
                    refine tz_iconst (pc := 95) dX12_isRing_95 ?_
                    refine tz_icmp_ne (pc := 96) (tgt := 115) dX12_isRing_96 (by decide) (zand_rg _ _) (by decide) (fun h_96 => ?_) (fun h_96 => ?_)
                    · refine tz_iinc (pc := 115) (z := i + 1) (L2 := [_, _, _, _, _, _]) dX12_isRing_115 rfl (by omega) rfl ?_
                      refine tz_goto (pc := 118) (tgt := 77) dX12_isRing_118 (by decide) ?_
                      exact ih77 (i + 1) _ (by omega) (by omega) f2 (e2.st hj (by omega) (fun v hv => rfl) (Or.inr ⟨h_96, rfl⟩))
                    · refine tz_aload_n (pc := 99) dX12_isRing_99 rfl rfl ?_
                      refine tz_fR (pc := 100) dX12_isRing_100 fl_X12_47 r_164_24 ?_
                      refine tz_iload (pc := 103) dX12_isRing_103 rfl ?_
                      refine tz_dup2 (pc := 105) dX12_isRing_105 rfl rfl ?_
                      refine tz_aL (pc := 106) (z := i) (v := (J3 176 i)) dX12_isRing_106 a_176 rfl (by omega) rfl (fun r_106 => ?_)
                      refine tz_aload_n (pc := 107) dX12_isRing_107 rfl rfl ?_
                      refine tz_fR (pc := 108) dX12_isRing_108 fl_X12_47 r_164_24 ?_
                      refine tz_iload_n (pc := 111) dX12_isRing_111 rfl rfl ?_
                      refine tz_aL (pc := 112) (z := j) (v := (J3 176 j)) dX12_isRing_112 a_176 rfl (by omega) rfl (fun r_112 => ?_)
                      refine tz_ior (pc := 113) (v := zor (J3 176 i) (J3 176 j)) dX12_isRing_113 rfl ?_
                      refine tz_aS (pc := 114) (z := i) dX12_isRing_114 a_176 rfl (by omega) (zor_rg _ _) ?_
                      refine tz_iinc (pc := 115) (z := i + 1) (L2 := [_, _, _, _, _, _]) dX12_isRing_115 rfl (by omega) rfl ?_
                      refine tz_goto (pc := 118) (tgt := 77) dX12_isRing_118 (by decide) ?_
                      exact ih77 (i + 1) _ (by omega) (by omega) (zOf.up rfl f2) (e2.st hj (by omega) (fun v hv => zup_ne hv) (Or.inl ⟨h_96, zup_at⟩))
              exact loop77 _ 0 _ (Nat.lt_succ_self _) (by omega) g1 EX.z
        exact loop68 _ 0 none _ (Nat.lt_succ_self _) (by omega) f1 (fun v a c => h1 v a (by omega)) (fun i v u hi => by omega) (fun v u hv => h6 v u (by omega))
      · refine tz_aload_n (pc := 10) dX12_isRing_10 rfl rfl ?_
        refine tz_fR (pc := 11) dX12_isRing_11 fl_X12_47 r_164_24 ?_
        refine tz_iload_n (pc := 14) dX12_isRing_14 rfl rfl ?_
        refine tz_aload_n (pc := 15) dX12_isRing_15 rfl rfl ?_
        refine tz_fR (pc := 16) dX12_isRing_16 fl_X12_44 r_164_23 ?_
        refine tz_iload_n (pc := 19) dX12_isRing_19 rfl rfl ?_
        refine tz_aL (pc := 20) (z := k) (v := (J 175 k)) dX12_isRing_20 a_175 rfl (by omega) (Eq.trans (congrFun (f1 175 rfl) k) rfl) (fun r_20 => ?_)
        refine tz_iconst (pc := 21) dX12_isRing_21 ?_
        have hv8 := hy k (by omega) (by omega)
        refine tz_icmp_ne (pc := 22) (tgt := 29) dX12_isRing_22 (by decide) (by omega) (by decide) (fun h_22 => ?_) (fun h_22 => ?_)
        · refine tz_aload_n (pc := 29) dX12_isRing_29 rfl rfl ?_
          refine tz_aload_n (pc := 30) dX12_isRing_30 rfl rfl ?_
          refine tz_fR (pc := 31) dX12_isRing_31 fl_X12_44 r_164_23 ?_
          refine tz_iload_n (pc := 34) dX12_isRing_34 rfl rfl ?_
          refine tz_aL (pc := 35) (z := k) (v := (J 175 k)) dX12_isRing_35 a_175 rfl (by omega) (Eq.trans (congrFun (f1 175 rfl) k) rfl) (fun r_35 => ?_)
          have hv9 := hy k (by omega) (by omega)
          refine tz_cV (pc := 36) (m_varsX hl n _ _ (by omega) 0 0 0 s m (hM.c176 f1) (by omega)) vl_X12_126 dX12_isRing_36 o_164 rfl rfl (Nat.le_of_ble_eq_true rfl) ⟨(Nat.le_of_ble_eq_true rfl), (Nat.le_of_ble_eq_true rfl)⟩ rfl rfl (Nat.le_of_ble_eq_true rfl) (Nat.le_of_ble_eq_true rfl) (fun r9 J_36 hq9 => ?_)
          obtain ⟨z_36, rfl, hz_36, rfl, hx_36⟩ := hq9
          have ho_36 : ∀ v, (0 ≤ v ∧ v < 8) → (bt z_36 v ↔ Occ J 0 0 (J 175 k) v) := fun v hv => by have q9 := hx_36 v hv; rw [Occ.ci f1] at q9; exact q9
          refine tz_aS (pc := 39) (z := k) dX12_isRing_39 a_176 rfl (by omega) (by omega) ?_
          refine tz_iload_n (pc := 40) dX12_isRing_40 rfl rfl ?_
          refine tz_aload_n (pc := 41) dX12_isRing_41 rfl rfl ?_
          refine tz_fR (pc := 42) dX12_isRing_42 fl_X12_44 r_164_23 ?_
          refine tz_iload_n (pc := 45) dX12_isRing_45 rfl rfl ?_
          refine tz_aL (pc := 46) (z := k) (v := (J 175 k)) dX12_isRing_46 a_175 rfl (by omega) (Eq.trans (congrFun (f1 175 rfl) k) rfl) (fun r_46 => ?_)
          refine tz_iconst (pc := 47) dX12_isRing_47 ?_
          refine tz_icmp_ne (pc := 48) (tgt := 55) dX12_isRing_48 (by decide) (by omega) (by decide) (fun h_48 => ?_) (fun h_48 => ?_)
          · refine tz_iconst (pc := 55) dX12_isRing_55 ?_
            refine tz_iload_n (pc := 56) dX12_isRing_56 rfl rfl ?_
            refine tz_ishl (pc := 57) (v := zshl 1 k) dX12_isRing_57 rfl ?_
            have r_57 := zshl_rg 1 k
            refine tz_ior (pc := 58) (v := zor w (zshl 1 k)) dX12_isRing_58 rfl ?_
            refine tz_istore_n (pc := 59) (L2 := [_, _, _, _, _, _]) dX12_isRing_59 rfl (by decide) rfl ?_
            refine tz_iinc (pc := 60) (z := k + 1) (L2 := [_, _, _, _, _, _]) dX12_isRing_60 rfl (by omega) rfl ?_
            refine tz_goto (pc := 63) (tgt := 4) dX12_isRing_63 (by decide) ?_
            exact ih4 _ (k + 1) _ (by omega) (zor_rg _ _) (by omega) (zOf.up rfl f1) (nb_s h1 (fun _ u o => (ho_36 u (o.rg hM (by omega))).2 o)) (wb_s h2 (fun _ => bt_shl (by omega))) (sd_s h6 (fun u hu q => SDb.b (by omega) (by omega) ((ho_36 u hu).1 q)))
          · refine tz_iconst (pc := 51) dX12_isRing_51 ?_
            refine tz_goto (pc := 52) (tgt := 58) dX12_isRing_52 (by decide) ?_
            refine tz_ior (pc := 58) (v := zor w 0) dX12_isRing_58 rfl ?_
            refine tz_istore_n (pc := 59) (L2 := [_, _, _, _, _, _]) dX12_isRing_59 rfl (by decide) rfl ?_
            refine tz_iinc (pc := 60) (z := k + 1) (L2 := [_, _, _, _, _, _]) dX12_isRing_60 rfl (by omega) rfl ?_
            refine tz_goto (pc := 63) (tgt := 4) dX12_isRing_63 (by decide) ?_
            exact ih4 _ (k + 1) _ (by omega) (zor_rg _ _) (by omega) (zOf.up rfl f1) (nb_s h1 (fun _ u o => (ho_36 u (o.rg hM (by omega))).2 o)) (wb_s h2 (fun q => absurd (show J 175 k = -1 by omega) q)) (sd_s h6 (fun u hu q => SDb.b (by omega) (by omega) ((ho_36 u hu).1 q)))
        · refine tz_iconst (pc := 25) dX12_isRing_25 ?_
          refine tz_goto (pc := 26) (tgt := 39) dX12_isRing_26 (by decide) ?_
          refine tz_aS (pc := 39) (z := k) dX12_isRing_39 a_176 rfl (by omega) (by decide) ?_
          refine tz_iload_n (pc := 40) dX12_isRing_40 rfl rfl ?_
          refine tz_aload_n (pc := 41) dX12_isRing_41 rfl rfl ?_
          refine tz_fR (pc := 42) dX12_isRing_42 fl_X12_44 r_164_23 ?_
          refine tz_iload_n (pc := 45) dX12_isRing_45 rfl rfl ?_
          refine tz_aL (pc := 46) (z := k) (v := (J 175 k)) dX12_isRing_46 a_175 rfl (by omega) (Eq.trans (congrFun (f1 175 rfl) k) rfl) (fun r_46 => ?_)
          refine tz_iconst (pc := 47) dX12_isRing_47 ?_
          refine tz_icmp_ne (pc := 48) (tgt := 55) dX12_isRing_48 (by decide) (by omega) (by decide) (fun h_48 => ?_) (fun h_48 => ?_)
          · refine tz_iconst (pc := 55) dX12_isRing_55 ?_
            refine tz_iload_n (pc := 56) dX12_isRing_56 rfl rfl ?_
            refine tz_ishl (pc := 57) (v := zshl 1 k) dX12_isRing_57 rfl ?_
            have r_57 := zshl_rg 1 k
            refine tz_ior (pc := 58) (v := zor w (zshl 1 k)) dX12_isRing_58 rfl ?_
            refine tz_istore_n (pc := 59) (L2 := [_, _, _, _, _, _]) dX12_isRing_59 rfl (by decide) rfl ?_
            refine tz_iinc (pc := 60) (z := k + 1) (L2 := [_, _, _, _, _, _]) dX12_isRing_60 rfl (by omega) rfl ?_
            refine tz_goto (pc := 63) (tgt := 4) dX12_isRing_63 (by decide) ?_
            exact ih4 _ (k + 1) _ (by omega) (zor_rg _ _) (by omega) (zOf.up rfl f1) (nb_s h1 (fun q => absurd (show J 175 k = -1 by omega) q)) (wb_s h2 (fun _ => bt_shl (by omega))) (sd_s h6 (fun u hu q => absurd q (bt_z hu)))
          · refine tz_iconst (pc := 51) dX12_isRing_51 ?_
            refine tz_goto (pc := 52) (tgt := 58) dX12_isRing_52 (by decide) ?_
            refine tz_ior (pc := 58) (v := zor w 0) dX12_isRing_58 rfl ?_
            refine tz_istore_n (pc := 59) (L2 := [_, _, _, _, _, _]) dX12_isRing_59 rfl (by decide) rfl ?_
            refine tz_iinc (pc := 60) (z := k + 1) (L2 := [_, _, _, _, _, _]) dX12_isRing_60 rfl (by omega) rfl ?_
            refine tz_goto (pc := 63) (tgt := 4) dX12_isRing_63 (by decide) ?_
            exact ih4 _ (k + 1) _ (by omega) (zor_rg _ _) (by omega) (zOf.up rfl f1) (nb_s h1 (fun q => absurd (show J 175 k = -1 by omega) q)) (wb_s h2 (fun q => absurd (show J 175 k = -1 by omega) q)) (sd_s h6 (fun u hu q => absurd q (bt_z hu)))
  exact loop4 _ 0 0 _ (Nat.lt_succ_self _) (by decide) (by omega) zOf.rf (fun v a c => by omega) (fun v a c => by omega) (fun v u hv => by omega)

