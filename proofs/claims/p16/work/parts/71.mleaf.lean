set_option maxHeartbeats 4000000 in
set_option maxRecDepth 100000 in
theorem m_head {l : Launch} {G : tb_G} (hl : l.stackTraces = false) (n : Nat) (J : zJ) (t : Int) (hr_t : -2147483648 ≤ t ∧ t < 2147483648) (b r d s m : Int) (hM : MS J b r d s m) (ht : 0 ≤ t ∧ t < m) : tz_Ok l G M_X12_head 0 0 0 [.ref 164, zi t] n J (zqi (fun z J' => J = J' ∧ J 166 (b + t) = z)) zN := by
  refine tz_Ok.of hl (by decide +kernel) rfl (tb_c1 rfl) (Nat.le_of_ble_eq_true rfl) ?_
  show tz_At l G M_X12_head (tb_rm 0 0 0) none (tb_ZM G 0 0 (zQ n 0 (zqi (fun z J' => J = J' ∧ J 166 (b + t) = z))) (zX n 0 zN)) 0 0 n J 0 [some (.ref 164), some (zi t)] []
  obtain ⟨hM1, hM2, hM3, hM4, hM5, hM6⟩ := id hM
  have hT := hM.told
  refine tz_aload_n (pc := 0) dX12_head_0 rfl rfl ?_
  refine tz_fR (pc := 1) dX12_head_1 fl_X12_13 r_164_1 ?_
  refine tz_aload_n (pc := 4) dX12_head_4 rfl rfl ?_
  refine tz_fI (pc := 5) (kz := 15) (v := b) dX12_head_5 fl_X12_71 i_164_15 rfl hM2 (fun r_5 => ?_)
  refine tz_iload_n (pc := 8) dX12_head_8 rfl rfl ?_
  refine tz_iadd (pc := 9) (v := b + t) dX12_head_9 rfl ?_
  refine tz_aL (pc := 10) (z := (b + t)) (v := (J 166 (b + t))) dX12_head_10 a_166 rfl (by omega) rfl (fun r_10 => ?_)
  exact tz_iret (pc := 11) (z := (J 166 (b + t))) dX12_head_11 rfl (Nat.le_of_ble_eq_true rfl) (Nat.le_of_ble_eq_true rfl) ⟨Nat.le_refl _, Nat.le_add_right _ _⟩ ⟨_, rfl, (by omega), ⟨rfl, rfl⟩⟩

set_option maxHeartbeats 4000000 in
set_option maxRecDepth 100000 in
theorem m_arg {l : Launch} {G : tb_G} (hl : l.stackTraces = false) (n : Nat) (J : zJ) (t : Int) (i : Int) (hr_t : -2147483648 ≤ t ∧ t < 2147483648) (hr_i : -2147483648 ≤ i ∧ i < 2147483648) (b r d s m : Int) (hM : MS J b r d s m) (ht : 0 ≤ t ∧ t < m) (hi : 0 ≤ i ∧ i < 3) : tz_Ok l G M_X12_argument1 0 0 0 [.ref 164, zi t, zi i] n J (zqi (fun z J' => J = J' ∧ J 167 (3 * (b + t) + i) = z)) zN := by
  refine tz_Ok.of hl (by decide +kernel) rfl (tb_c1 rfl) (Nat.le_of_ble_eq_true rfl) ?_
  show tz_At l G M_X12_argument1 (tb_rm 0 0 0) none (tb_ZM G 0 0 (zQ n 0 (zqi (fun z J' => J = J' ∧ J 167 (3 * (b + t) + i) = z))) (zX n 0 zN)) 0 0 n J 0 [some (.ref 164), some (zi t), some (zi i)] []
  obtain ⟨hM1, hM2, hM3, hM4, hM5, hM6⟩ := id hM
  have hT := hM.told
  refine tz_aload_n (pc := 0) dX12_argument1_0 rfl rfl ?_
  refine tz_fR (pc := 1) dX12_argument1_1 fl_X12_16 r_164_2 ?_
  refine tz_iconst (pc := 4) dX12_argument1_4 ?_
  refine tz_aload_n (pc := 5) dX12_argument1_5 rfl rfl ?_
  refine tz_fI (pc := 6) (kz := 15) (v := b) dX12_argument1_6 fl_X12_71 i_164_15 rfl hM2 (fun r_6 => ?_)
  refine tz_iload_n (pc := 9) dX12_argument1_9 rfl rfl ?_
  refine tz_iadd (pc := 10) (v := b + t) dX12_argument1_10 rfl ?_
  refine tz_imul (pc := 11) (v := 3 * (b + t)) dX12_argument1_11 rfl ?_
  refine tz_iload_n (pc := 12) dX12_argument1_12 rfl rfl ?_
  refine tz_iadd (pc := 13) (v := (3 * (b + t)) + i) dX12_argument1_13 rfl ?_
  refine tz_aL (pc := 14) (z := ((3 * (b + t)) + i)) (v := (J 167 ((3 * (b + t)) + i))) dX12_argument1_14 a_167 rfl (by omega) rfl (fun r_14 => ?_)
  exact tz_iret (pc := 15) (z := (J 167 ((3 * (b + t)) + i))) dX12_argument1_15 rfl (Nat.le_of_ble_eq_true rfl) (Nat.le_of_ble_eq_true rfl) ⟨Nat.le_refl _, Nat.le_add_right _ _⟩ ⟨_, rfl, (by omega), ⟨rfl, rfl⟩⟩

set_option maxHeartbeats 4000000 in
set_option maxRecDepth 100000 in
theorem m_isVar {l : Launch} {G : tb_G} (hl : l.stackTraces = false) (n : Nat) (J : zJ) (t : Int) (hr_t : -2147483648 ≤ t ∧ t < 2147483648) (b r d s m : Int) (hM : MS J b r d s m) (ht : 0 ≤ t ∧ t < m) : tz_Ok l G M_X12_isVariable 1 0 0 [.ref 164, zi t] n J (zqi (fun z J' => J = J' ∧ (if J 166 (b + t) < 0 then 1 else 0) = z)) zN := by
  refine tz_Ok.of hl (by decide +kernel) rfl (tb_c1 rfl) (Nat.le_of_ble_eq_true rfl) ?_
  show tz_At l G M_X12_isVariable (tb_rm 1 0 0) none (tb_ZM G 0 0 (zQ n 0 (zqi (fun z J' => J = J' ∧ (if J 166 (b + t) < 0 then 1 else 0) = z))) (zX n 0 zN)) 0 0 n J 0 [some (.ref 164), some (zi t)] []
  obtain ⟨hM1, hM2, hM3, hM4, hM5, hM6⟩ := id hM
  have hT := hM.told
  refine tz_aload_n (pc := 0) dX12_isVariable_0 rfl rfl ?_
  refine tz_iload_n (pc := 1) dX12_isVariable_1 rfl rfl ?_
  refine tz_cV (pc := 2) (m_head hl n _ _ (by omega) b r d s m hM (by omega)) vl_X12_74 dX12_isVariable_2 o_164 rfl rfl (Nat.le_of_ble_eq_true rfl) ⟨(Nat.le_of_ble_eq_true rfl), (Nat.le_of_ble_eq_true rfl)⟩ rfl rfl (Nat.le_of_ble_eq_true rfl) (Nat.le_of_ble_eq_true rfl) (fun r9 J_2 hq9 => ?_)
  obtain ⟨z_2, rfl, hz_2, rfl, rfl⟩ := hq9
  refine tz_if_ge (pc := 5) (tgt := 12) dX12_isVariable_5 (by decide) (by omega) (fun h_5 => ?_) (fun h_5 => ?_)
  · refine tz_iconst (pc := 12) dX12_isVariable_12 ?_
    exact tz_zret (pc := 13) (z := 0) dX12_isVariable_13 rfl (Or.inl rfl) (Nat.le_of_ble_eq_true rfl) (Nat.le_of_ble_eq_true rfl) ⟨Nat.le_refl _, Nat.le_add_right _ _⟩ ⟨_, rfl, (by decide), ⟨rfl, by split <;> omega⟩⟩
  · refine tz_iconst (pc := 8) dX12_isVariable_8 ?_
    refine tz_goto (pc := 9) (tgt := 13) dX12_isVariable_9 (by decide) ?_
    exact tz_zret (pc := 13) (z := 1) dX12_isVariable_13 rfl (Or.inr rfl) (Nat.le_of_ble_eq_true rfl) (Nat.le_of_ble_eq_true rfl) ⟨Nat.le_refl _, Nat.le_add_right _ _⟩ ⟨_, rfl, (by decide), ⟨rfl, by split <;> omega⟩⟩

set_option maxHeartbeats 4000000 in
set_option maxRecDepth 100000 in
theorem m_varOf {l : Launch} {G : tb_G} (hl : l.stackTraces = false) (n : Nat) (J : zJ) (t : Int) (hr_t : -2147483648 ≤ t ∧ t < 2147483648) (b r d s m : Int) (hM : MS J b r d s m) (ht : 0 ≤ t ∧ t < m) : tz_Ok l G M_X12_variableOf 1 0 0 [.ref 164, zi t] n J (zqi (fun z J' => J = J' ∧ -1 - J 166 (b + t) = z)) zN := by
  refine tz_Ok.of hl (by decide +kernel) rfl (tb_c1 rfl) (Nat.le_of_ble_eq_true rfl) ?_
  show tz_At l G M_X12_variableOf (tb_rm 1 0 0) none (tb_ZM G 0 0 (zQ n 0 (zqi (fun z J' => J = J' ∧ -1 - J 166 (b + t) = z))) (zX n 0 zN)) 0 0 n J 0 [some (.ref 164), some (zi t)] []
  obtain ⟨hM1, hM2, hM3, hM4, hM5, hM6⟩ := id hM
  have hT := hM.told
  have ha := hM.ar ht
  refine tz_iconst (pc := 0) dX12_variableOf_0 ?_
  refine tz_aload_n (pc := 1) dX12_variableOf_1 rfl rfl ?_
  refine tz_iload_n (pc := 2) dX12_variableOf_2 rfl rfl ?_
  refine tz_cV (pc := 3) (m_head hl n _ _ (by omega) b r d s m hM (by omega)) vl_X12_74 dX12_variableOf_3 o_164 rfl rfl (Nat.le_of_ble_eq_true rfl) ⟨(Nat.le_of_ble_eq_true rfl), (Nat.le_of_ble_eq_true rfl)⟩ rfl rfl (Nat.le_of_ble_eq_true rfl) (Nat.le_of_ble_eq_true rfl) (fun r9 J_3 hq9 => ?_)
  obtain ⟨z_3, rfl, hz_3, rfl, rfl⟩ := hq9
  refine tz_isub (pc := 6) (v := (-1) - (J 166 (b + t))) dX12_variableOf_6 rfl ?_
  exact tz_iret (pc := 7) (z := ((-1) - (J 166 (b + t)))) dX12_variableOf_7 rfl (Nat.le_of_ble_eq_true rfl) (Nat.le_of_ble_eq_true rfl) ⟨Nat.le_refl _, Nat.le_add_right _ _⟩ ⟨_, rfl, (by omega), ⟨rfl, rfl⟩⟩

set_option maxHeartbeats 4000000 in
set_option maxRecDepth 100000 in
theorem m_arity {l : Launch} {G : tb_G} (hl : l.stackTraces = false) (n : Nat) (J : zJ) (t : Int) (hr_t : -2147483648 ≤ t ∧ t < 2147483648) (b r d s m : Int) (hM : MS J b r d s m) (ht : 0 ≤ t ∧ t < m) : tz_Ok l G M_X12_arityOf 2 0 0 [.ref 164, zi t] n J (zqi (fun z J' => J = J' ∧ mar J b d t = z)) zN := by
  refine tz_Ok.of hl (by decide +kernel) rfl (tb_c1 rfl) (Nat.le_of_ble_eq_true rfl) ?_
  show tz_At l G M_X12_arityOf (tb_rm 2 0 0) none (tb_ZM G 0 0 (zQ n 0 (zqi (fun z J' => J = J' ∧ mar J b d t = z))) (zX n 0 zN)) 0 0 n J 0 [some (.ref 164), some (zi t)] []
  obtain ⟨hM1, hM2, hM3, hM4, hM5, hM6⟩ := id hM
  have hT := hM.told
  have ha := hM.ar ht
  refine tz_aload_n (pc := 0) dX12_arityOf_0 rfl rfl ?_
  refine tz_iload_n (pc := 1) dX12_arityOf_1 rfl rfl ?_
  refine tz_cV (pc := 2) (m_isVar hl n _ _ (by omega) b r d s m hM (by omega)) vl_X12_78 dX12_arityOf_2 o_164 rfl rfl (Nat.le_of_ble_eq_true rfl) ⟨(Nat.le_of_ble_eq_true rfl), (Nat.le_of_ble_eq_true rfl)⟩ rfl rfl (Nat.le_of_ble_eq_true rfl) (Nat.le_of_ble_eq_true rfl) (fun r9 J_2 hq9 => ?_)
  obtain ⟨z_2, rfl, hz_2, rfl, rfl⟩ := hq9
  by_cases hw_5 : J 166 (b + t) < 0
  · rw [show (if J 166 (b + t) < 0 then 1 else 0 : Int) = 1 from if_pos hw_5]
    refine tz_if_eqF (pc := 5) (tgt := 12) (by decide) dX12_arityOf_5 (by decide) (by decide) ?_
    refine tz_iconst (pc := 8) dX12_arityOf_8 ?_
    refine tz_goto (pc := 9) (tgt := 27) dX12_arityOf_9 (by decide) ?_
    exact tz_iret (pc := 27) (z := 0) dX12_arityOf_27 rfl (Nat.le_of_ble_eq_true rfl) (Nat.le_of_ble_eq_true rfl) ⟨Nat.le_refl _, Nat.le_add_right _ _⟩ ⟨_, rfl, (by decide), ⟨rfl, by omega⟩⟩
  · rw [show (if J 166 (b + t) < 0 then 1 else 0 : Int) = 0 from if_neg hw_5]
    refine tz_if_eqT (pc := 5) (tgt := 12) (by decide) dX12_arityOf_5 (by decide) (by decide) ?_
    refine tz_aload_n (pc := 12) dX12_arityOf_12 rfl rfl ?_
    refine tz_fR (pc := 13) dX12_arityOf_13 fl_X12_25 r_164_5 ?_
    refine tz_aload_n (pc := 16) dX12_arityOf_16 rfl rfl ?_
    refine tz_fI (pc := 17) (kz := 17) (v := d) dX12_arityOf_17 fl_X12_82 i_164_17 rfl hM4 (fun r_17 => ?_)
    refine tz_aload_n (pc := 20) dX12_arityOf_20 rfl rfl ?_
    refine tz_iload_n (pc := 21) dX12_arityOf_21 rfl rfl ?_
    refine tz_cV (pc := 22) (m_head hl n _ _ (by omega) b r d s m hM (by omega)) vl_X12_74 dX12_arityOf_22 o_164 rfl rfl (Nat.le_of_ble_eq_true rfl) ⟨(Nat.le_of_ble_eq_true rfl), (Nat.le_of_ble_eq_true rfl)⟩ rfl rfl (Nat.le_of_ble_eq_true rfl) (Nat.le_of_ble_eq_true rfl) (fun r9 J_22 hq9 => ?_)
    obtain ⟨z_22, rfl, hz_22, rfl, rfl⟩ := hq9
    refine tz_iadd (pc := 25) (v := d + (J 166 (b + t))) dX12_arityOf_25 rfl ?_
    refine tz_aL (pc := 26) (z := (d + (J 166 (b + t)))) (v := (J 170 (d + (J 166 (b + t))))) dX12_arityOf_26 a_170 rfl (by omega) rfl (fun r_26 => ?_)
    exact tz_iret (pc := 27) (z := (J 170 (d + (J 166 (b + t))))) dX12_arityOf_27 rfl (Nat.le_of_ble_eq_true rfl) (Nat.le_of_ble_eq_true rfl) ⟨Nat.le_refl _, Nat.le_add_right _ _⟩ ⟨_, rfl, (by omega), ⟨rfl, by omega⟩⟩

set_option maxHeartbeats 4000000 in
set_option maxRecDepth 100000 in
theorem m_wHead {l : Launch} {G : tb_G} (hl : l.stackTraces = false) (n : Nat) (J : zJ) (t : Int) (hr_t : -2147483648 ≤ t ∧ t < 2147483648) (b r d s m : Int) (hM : MS J b r d s m) (ht : 0 ≤ t ∧ t < m) : tz_Ok l G M_X12_weightOfHead 2 0 0 [.ref 164, zi t] n J (zqi (fun z J' => J = J')) zN := by
  refine tz_Ok.of hl (by decide +kernel) rfl (tb_c1 rfl) (Nat.le_of_ble_eq_true rfl) ?_
  show tz_At l G M_X12_weightOfHead (tb_rm 2 0 0) none (tb_ZM G 0 0 (zQ n 0 (zqi (fun z J' => J = J'))) (zX n 0 zN)) 0 0 n J 0 [some (.ref 164), some (zi t)] []
  obtain ⟨hM1, hM2, hM3, hM4, hM5, hM6⟩ := id hM
  have hT := hM.told
  have ha := hM.ar ht
  refine tz_aload_n (pc := 0) dX12_weightOfHead_0 rfl rfl ?_
  refine tz_iload_n (pc := 1) dX12_weightOfHead_1 rfl rfl ?_
  refine tz_cV (pc := 2) (m_isVar hl n _ _ (by omega) b r d s m hM (by omega)) vl_X12_78 dX12_weightOfHead_2 o_164 rfl rfl (Nat.le_of_ble_eq_true rfl) ⟨(Nat.le_of_ble_eq_true rfl), (Nat.le_of_ble_eq_true rfl)⟩ rfl rfl (Nat.le_of_ble_eq_true rfl) (Nat.le_of_ble_eq_true rfl) (fun r9 J_2 hq9 => ?_)
  obtain ⟨z_2, rfl, hz_2, rfl, rfl⟩ := hq9
  by_cases hw_5 : J 166 (b + t) < 0
  · rw [show (if J 166 (b + t) < 0 then 1 else 0 : Int) = 1 from if_pos hw_5]
    refine tz_if_eqF (pc := 5) (tgt := 12) (by decide) dX12_weightOfHead_5 (by decide) (by decide) ?_
    refine tz_iconst (pc := 8) dX12_weightOfHead_8 ?_
    refine tz_goto (pc := 9) (tgt := 27) dX12_weightOfHead_9 (by decide) ?_
    exact tz_iret (pc := 27) (z := 1) dX12_weightOfHead_27 rfl (Nat.le_of_ble_eq_true rfl) (Nat.le_of_ble_eq_true rfl) ⟨Nat.le_refl _, Nat.le_add_right _ _⟩ ⟨_, rfl, (by decide), rfl⟩
  · rw [show (if J 166 (b + t) < 0 then 1 else 0 : Int) = 0 from if_neg hw_5]
    refine tz_if_eqT (pc := 5) (tgt := 12) (by decide) dX12_weightOfHead_5 (by decide) (by decide) ?_
    refine tz_aload_n (pc := 12) dX12_weightOfHead_12 rfl rfl ?_
    refine tz_fR (pc := 13) dX12_weightOfHead_13 fl_X12_28 r_164_6 ?_
    refine tz_aload_n (pc := 16) dX12_weightOfHead_16 rfl rfl ?_
    refine tz_fI (pc := 17) (kz := 17) (v := d) dX12_weightOfHead_17 fl_X12_82 i_164_17 rfl hM4 (fun r_17 => ?_)
    refine tz_aload_n (pc := 20) dX12_weightOfHead_20 rfl rfl ?_
    refine tz_iload_n (pc := 21) dX12_weightOfHead_21 rfl rfl ?_
    refine tz_cV (pc := 22) (m_head hl n _ _ (by omega) b r d s m hM (by omega)) vl_X12_74 dX12_weightOfHead_22 o_164 rfl rfl (Nat.le_of_ble_eq_true rfl) ⟨(Nat.le_of_ble_eq_true rfl), (Nat.le_of_ble_eq_true rfl)⟩ rfl rfl (Nat.le_of_ble_eq_true rfl) (Nat.le_of_ble_eq_true rfl) (fun r9 J_22 hq9 => ?_)
    obtain ⟨z_22, rfl, hz_22, rfl, rfl⟩ := hq9
    refine tz_iadd (pc := 25) (v := d + (J 166 (b + t))) dX12_weightOfHead_25 rfl ?_
    refine tz_aL (pc := 26) (z := (d + (J 166 (b + t)))) (v := (J 171 (d + (J 166 (b + t))))) dX12_weightOfHead_26 a_171 rfl (by omega) rfl (fun r_26 => ?_)
    exact tz_iret (pc := 27) (z := (J 171 (d + (J 166 (b + t))))) dX12_weightOfHead_27 rfl (Nat.le_of_ble_eq_true rfl) (Nat.le_of_ble_eq_true rfl) ⟨Nat.le_refl _, Nat.le_add_right _ _⟩ ⟨_, rfl, (by omega), rfl⟩

set_option maxHeartbeats 4000000 in
set_option maxRecDepth 100000 in
theorem m_many {l : Launch} {G : tb_G} (hl : l.stackTraces = false) (n : Nat) (J : zJ)   (b r d s m : Int) (hM : MS J b r d s m)  : tz_Ok l G M_X12_many 0 0 0 [.ref 164] n J (zqi (fun z J' => J = J' ∧ m = z)) zN := by
  refine tz_Ok.of hl (by decide +kernel) rfl (tb_c1 rfl) (Nat.le_of_ble_eq_true rfl) ?_
  show tz_At l G M_X12_many (tb_rm 0 0 0) none (tb_ZM G 0 0 (zQ n 0 (zqi (fun z J' => J = J' ∧ m = z))) (zX n 0 zN)) 0 0 n J 0 [some (.ref 164)] []
  obtain ⟨hM1, hM2, hM3, hM4, hM5, hM6⟩ := id hM
  have hT := hM.told
  refine tz_aload_n (pc := 0) dX12_many_0 rfl rfl ?_
  refine tz_fR (pc := 1) dX12_many_1 fl_X12_9 r_164_0 ?_
  refine tz_aload_n (pc := 4) dX12_many_4 rfl rfl ?_
  refine tz_fI (pc := 5) (kz := 16) (v := r) dX12_many_5 fl_X12_85 i_164_16 rfl hM3 (fun r_5 => ?_)
  refine tz_iconst (pc := 8) dX12_many_8 ?_
  refine tz_iadd (pc := 9) (v := r) dX12_many_9 (Int.add_zero _) ?_
  refine tz_aL (pc := 10) (z := r) (v := (J 165 r)) dX12_many_10 a_165 rfl (by omega) rfl (fun r_10 => ?_)
  exact tz_iret (pc := 11) (z := (J 165 r)) dX12_many_11 rfl (Nat.le_of_ble_eq_true rfl) (Nat.le_of_ble_eq_true rfl) ⟨Nat.le_refl _, Nat.le_add_right _ _⟩ ⟨_, rfl, (by omega), ⟨rfl, by omega⟩⟩

set_option maxHeartbeats 4000000 in
set_option maxRecDepth 100000 in
theorem m_isThat {l : Launch} {G : tb_G} (hl : l.stackTraces = false) (n : Nat) (J : zJ) (t : Int) (h : Int) (k : Int) (x : Int) (y : Int) (w : Int) (hr_t : -2147483648 ≤ t ∧ t < 2147483648) (hr_h : -2147483648 ≤ h ∧ h < 2147483648) (hr_k : -2147483648 ≤ k ∧ k < 2147483648) (hr_x : -2147483648 ≤ x ∧ x < 2147483648) (hr_y : -2147483648 ≤ y ∧ y < 2147483648) (hr_w : -2147483648 ≤ w ∧ w < 2147483648) (b r d s m : Int) (hM : MS J b r d s m) (ht : 0 ≤ t ∧ t < m) : tz_Ok l G M_X12_isThat 1 0 0 [.ref 164, zi t, zi h, zi k, zi x, zi y, zi w] n J (zqi (fun z J' => J = J' ∧ (z = 0 ∨ z = 1) ∧ (z = 1 ↔ (J 166 (b + t) = h ∧ (0 < k → J 167 (3 * (b + t) + 0) = x) ∧ (1 < k → J 167 (3 * (b + t) + 1) = y) ∧ (2 < k → J 167 (3 * (b + t) + 2) = w))))) zN := by
  refine tz_Ok.of hl (by decide +kernel) rfl (tb_c1 rfl) (Nat.le_of_ble_eq_true rfl) ?_
  show tz_At l G M_X12_isThat (tb_rm 1 0 0) none (tb_ZM G 0 0 (zQ n 0 (zqi (fun z J' => J = J' ∧ (z = 0 ∨ z = 1) ∧ (z = 1 ↔ (J 166 (b + t) = h ∧ (0 < k → J 167 (3 * (b + t) + 0) = x) ∧ (1 < k → J 167 (3 * (b + t) + 1) = y) ∧ (2 < k → J 167 (3 * (b + t) + 2) = w)))))) (zX n 0 zN)) 0 0 n J 0 [some (.ref 164), some (zi t), some (zi h), some (zi k), some (zi x), some (zi y), some (zi w)] []
  obtain ⟨hM1, hM2, hM3, hM4, hM5, hM6⟩ := id hM
  have hT := hM.told
  refine tz_aload_n (pc := 0) dX12_isThat_0 rfl rfl ?_
  refine tz_iload_n (pc := 1) dX12_isThat_1 rfl rfl ?_
  refine tz_cV (pc := 2) (m_head hl n _ _ (by omega) b r d s m hM (by omega)) vl_X12_74 dX12_isThat_2 o_164 rfl rfl (Nat.le_of_ble_eq_true rfl) ⟨(Nat.le_of_ble_eq_true rfl), (Nat.le_of_ble_eq_true rfl)⟩ rfl rfl (Nat.le_of_ble_eq_true rfl) (Nat.le_of_ble_eq_true rfl) (fun r9 J_2 hq9 => ?_)
  obtain ⟨z_2, rfl, hz_2, rfl, rfl⟩ := hq9
  refine tz_iload_n (pc := 5) dX12_isThat_5 rfl rfl ?_
  refine tz_icmp_eq (pc := 6) (tgt := 11) dX12_isThat_6 (by decide) (by omega) (by omega) (fun h_6 => ?_) (fun h_6 => ?_)
  · refine tz_iload_n (pc := 11) dX12_isThat_11 rfl rfl ?_
    refine tz_iconst (pc := 12) dX12_isThat_12 ?_
    refine tz_icmp_lt (pc := 13) (tgt := 27) dX12_isThat_13 (by decide) (by omega) (by decide) (fun h_13 => ?_) (fun h_13 => ?_)
    · refine tz_iload_n (pc := 27) dX12_isThat_27 rfl rfl ?_
      refine tz_iconst (pc := 28) dX12_isThat_28 ?_
      refine tz_icmp_lt (pc := 29) (tgt := 43) dX12_isThat_29 (by decide) (by omega) (by decide) (fun h_29 => ?_) (fun h_29 => ?_)
      · refine tz_iload_n (pc := 43) dX12_isThat_43 rfl rfl ?_
        refine tz_iconst (pc := 44) dX12_isThat_44 ?_
        refine tz_icmp_lt (pc := 45) (tgt := 59) dX12_isThat_45 (by decide) (by omega) (by decide) (fun h_45 => ?_) (fun h_45 => ?_)
        · refine tz_iconst (pc := 59) dX12_isThat_59 ?_
          refine tz_goto (pc := 60) (tgt := 64) dX12_isThat_60 (by decide) ?_
          exact tz_zret (pc := 64) (z := 1) dX12_isThat_64 rfl (Or.inr rfl) (Nat.le_of_ble_eq_true rfl) (Nat.le_of_ble_eq_true rfl) ⟨Nat.le_refl _, Nat.le_add_right _ _⟩ ⟨_, rfl, (by decide), ⟨rfl, by omega, by omega⟩⟩
        · refine tz_aload_n (pc := 48) dX12_isThat_48 rfl rfl ?_
          refine tz_iload_n (pc := 49) dX12_isThat_49 rfl rfl ?_
          refine tz_iconst (pc := 50) dX12_isThat_50 ?_
          refine tz_cV (pc := 51) (m_arg hl n _ _ _ (by omega) (by decide) b r d s m hM (by omega) (by omega)) vl_X12_88 dX12_isThat_51 o_164 rfl rfl (Nat.le_of_ble_eq_true rfl) ⟨(Nat.le_of_ble_eq_true rfl), (Nat.le_of_ble_eq_true rfl)⟩ rfl rfl (Nat.le_of_ble_eq_true rfl) (Nat.le_of_ble_eq_true rfl) (fun r9 J_51 hq9 => ?_)
          obtain ⟨z_51, rfl, hz_51, rfl, rfl⟩ := hq9
          refine tz_iload (pc := 54) dX12_isThat_54 rfl ?_
          refine tz_icmp_ne (pc := 56) (tgt := 63) dX12_isThat_56 (by decide) (by omega) (by omega) (fun h_56 => ?_) (fun h_56 => ?_)
          · refine tz_iconst (pc := 63) dX12_isThat_63 ?_
            exact tz_zret (pc := 64) (z := 0) dX12_isThat_64 rfl (Or.inl rfl) (Nat.le_of_ble_eq_true rfl) (Nat.le_of_ble_eq_true rfl) ⟨Nat.le_refl _, Nat.le_add_right _ _⟩ ⟨_, rfl, (by decide), ⟨rfl, by omega, by omega⟩⟩
          · refine tz_iconst (pc := 59) dX12_isThat_59 ?_
            refine tz_goto (pc := 60) (tgt := 64) dX12_isThat_60 (by decide) ?_
            exact tz_zret (pc := 64) (z := 1) dX12_isThat_64 rfl (Or.inr rfl) (Nat.le_of_ble_eq_true rfl) (Nat.le_of_ble_eq_true rfl) ⟨Nat.le_refl _, Nat.le_add_right _ _⟩ ⟨_, rfl, (by decide), ⟨rfl, by omega, by omega⟩⟩
      · refine tz_aload_n (pc := 32) dX12_isThat_32 rfl rfl ?_
        refine tz_iload_n (pc := 33) dX12_isThat_33 rfl rfl ?_
        refine tz_iconst (pc := 34) dX12_isThat_34 ?_
        refine tz_cV (pc := 35) (m_arg hl n _ _ _ (by omega) (by decide) b r d s m hM (by omega) (by omega)) vl_X12_88 dX12_isThat_35 o_164 rfl rfl (Nat.le_of_ble_eq_true rfl) ⟨(Nat.le_of_ble_eq_true rfl), (Nat.le_of_ble_eq_true rfl)⟩ rfl rfl (Nat.le_of_ble_eq_true rfl) (Nat.le_of_ble_eq_true rfl) (fun r9 J_35 hq9 => ?_)
        obtain ⟨z_35, rfl, hz_35, rfl, rfl⟩ := hq9
        refine tz_iload (pc := 38) dX12_isThat_38 rfl ?_
        refine tz_icmp_ne (pc := 40) (tgt := 63) dX12_isThat_40 (by decide) (by omega) (by omega) (fun h_40 => ?_) (fun h_40 => ?_)
        · refine tz_iconst (pc := 63) dX12_isThat_63 ?_
          exact tz_zret (pc := 64) (z := 0) dX12_isThat_64 rfl (Or.inl rfl) (Nat.le_of_ble_eq_true rfl) (Nat.le_of_ble_eq_true rfl) ⟨Nat.le_refl _, Nat.le_add_right _ _⟩ ⟨_, rfl, (by decide), ⟨rfl, by omega, by omega⟩⟩
        · refine tz_iload_n (pc := 43) dX12_isThat_43 rfl rfl ?_
          refine tz_iconst (pc := 44) dX12_isThat_44 ?_
          refine tz_icmp_lt (pc := 45) (tgt := 59) dX12_isThat_45 (by decide) (by omega) (by decide) (fun h_45 => ?_) (fun h_45 => ?_)
          · refine tz_iconst (pc := 59) dX12_isThat_59 ?_
            refine tz_goto (pc := 60) (tgt := 64) dX12_isThat_60 (by decide) ?_
            exact tz_zret (pc := 64) (z := 1) dX12_isThat_64 rfl (Or.inr rfl) (Nat.le_of_ble_eq_true rfl) (Nat.le_of_ble_eq_true rfl) ⟨Nat.le_refl _, Nat.le_add_right _ _⟩ ⟨_, rfl, (by decide), ⟨rfl, by omega, by omega⟩⟩
          · refine tz_aload_n (pc := 48) dX12_isThat_48 rfl rfl ?_
            refine tz_iload_n (pc := 49) dX12_isThat_49 rfl rfl ?_
            refine tz_iconst (pc := 50) dX12_isThat_50 ?_
            refine tz_cV (pc := 51) (m_arg hl n _ _ _ (by omega) (by decide) b r d s m hM (by omega) (by omega)) vl_X12_88 dX12_isThat_51 o_164 rfl rfl (Nat.le_of_ble_eq_true rfl) ⟨(Nat.le_of_ble_eq_true rfl), (Nat.le_of_ble_eq_true rfl)⟩ rfl rfl (Nat.le_of_ble_eq_true rfl) (Nat.le_of_ble_eq_true rfl) (fun r9 J_51 hq9 => ?_)
            obtain ⟨z_51, rfl, hz_51, rfl, rfl⟩ := hq9
            refine tz_iload (pc := 54) dX12_isThat_54 rfl ?_
            refine tz_icmp_ne (pc := 56) (tgt := 63) dX12_isThat_56 (by decide) (by omega) (by omega) (fun h_56 => ?_) (fun h_56 => ?_)
            · refine tz_iconst (pc := 63) dX12_isThat_63 ?_
              exact tz_zret (pc := 64) (z := 0) dX12_isThat_64 rfl (Or.inl rfl) (Nat.le_of_ble_eq_true rfl) (Nat.le_of_ble_eq_true rfl) ⟨Nat.le_refl _, Nat.le_add_right _ _⟩ ⟨_, rfl, (by decide), ⟨rfl, by omega, by omega⟩⟩
            · refine tz_iconst (pc := 59) dX12_isThat_59 ?_
              refine tz_goto (pc := 60) (tgt := 64) dX12_isThat_60 (by decide) ?_
              exact tz_zret (pc := 64) (z := 1) dX12_isThat_64 rfl (Or.inr rfl) (Nat.le_of_ble_eq_true rfl) (Nat.le_of_ble_eq_true rfl) ⟨Nat.le_refl _, Nat.le_add_right _ _⟩ ⟨_, rfl, (by decide), ⟨rfl, by omega, by omega⟩⟩
    · refine tz_aload_n (pc := 16) dX12_isThat_16 rfl rfl ?_
      refine tz_iload_n (pc := 17) dX12_isThat_17 rfl rfl ?_
      refine tz_iconst (pc := 18) dX12_isThat_18 ?_
      refine tz_cV (pc := 19) (m_arg hl n _ _ _ (by omega) (by decide) b r d s m hM (by omega) (by omega)) vl_X12_88 dX12_isThat_19 o_164 rfl rfl (Nat.le_of_ble_eq_true rfl) ⟨(Nat.le_of_ble_eq_true rfl), (Nat.le_of_ble_eq_true rfl)⟩ rfl rfl (Nat.le_of_ble_eq_true rfl) (Nat.le_of_ble_eq_true rfl) (fun r9 J_19 hq9 => ?_)
      obtain ⟨z_19, rfl, hz_19, rfl, rfl⟩ := hq9
      refine tz_iload (pc := 22) dX12_isThat_22 rfl ?_
      refine tz_icmp_ne (pc := 24) (tgt := 63) dX12_isThat_24 (by decide) (by omega) (by omega) (fun h_24 => ?_) (fun h_24 => ?_)
      · refine tz_iconst (pc := 63) dX12_isThat_63 ?_
        exact tz_zret (pc := 64) (z := 0) dX12_isThat_64 rfl (Or.inl rfl) (Nat.le_of_ble_eq_true rfl) (Nat.le_of_ble_eq_true rfl) ⟨Nat.le_refl _, Nat.le_add_right _ _⟩ ⟨_, rfl, (by decide), ⟨rfl, by omega, by omega⟩⟩
      · refine tz_iload_n (pc := 27) dX12_isThat_27 rfl rfl ?_
        refine tz_iconst (pc := 28) dX12_isThat_28 ?_
        refine tz_icmp_lt (pc := 29) (tgt := 43) dX12_isThat_29 (by decide) (by omega) (by decide) (fun h_29 => ?_) (fun h_29 => ?_)
        · refine tz_iload_n (pc := 43) dX12_isThat_43 rfl rfl ?_
          refine tz_iconst (pc := 44) dX12_isThat_44 ?_
          refine tz_icmp_lt (pc := 45) (tgt := 59) dX12_isThat_45 (by decide) (by omega) (by decide) (fun h_45 => ?_) (fun h_45 => ?_)
          · refine tz_iconst (pc := 59) dX12_isThat_59 ?_
            refine tz_goto (pc := 60) (tgt := 64) dX12_isThat_60 (by decide) ?_
            exact tz_zret (pc := 64) (z := 1) dX12_isThat_64 rfl (Or.inr rfl) (Nat.le_of_ble_eq_true rfl) (Nat.le_of_ble_eq_true rfl) ⟨Nat.le_refl _, Nat.le_add_right _ _⟩ ⟨_, rfl, (by decide), ⟨rfl, by omega, by omega⟩⟩
          · refine tz_aload_n (pc := 48) dX12_isThat_48 rfl rfl ?_
            refine tz_iload_n (pc := 49) dX12_isThat_49 rfl rfl ?_
            refine tz_iconst (pc := 50) dX12_isThat_50 ?_
            refine tz_cV (pc := 51) (m_arg hl n _ _ _ (by omega) (by decide) b r d s m hM (by omega) (by omega)) vl_X12_88 dX12_isThat_51 o_164 rfl rfl (Nat.le_of_ble_eq_true rfl) ⟨(Nat.le_of_ble_eq_true rfl), (Nat.le_of_ble_eq_true rfl)⟩ rfl rfl (Nat.le_of_ble_eq_true rfl) (Nat.le_of_ble_eq_true rfl) (fun r9 J_51 hq9 => ?_)
            obtain ⟨z_51, rfl, hz_51, rfl, rfl⟩ := hq9
            refine tz_iload (pc := 54) dX12_isThat_54 rfl ?_
            refine tz_icmp_ne (pc := 56) (tgt := 63) dX12_isThat_56 (by decide) (by omega) (by omega) (fun h_56 => ?_) (fun h_56 => ?_)
            · refine tz_iconst (pc := 63) dX12_isThat_63 ?_
              exact tz_zret (pc := 64) (z := 0) dX12_isThat_64 rfl (Or.inl rfl) (Nat.le_of_ble_eq_true rfl) (Nat.le_of_ble_eq_true rfl) ⟨Nat.le_refl _, Nat.le_add_right _ _⟩ ⟨_, rfl, (by decide), ⟨rfl, by omega, by omega⟩⟩
            · refine tz_iconst (pc := 59) dX12_isThat_59 ?_
              refine tz_goto (pc := 60) (tgt := 64) dX12_isThat_60 (by decide) ?_
              exact tz_zret (pc := 64) (z := 1) dX12_isThat_64 rfl (Or.inr rfl) (Nat.le_of_ble_eq_true rfl) (Nat.le_of_ble_eq_true rfl) ⟨Nat.le_refl _, Nat.le_add_right _ _⟩ ⟨_, rfl, (by decide), ⟨rfl, by omega, by omega⟩⟩
        · refine tz_aload_n (pc := 32) dX12_isThat_32 rfl rfl ?_
          refine tz_iload_n (pc := 33) dX12_isThat_33 rfl rfl ?_
          refine tz_iconst (pc := 34) dX12_isThat_34 ?_
          refine tz_cV (pc := 35) (m_arg hl n _ _ _ (by omega) (by decide) b r d s m hM (by omega) (by omega)) vl_X12_88 dX12_isThat_35 o_164 rfl rfl (Nat.le_of_ble_eq_true rfl) ⟨(Nat.le_of_ble_eq_true rfl), (Nat.le_of_ble_eq_true rfl)⟩ rfl rfl (Nat.le_of_ble_eq_true rfl) (Nat.le_of_ble_eq_true rfl) (fun r9 J_35 hq9 => ?_)
          obtain ⟨z_35, rfl, hz_35, rfl, rfl⟩ := hq9
          refine tz_iload (pc := 38) dX12_isThat_38 rfl ?_
          refine tz_icmp_ne (pc := 40) (tgt := 63) dX12_isThat_40 (by decide) (by omega) (by omega) (fun h_40 => ?_) (fun h_40 => ?_)
          · refine tz_iconst (pc := 63) dX12_isThat_63 ?_
            exact tz_zret (pc := 64) (z := 0) dX12_isThat_64 rfl (Or.inl rfl) (Nat.le_of_ble_eq_true rfl) (Nat.le_of_ble_eq_true rfl) ⟨Nat.le_refl _, Nat.le_add_right _ _⟩ ⟨_, rfl, (by decide), ⟨rfl, by omega, by omega⟩⟩
          · refine tz_iload_n (pc := 43) dX12_isThat_43 rfl rfl ?_
            refine tz_iconst (pc := 44) dX12_isThat_44 ?_
            refine tz_icmp_lt (pc := 45) (tgt := 59) dX12_isThat_45 (by decide) (by omega) (by decide) (fun h_45 => ?_) (fun h_45 => ?_)
            · refine tz_iconst (pc := 59) dX12_isThat_59 ?_
              refine tz_goto (pc := 60) (tgt := 64) dX12_isThat_60 (by decide) ?_
              exact tz_zret (pc := 64) (z := 1) dX12_isThat_64 rfl (Or.inr rfl) (Nat.le_of_ble_eq_true rfl) (Nat.le_of_ble_eq_true rfl) ⟨Nat.le_refl _, Nat.le_add_right _ _⟩ ⟨_, rfl, (by decide), ⟨rfl, by omega, by omega⟩⟩
            · refine tz_aload_n (pc := 48) dX12_isThat_48 rfl rfl ?_
              refine tz_iload_n (pc := 49) dX12_isThat_49 rfl rfl ?_
              refine tz_iconst (pc := 50) dX12_isThat_50 ?_
              refine tz_cV (pc := 51) (m_arg hl n _ _ _ (by omega) (by decide) b r d s m hM (by omega) (by omega)) vl_X12_88 dX12_isThat_51 o_164 rfl rfl (Nat.le_of_ble_eq_true rfl) ⟨(Nat.le_of_ble_eq_true rfl), (Nat.le_of_ble_eq_true rfl)⟩ rfl rfl (Nat.le_of_ble_eq_true rfl) (Nat.le_of_ble_eq_true rfl) (fun r9 J_51 hq9 => ?_)
              obtain ⟨z_51, rfl, hz_51, rfl, rfl⟩ := hq9
              refine tz_iload (pc := 54) dX12_isThat_54 rfl ?_
              refine tz_icmp_ne (pc := 56) (tgt := 63) dX12_isThat_56 (by decide) (by omega) (by omega) (fun h_56 => ?_) (fun h_56 => ?_)
              · refine tz_iconst (pc := 63) dX12_isThat_63 ?_
                exact tz_zret (pc := 64) (z := 0) dX12_isThat_64 rfl (Or.inl rfl) (Nat.le_of_ble_eq_true rfl) (Nat.le_of_ble_eq_true rfl) ⟨Nat.le_refl _, Nat.le_add_right _ _⟩ ⟨_, rfl, (by decide), ⟨rfl, by omega, by omega⟩⟩
              · refine tz_iconst (pc := 59) dX12_isThat_59 ?_
                refine tz_goto (pc := 60) (tgt := 64) dX12_isThat_60 (by decide) ?_
                exact tz_zret (pc := 64) (z := 1) dX12_isThat_64 rfl (Or.inr rfl) (Nat.le_of_ble_eq_true rfl) (Nat.le_of_ble_eq_true rfl) ⟨Nat.le_refl _, Nat.le_add_right _ _⟩ ⟨_, rfl, (by decide), ⟨rfl, by omega, by omega⟩⟩
  · refine tz_iconst (pc := 9) dX12_isThat_9 ?_
    exact tz_zret (pc := 10) (z := 0) dX12_isThat_10 rfl (Or.inl rfl) (Nat.le_of_ble_eq_true rfl) (Nat.le_of_ble_eq_true rfl) ⟨Nat.le_refl _, Nat.le_add_right _ _⟩ ⟨_, rfl, (by decide), ⟨rfl, by omega, by omega⟩⟩

