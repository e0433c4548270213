/-! ===== bits ===== -/
def bt (a v : Int) : Prop := zand (zshr a v) 1 = 1
theorem i1_01 (x : Int32) : x &&& 1 = 0 ∨ x &&& 1 = 1 := by
  have h := z_and x.toInt (m := 1) 1 (by decide) (by decide)
  unfold zand at h
  rw [Int32.ofInt_toInt, show Int32.ofInt 1 = 1 from rfl] at h
  have h2 : (x &&& 1).toInt = 0 ∨ (x &&& 1).toInt = 1 := by omega
  exact h2.imp (fun q => Int32.toInt_inj.1 (q.trans rfl)) (fun q => Int32.toInt_inj.1 (q.trans rfl))
theorem i1_or (x y : Int32) : (x ||| y) &&& 1 = (x &&& 1) ||| (y &&& 1) := by
  refine Int32.toBitVec_inj.1 (BitVec.eq_of_getLsbD_eq (fun i hi => ?_))
  simp only [Int32.toBitVec_and, Int32.toBitVec_or, BitVec.getLsbD_and, BitVec.getLsbD_or]
  exact Bool.and_or_distrib_right _ _ _
theorem i1_and (x y : Int32) : (x &&& y) &&& 1 = (x &&& 1) &&& (y &&& 1) := by
  rw [Int32.and_assoc, Int32.and_assoc, ← Int32.and_assoc 1 y 1, Int32.and_comm 1 y, Int32.and_assoc y, Int32.and_self]
theorem bt_iff {a v : Int} : bt a v ↔ (Int32.ofInt a >>> (Int32.ofInt v &&& 31)) &&& 1 = 1 := by
  unfold bt zand zshr
  rw [Int32.ofInt_toInt, show Int32.ofInt 1 = 1 from rfl]
  exact ⟨fun q => Int32.toInt_inj.1 (q.trans rfl), fun q => by rw [q]; rfl⟩
theorem bt_or {a b v : Int} : bt (zor a b) v ↔ bt a v ∨ bt b v := by
  rw [bt_iff, bt_iff, bt_iff]
  unfold zor
  rw [Int32.ofInt_toInt, Int32.shiftRight_or, i1_or]
  rcases i1_01 (Int32.ofInt a >>> (Int32.ofInt v &&& 31)) with h1 | h1 <;> rcases i1_01 (Int32.ofInt b >>> (Int32.ofInt v &&& 31)) with h2 | h2 <;> rw [h1, h2] <;> decide
theorem bt_and3 {a b c v : Int} (ha : bt a v) (hb : bt b v) (hc : bt c v) : zand (zand (zand (zshr a v) (zshr b v)) (zshr c v)) 1 = 1 := by
  have h1 := bt_iff.1 ha
  have h2 := bt_iff.1 hb
  have h3 := bt_iff.1 hc
  unfold zand zshr
  simp only [Int32.ofInt_toInt]
  rw [show Int32.ofInt 1 = 1 from rfl, i1_and, i1_and, h1, h2, h3]
  rfl
theorem bt_shl {v : Int} (h : 0 ≤ v ∧ v < 8) : bt (zshl 1 v) v := by
  have h1 : v = 0 ∨ v = 1 ∨ v = 2 ∨ v = 3 ∨ v = 4 ∨ v = 5 ∨ v = 6 ∨ v = 7 := by omega
  rcases h1 with h1 | h1 | h1 | h1 | h1 | h1 | h1 | h1 <;> (subst h1; unfold bt; decide)
/-! ===== what variables a term tells ===== -/
def occ (J : zJ) (b d : Int) : Nat → Int → Int → Prop
  | 0, _, _ => False
  | k + 1, t, v => (J 166 (b + t) < 0 ∧ v = -1 - J 166 (b + t)) ∨ ∃ i, (0 ≤ i ∧ i < mar J b d t) ∧ occ J b d k (J 167 (3 * (b + t) + i)) v
def Occ (J : zJ) (b d t v : Int) : Prop := ∃ k, occ J b d k t v
theorem Occ.v {J : zJ} {b d t : Int} (h : J 166 (b + t) < 0) : Occ J b d t (-1 - J 166 (b + t)) := ⟨1, Or.inl ⟨h, rfl⟩⟩
theorem Occ.a {J : zJ} {b d t i v : Int} (hi : 0 ≤ i ∧ i < mar J b d t) : Occ J b d (J 167 (3 * (b + t) + i)) v → Occ J b d t v := fun ⟨k, h⟩ => ⟨k + 1, Or.inr ⟨i, hi, h⟩⟩
theorem occ_rg {J : zJ} {b r d s m : Int} (h : MS J b r d s m) : ∀ (k : Nat) {t v : Int}, occ J b d k t v → (0 ≤ t ∧ t < m) → 0 ≤ v ∧ v < 8
  | 0, _, _, o, _ => o.elim
  | k + 1, t, v, o, ht => by
    rcases o with ⟨o1, o2⟩ | ⟨i, hi, o⟩
    · have := (h.ar ht).2.1
      omega
    · have := (h.arg ht hi).1
      exact occ_rg h k o (by omega)
theorem Occ.rg {J : zJ} {b r d s m t v : Int} (h : MS J b r d s m) (o : Occ J b d t v) (ht : 0 ≤ t ∧ t < m) : 0 ≤ v ∧ v < 8 := o.elim fun k o => occ_rg h k o ht
theorem occ_end {J : zJ} {b d t q i : Int} (h1 : J 166 (b + t) < 0 → bt q (-1 - J 166 (b + t))) (h2 : ∀ j v, 0 ≤ j → j < i → Occ J b d (J 167 (3 * (b + t) + j)) v → bt q v) (hi : mar J b d t ≤ i) : ∀ v, Occ J b d t v → bt q v := fun v o => by
  obtain ⟨k, o⟩ := o
  cases k with
  | zero => exact o.elim
  | succ k =>
    rcases o with ⟨o1, o2⟩ | ⟨j, hj, o⟩
    · rw [o2]; exact h1 o1
    · exact h2 j v hj.1 (by omega) ⟨k, o⟩
theorem occ_st {J : zJ} {b d t q i z : Int} (h2 : ∀ j v, 0 ≤ j → j < i → Occ J b d (J 167 (3 * (b + t) + j)) v → bt q v) (hz : ∀ v, Occ J b d (J 167 (3 * (b + t) + i)) v → bt z v) : ∀ j v, 0 ≤ j → j < i + 1 → Occ J b d (J 167 (3 * (b + t) + j)) v → bt (zor q z) v := fun j v a c o => by
  by_cases e : j = i
  · subst e
    exact bt_or.2 (Or.inr (hz v o))
  · exact bt_or.2 (Or.inl (h2 j v a (by omega) o))
set_option maxHeartbeats 4000000 in
set_option maxRecDepth 100000 in
theorem m_varsOR {l : Launch} {G : tb_G} (hl : l.stackTraces = false) (n : Nat) : ∀ (r9 : Nat) (J : zJ) (t : Int) (hr_t : -2147483648 ≤ t ∧ t < 2147483648) (b r d s m : Int) (hM : MS J b r d s m) (ht : 0 ≤ t ∧ t < m), ((J 168 (b + t)).toNat) < r9 → tz_Ok l G M_X12_variablesIn (3 + 1 * r9) 0 0 [.ref 164, zi t] n J (zqi (fun z J' => J = J' ∧ ∀ v, Occ J b d t v → bt z v)) zN := by
  intro r9
  induction r9 with
  | zero => intro J t hr_t b r d s m hM ht hm9; exact absurd hm9 (Nat.not_lt_zero _)
  | succ r9 ih =>
    intro J t hr_t b r d s m hM ht hm9
    refine tz_Ok.of hl (by decide +kernel) rfl (tb_c1 rfl) (Nat.le_of_ble_eq_true rfl) ?_
    show tz_At l G M_X12_variablesIn (tb_rm (3 + 1 * (r9 + 1)) 0 0) none (tb_ZM G 0 0 (zQ n 0 (zqi (fun z J' => J = J' ∧ ∀ v, Occ J b d t v → bt z v))) (zX n 0 zN)) 0 0 n J 0 [some (.ref 164), some (zi t), none, none] []
    obtain ⟨hM1, hM2, hM3, hM4, hM5, hM6⟩ := id hM
    have hT := hM.told
    have ha := hM.ar ht
    refine tz_aload_n (pc := 0) dX12_variablesIn_0 rfl rfl ?_
    refine tz_iload_n (pc := 1) dX12_variablesIn_1 rfl rfl ?_
    refine tz_cV (pc := 2) (m_isVar hl n _ _ (by omega) b r d s m hM (by omega)) vl_X12_78 dX12_variablesIn_2 o_164 rfl rfl (Nat.le_of_ble_eq_true rfl) ⟨(show 1 + 1 ≤ 3 + 1 * (r9 + 1) by omega), (show 8 + (2 + 11) + 40 * (1) ≤ 40 * (3 + 1 * (r9 + 1)) by omega)⟩ rfl rfl (Nat.le_of_ble_eq_true rfl) (Nat.le_of_ble_eq_true rfl) (fun r9 J_2 hq9 => ?_)
    obtain ⟨z_2, rfl, hz_2, rfl, rfl⟩ := hq9
    by_cases hw_5 : J 166 (b + t) < 0
    · rw [show (if J 166 (b + t) < 0 then 1 else 0 : Int) = 1 from if_pos hw_5]
      refine tz_if_eqF (pc := 5) (tgt := 18) (by decide) dX12_variablesIn_5 (by decide) (by decide) ?_
      refine tz_iconst (pc := 8) dX12_variablesIn_8 ?_
      refine tz_aload_n (pc := 9) dX12_variablesIn_9 rfl rfl ?_
      refine tz_iload_n (pc := 10) dX12_variablesIn_10 rfl rfl ?_
      refine tz_cV (pc := 11) (m_varOf hl n _ _ (by omega) b r d s m hM (by omega)) vl_X12_123 dX12_variablesIn_11 o_164 rfl rfl (Nat.le_of_ble_eq_true rfl) ⟨(show 1 + 1 ≤ 3 + 1 * (r9 + 1) by omega), (show 8 + (2 + 11) + 40 * (1) ≤ 40 * (3 + 1 * (r9 + 1)) by omega)⟩ rfl rfl (Nat.le_of_ble_eq_true rfl) (Nat.le_of_ble_eq_true rfl) (fun r9 J_11 hq9 => ?_)
      obtain ⟨z_11, rfl, hz_11, rfl, rfl⟩ := hq9
      refine tz_ishl (pc := 14) (v := zshl 1 (-1 - J 166 (b + t))) dX12_variablesIn_14 rfl ?_
      have r_14 := zshl_rg 1 (-1 - J 166 (b + t))
      refine tz_goto (pc := 15) (tgt := 19) dX12_variablesIn_15 (by decide) ?_
      refine tz_istore_n (pc := 19) (L2 := [_, _, _, _]) dX12_variablesIn_19 rfl (by decide) rfl ?_
      refine tz_iconst (pc := 20) dX12_variablesIn_20 ?_
      refine tz_istore_n (pc := 21) (L2 := [_, _, _, _]) dX12_variablesIn_21 rfl (by decide) rfl ?_
      have loop22 : ∀ (f9 : Nat) (q : Int) (i : Int), ((3 - i).toNat) < f9 → (-2147483648 ≤ q ∧ q < 2147483648) → (0 ≤ i ∧ i ≤ mar J b d t) → (J 166 (b + t) < 0 → bt q (-1 - J 166 (b + t))) → (∀ j v, 0 ≤ j → j < i → Occ J b d (J 167 (3 * (b + t) + j)) v → bt q v) → tz_At l G M_X12_variablesIn (tb_rm (3 + 1 * (r9 + 1)) 0 0) none (tb_ZM G 0 0 (zQ n 0 (zqi (fun z J' => J = J' ∧ ∀ v, Occ J b d t v → bt z v))) (zX n 0 zN)) 0 0 n J 22 [some (.ref 164), some (zi t), some (zi q), some (zi i)] [] := by
        intro f9
        induction f9 with
        | zero => intro q i hm9; exact absurd hm9 (Nat.not_lt_zero _)
        | succ f9 ih22 =>
          intro q i hm22 hq hi h1 h2
          refine tz_iload_n (pc := 22) dX12_variablesIn_22 rfl rfl ?_
          refine tz_aload_n (pc := 23) dX12_variablesIn_23 rfl rfl ?_
          refine tz_iload_n (pc := 24) dX12_variablesIn_24 rfl rfl ?_
          refine tz_cV (pc := 25) (m_arity hl n _ _ (by omega) b r d s m hM (by omega)) vl_X12_111 dX12_variablesIn_25 o_164 rfl rfl (Nat.le_of_ble_eq_true rfl) ⟨(show 2 + 1 ≤ 3 + 1 * (r9 + 1) by omega), (show 8 + (2 + 11) + 40 * (2) ≤ 40 * (3 + 1 * (r9 + 1)) by omega)⟩ rfl rfl (Nat.le_of_ble_eq_true rfl) (Nat.le_of_ble_eq_true rfl) (fun r9 J_25 hq9 => ?_)
          obtain ⟨z_25, rfl, hz_25, rfl, rfl⟩ := hq9
          refine tz_icmp_ge (pc := 28) (tgt := 50) dX12_variablesIn_28 (by decide) (by omega) (by omega) (fun h_28 => ?_) (fun h_28 => ?_)
          · refine tz_iload_n (pc := 50) dX12_variablesIn_50 rfl rfl ?_
            exact tz_iret (pc := 51) (z := q) dX12_variablesIn_51 rfl (Nat.le_of_ble_eq_true rfl) (Nat.le_of_ble_eq_true rfl) ⟨Nat.le_refl _, Nat.le_add_right _ _⟩ ⟨_, rfl, (by omega), ⟨rfl, occ_end h1 h2 (by omega)⟩⟩
          · refine tz_iload_n (pc := 31) dX12_variablesIn_31 rfl rfl ?_
            refine tz_aload_n (pc := 32) dX12_variablesIn_32 rfl rfl ?_
            refine tz_aload_n (pc := 33) dX12_variablesIn_33 rfl rfl ?_
            refine tz_iload_n (pc := 34) dX12_variablesIn_34 rfl rfl ?_
            refine tz_iload_n (pc := 35) dX12_variablesIn_35 rfl rfl ?_
            refine tz_cV (pc := 36) (m_arg hl n _ _ _ (by omega) (by omega) b r d s m hM (by omega) (by omega)) vl_X12_88 dX12_variablesIn_36 o_164 rfl rfl (Nat.le_of_ble_eq_true rfl) ⟨(show 0 + 1 ≤ 3 + 1 * (r9 + 1) by omega), (show 8 + (3 + 11) + 40 * (0) ≤ 40 * (3 + 1 * (r9 + 1)) by omega)⟩ rfl rfl (Nat.le_of_ble_eq_true rfl) (Nat.le_of_ble_eq_true rfl) (fun r9 J_36 hq9 => ?_)
            obtain ⟨z_36, rfl, hz_36, rfl, rfl⟩ := hq9
            have hg := hM.arg (t := t) (i := i) ht (by omega)
            refine tz_cV (pc := 39) (ih _ _ (by omega) b r d s m hM (by omega) (by omega)) vl_X12_126 dX12_variablesIn_39 o_164 rfl rfl (Nat.le_of_ble_eq_true rfl) ⟨(show (3 + 1 * r9) + 1 ≤ 3 + 1 * (r9 + 1) by omega), (show 8 + (4 + 11) + 40 * ((3 + 1 * r9)) ≤ 40 * (3 + 1 * (r9 + 1)) by omega)⟩ rfl rfl (Nat.le_of_ble_eq_true rfl) (Nat.le_of_ble_eq_true rfl) (fun r9 J_39 hq9 => ?_)
            obtain ⟨z_39, rfl, hz_39, rfl, hz9⟩ := hq9
            refine tz_ior (pc := 42) (v := zor q z_39) dX12_variablesIn_42 rfl ?_
            have r_42 := zor_rg q z_39
            refine tz_istore_n (pc := 43) (L2 := [_, _, _, _]) dX12_variablesIn_43 rfl (by decide) rfl ?_
            refine tz_iinc (pc := 44) (z := i + 1) (L2 := [_, _, _, _]) dX12_variablesIn_44 rfl (by omega) rfl ?_
            refine tz_goto (pc := 47) (tgt := 22) dX12_variablesIn_47 (by decide) ?_
            exact ih22 _ (i + 1) (by omega) (by omega) (by omega) (fun q9 => bt_or.2 (Or.inl (h1 q9))) (occ_st h2 hz9)
      exact loop22 _ _ 0 (Nat.lt_succ_self _) (zshl_rg _ _) (by omega) (fun _ => bt_shl (by omega)) (fun j v a c => by omega)
    · rw [show (if J 166 (b + t) < 0 then 1 else 0 : Int) = 0 from if_neg hw_5]
      refine tz_if_eqT (pc := 5) (tgt := 18) (by decide) dX12_variablesIn_5 (by decide) (by decide) ?_
      refine tz_iconst (pc := 18) dX12_variablesIn_18 ?_
      refine tz_istore_n (pc := 19) (L2 := [_, _, _, _]) dX12_variablesIn_19 rfl (by decide) rfl ?_
      refine tz_iconst (pc := 20) dX12_variablesIn_20 ?_
      refine tz_istore_n (pc := 21) (L2 := [_, _, _, _]) dX12_variablesIn_21 rfl (by decide) rfl ?_
      have loop22 : ∀ (f9 : Nat) (q : Int) (i : Int), ((3 - i).toNat) < f9 → (-2147483648 ≤ q ∧ q < 2147483648) → (0 ≤ i ∧ i ≤ mar J b d t) → (J 166 (b + t) < 0 → bt q (-1 - J 166 (b + t))) → (∀ j v, 0 ≤ j → j < i → Occ J b d (J 167 (3 * (b + t) + j)) v → bt q v) → tz_At l G M_X12_variablesIn (tb_rm (3 + 1 * (r9 + 1)) 0 0) none (tb_ZM G 0 0 (zQ n 0 (zqi (fun z J' => J = J' ∧ ∀ v, Occ J b d t v → bt z v))) (zX n 0 zN)) 0 0 n J 22 [some (.ref 164), some (zi t), some (zi q), some (zi i)] [] := by
        intro f9
        induction f9 with
        | zero => intro q i hm9; exact absurd hm9 (Nat.not_lt_zero _)
        | succ f9 ih22 =>
          intro q i hm22 hq hi h1 h2
          refine tz_iload_n (pc := 22) dX12_variablesIn_22 rfl rfl ?_
          refine tz_aload_n (pc := 23) dX12_variablesIn_23 rfl rfl ?_
          refine tz_iload_n (pc := 24) dX12_variablesIn_24 rfl rfl ?_
          refine tz_cV (pc := 25) (m_arity hl n _ _ (by omega) b r d s m hM (by omega)) vl_X12_111 dX12_variablesIn_25 o_164 rfl rfl (Nat.le_of_ble_eq_true rfl) ⟨(show 2 + 1 ≤ 3 + 1 * (r9 + 1) by omega), (show 8 + (2 + 11) + 40 * (2) ≤ 40 * (3 + 1 * (r9 + 1)) by omega)⟩ rfl rfl (Nat.le_of_ble_eq_true rfl) (Nat.le_of_ble_eq_true rfl) (fun r9 J_25 hq9 => ?_)
          obtain ⟨z_25, rfl, hz_25, rfl, rfl⟩ := hq9
          refine tz_icmp_ge (pc := 28) (tgt := 50) dX12_variablesIn_28 (by decide) (by omega) (by omega) (fun h_28 => ?_) (fun h_28 => ?_)
          · refine tz_iload_n (pc := 50) dX12_variablesIn_50 rfl rfl ?_
            exact tz_iret (pc := 51) (z := q) dX12_variablesIn_51 rfl (Nat.le_of_ble_eq_true rfl) (Nat.le_of_ble_eq_true rfl) ⟨Nat.le_refl _, Nat.le_add_right _ _⟩ ⟨_, rfl, (by omega), ⟨rfl, occ_end h1 h2 (by omega)⟩⟩
          · refine tz_iload_n (pc := 31) dX12_variablesIn_31 rfl rfl ?_
            refine tz_aload_n (pc := 32) dX12_variablesIn_32 rfl rfl ?_
            refine tz_aload_n (pc := 33) dX12_variablesIn_33 rfl rfl ?_
            refine tz_iload_n (pc := 34) dX12_variablesIn_34 rfl rfl ?_
            refine tz_iload_n (pc := 35) dX12_variablesIn_35 rfl rfl ?_
            refine tz_cV (pc := 36) (m_arg hl n _ _ _ (by omega) (by omega) b r d s m hM (by omega) (by omega)) vl_X12_88 dX12_variablesIn_36 o_164 rfl rfl (Nat.le_of_ble_eq_true rfl) ⟨(show 0 + 1 ≤ 3 + 1 * (r9 + 1) by omega), (show 8 + (3 + 11) + 40 * (0) ≤ 40 * (3 + 1 * (r9 + 1)) by omega)⟩ rfl rfl (Nat.le_of_ble_eq_true rfl) (Nat.le_of_ble_eq_true rfl) (fun r9 J_36 hq9 => ?_)
            obtain ⟨z_36, rfl, hz_36, rfl, rfl⟩ := hq9
            have hg := hM.arg (t := t) (i := i) ht (by omega)
            refine tz_cV (pc := 39) (ih _ _ (by omega) b r d s m hM (by omega) (by omega)) vl_X12_126 dX12_variablesIn_39 o_164 rfl rfl (Nat.le_of_ble_eq_true rfl) ⟨(show (3 + 1 * r9) + 1 ≤ 3 + 1 * (r9 + 1) by omega), (show 8 + (4 + 11) + 40 * ((3 + 1 * r9)) ≤ 40 * (3 + 1 * (r9 + 1)) by omega)⟩ rfl rfl (Nat.le_of_ble_eq_true rfl) (Nat.le_of_ble_eq_true rfl) (fun r9 J_39 hq9 => ?_)
            obtain ⟨z_39, rfl, hz_39, rfl, hz9⟩ := hq9
            refine tz_ior (pc := 42) (v := zor q z_39) dX12_variablesIn_42 rfl ?_
            have r_42 := zor_rg q z_39
            refine tz_istore_n (pc := 43) (L2 := [_, _, _, _]) dX12_variablesIn_43 rfl (by decide) rfl ?_
            refine tz_iinc (pc := 44) (z := i + 1) (L2 := [_, _, _, _]) dX12_variablesIn_44 rfl (by omega) rfl ?_
            refine tz_goto (pc := 47) (tgt := 22) dX12_variablesIn_47 (by decide) ?_
            exact ih22 _ (i + 1) (by omega) (by omega) (by omega) (fun q9 => bt_or.2 (Or.inl (h1 q9))) (occ_st h2 hz9)
      exact loop22 _ _ 0 (Nat.lt_succ_self _) (by decide) (by omega) (fun q9 => absurd q9 (by omega)) (fun j v a c => by omega)

theorem m_varsO {l : Launch} {G : tb_G} (hl : l.stackTraces = false) (n : Nat) (J : zJ) (t : Int) (hr_t : -2147483648 ≤ t ∧ t < 2147483648) (b r d s m : Int) (hM : MS J b r d s m) (ht : 0 ≤ t ∧ t < m) : tz_Ok l G M_X12_variablesIn 10 0 0 [.ref 164, zi t] n J (zqi (fun z J' => J = J' ∧ ∀ v, Occ J b d t v → bt z v)) zN := m_varsOR hl n 7 J t hr_t b r d s m hM ht (by have := (hM.ar ht).2.2.1; omega)
