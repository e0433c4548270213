section
/-- sizes, of a table of arities and arguments -/
def tps (f : Int → Int) (ag : Int → Int → Int) (t : Int) : Nat → Int
  | 0 => 1
  | i + 1 => tps f ag t i + f (ag t i)
def tsz (ar : Int → Int) (ag : Int → Int → Int) : Nat → Int → Int
  | 0, _ => 1
  | k + 1, t => tps (tsz ar ag k) ag t (ar t).toNat
theorem tps_cg {f g : Int → Int} {ag : Int → Int → Int} {t : Int} : ∀ (n : Nat), (∀ i : Nat, i < n → f (ag t i) = g (ag t i)) → tps f ag t n = tps g ag t n
  | 0, _ => rfl
  | n + 1, h => by
    show tps f ag t n + _ = tps g ag t n + _
    rw [tps_cg n (fun i hi => h i (by omega)), h n (by omega)]
def mag (J : zJ) (b : Int) : Int → Int → Int := fun t i => J 167 (3 * (b + t) + i)
def msz (J : zJ) (b d t : Int) : Int := tsz (mar J b d) (mag J b) 6 t
theorem msz_st {J : zJ} {b r d s m : Int} (h : MS J b r d s m) : ∀ (k k' : Nat) (t : Int), (0 ≤ t ∧ t < m) → J 168 (b + t) ≤ k → J 168 (b + t) ≤ k' → tsz (mar J b d) (mag J b) k t = tsz (mar J b d) (mag J b) k' t
  | 0, _, t, ht, h1, _ => by have := (h.ar ht).2.2.1; omega
  | _ + 1, 0, t, ht, _, h2 => by have := (h.ar ht).2.2.1; omega
  | k + 1, k' + 1, t, ht, h1, h2 => by
    refine tps_cg _ (fun i hi => ?_)
    have ha := (h.ar ht).1
    have hb := h.arg ht (i := i) (by omega)
    exact msz_st h k k' _ ⟨hb.1.1, by have := hb.1.2; show J 167 (3 * (b + t) + i) < m; omega⟩ (by have := hb.2; show J 168 (b + J 167 (3 * (b + t) + i)) ≤ k; omega) (by have := hb.2; show J 168 (b + J 167 (3 * (b + t) + i)) ≤ k'; omega)
theorem msz_un {J : zJ} {b r d s m t : Int} (h : MS J b r d s m) (ht : 0 ≤ t ∧ t < m) : msz J b d t = tps (msz J b d) (mag J b) t (mar J b d t).toNat := by
  have := (h.ar ht).2.2.1
  exact msz_st h 6 7 t ht (by omega) (by omega)
theorem msz_bd {J : zJ} {b r d s m : Int} (h : MS J b r d s m) : ∀ (k : Nat) (t : Int), (0 ≤ t ∧ t < m) → J 168 (b + t) ≤ k → 1 ≤ msz J b d t ∧ msz J b d t ≤ zB (J 168 (b + t))
  | 0, t, ht, h1 => by have := (h.ar ht).2.2.1; omega
  | k + 1, t, ht, h1 => by
    have ha := h.ar ht
    rw [msz_un h ht]
    have hz := zB_rg (J 168 (b + t))
    have hs : ∀ i : Nat, (i : Int) < mar J b d t → 1 ≤ msz J b d (mag J b t i) ∧ 3 * msz J b d (mag J b t i) + 1 ≤ zB (J 168 (b + t)) := fun i hi => by
      have hb := h.arg ht (i := i) (by omega)
      have h8 : 0 ≤ mag J b t i ∧ mag J b t i < m := ⟨hb.1.1, by have := hb.1.2; show J 167 (3 * (b + t) + i) < m; omega⟩
      have h9 : J 168 (b + mag J b t i) < J 168 (b + t) := hb.2
      have h7 := msz_bd h k (mag J b t i) h8 (by omega)
      have h6 := (h.ar h8).2.2.1
      have := zB_step h9 h6.1 (by omega)
      omega
    have hc : mar J b d t = 0 ∨ mar J b d t = 1 ∨ mar J b d t = 2 ∨ mar J b d t = 3 := by omega
    have s0 := hs 0
    have s1 := hs 1
    have s2 := hs 2
    rcases hc with hc | hc | hc | hc <;> rw [hc] at s0 s1 s2 ⊢
    · show 1 ≤ (1 : Int) ∧ (1 : Int) ≤ _
      omega
    · show 1 ≤ (1 : Int) + msz J b d (mag J b t (0 : Nat)) ∧ (1 : Int) + msz J b d (mag J b t (0 : Nat)) ≤ _
      have := s0 (by decide)
      omega
    · show 1 ≤ (1 : Int) + msz J b d (mag J b t (0 : Nat)) + msz J b d (mag J b t (1 : Nat)) ∧ (1 : Int) + msz J b d (mag J b t (0 : Nat)) + msz J b d (mag J b t (1 : Nat)) ≤ _
      have := s0 (by decide)
      have := s1 (by decide)
      omega
    · show 1 ≤ (1 : Int) + msz J b d (mag J b t (0 : Nat)) + msz J b d (mag J b t (1 : Nat)) + msz J b d (mag J b t (2 : Nat)) ∧ (1 : Int) + msz J b d (mag J b t (0 : Nat)) + msz J b d (mag J b t (1 : Nat)) + msz J b d (mag J b t (2 : Nat)) ≤ _
      have := s0 (by decide)
      have := s1 (by decide)
      have := s2 (by decide)
      omega
theorem MS.sz {J : zJ} {b r d s m t : Int} (h : MS J b r d s m) (ht : 0 ≤ t ∧ t < m) : 1 ≤ msz J b d t ∧ msz J b d t ≤ 364 := by
  have h1 := (h.ar ht).2.2.1
  have h2 := msz_bd h 6 t ht (by omega)
  have h3 := zB_rg (J 168 (b + t))
  omega
theorem tps_s {J : zJ} {b d t i : Int} (hi : 0 ≤ i) : tps (msz J b d) (mag J b) t (i + 1).toNat = tps (msz J b d) (mag J b) t i.toNat + msz J b d (J 167 (3 * (b + t) + i)) := by
  have e : (i + 1).toNat = i.toNat + 1 := by omega
  rw [e]
  show _ + msz J b d (mag J b t (i.toNat : Int)) = _
  rw [Int.toNat_of_nonneg hi]
  rfl
theorem tps_bd {J : zJ} {b r d s m t : Int} (h : MS J b r d s m) (ht : 0 ≤ t ∧ t < m) : ∀ (i : Nat), (i : Int) ≤ mar J b d t → 1 ≤ tps (msz J b d) (mag J b) t i ∧ tps (msz J b d) (mag J b) t i ≤ 1 + 364 * i
  | 0, _ => by show 1 ≤ (1 : Int) ∧ (1 : Int) ≤ _; omega
  | i + 1, hi => by
    have h1 := tps_bd h ht i (by omega)
    have hb := h.arg ht (i := i) (by omega)
    have h2 := h.sz (t := mag J b t i) ⟨hb.1.1, by have := hb.1.2; show J 167 (3 * (b + t) + i) < m; omega⟩
    show 1 ≤ tps (msz J b d) (mag J b) t i + msz J b d (mag J b t i) ∧ tps (msz J b d) (mag J b) t i + msz J b d (mag J b t i) ≤ _
    omega
end
section
set_option maxHeartbeats 4000000 in
set_option maxRecDepth 100000 in
theorem m_sizeR {l : Launch} {G : tb_G} (hl : l.stackTraces = false) (n : Nat) : ∀ (r9 : Nat) (J : zJ) (t : Int) (hr_t : -2147483648 ≤ t ∧ t < 2147483648) (b r d s m : Int) (hM : MS J b r d s m) (ht : 0 ≤ t ∧ t < m), ((J 168 (b + t)).toNat) < r9 → tz_Ok l G M_X12_sizeOf (3 + 1 * r9) 0 0 [.ref 164, zi t] n J (zqi (fun z J' => J = J' ∧ msz J b d t = z)) zN := by
  intro r9
  induction r9 with
  | zero => intro J t hr_t b r d s m hM ht hm9; exact absurd hm9 (Nat.not_lt_zero _)
  | succ r9 ih =>
    intro J t hr_t b r d s m hM ht hm9
    refine tz_Ok.of hl (by decide +kernel) rfl (tb_c1 rfl) (Nat.le_of_ble_eq_true rfl) ?_
    show tz_At l G M_X12_sizeOf (tb_rm (3 + 1 * (r9 + 1)) 0 0) none (tb_ZM G 0 0 (zQ n 0 (zqi (fun z J' => J = J' ∧ msz J b d t = z))) (zX n 0 zN)) 0 0 n J 0 [some (.ref 164), some (zi t), none, none] []
    obtain ⟨hM1, hM2, hM3, hM4, hM5, hM6⟩ := id hM
    have hT := hM.told
    have ha := hM.ar ht
    have hz := hM.sz ht
    refine tz_iconst (pc := 0) dX12_sizeOf_0 ?_
    refine tz_istore_n (pc := 1) (L2 := [_, _, _, _]) dX12_sizeOf_1 rfl (by decide) rfl ?_
    refine tz_iconst (pc := 2) dX12_sizeOf_2 ?_
    refine tz_istore_n (pc := 3) (L2 := [_, _, _, _]) dX12_sizeOf_3 rfl (by decide) rfl ?_
    have loop4 : ∀ (f9 : Nat) (q : Int) (i : Int), ((3 - i).toNat) < f9 → (0 ≤ i ∧ i ≤ mar J b d t) → (q = tps (msz J b d) (mag J b) t i.toNat) → tz_At l G M_X12_sizeOf (tb_rm (3 + 1 * (r9 + 1)) 0 0) none (tb_ZM G 0 0 (zQ n 0 (zqi (fun z J' => J = J' ∧ msz J b d t = z))) (zX n 0 zN)) 0 0 n J 4 [some (.ref 164), some (zi t), some (zi q), some (zi i)] [] := by
      intro f9
      induction f9 with
      | zero => intro q i hm9; exact absurd hm9 (Nat.not_lt_zero _)
      | succ f9 ih4 =>
        intro q i hm4 hi hq
        have hb9 := tps_bd hM ht i.toNat (by omega)
        rw [← hq] at hb9
        refine tz_iload_n (pc := 4) dX12_sizeOf_4 rfl rfl ?_
        refine tz_aload_n (pc := 5) dX12_sizeOf_5 rfl rfl ?_
        refine tz_iload_n (pc := 6) dX12_sizeOf_6 rfl rfl ?_
        refine tz_cV (pc := 7) (m_arity hl n _ _ (by omega) b r d s m hM (by omega)) vl_X12_111 dX12_sizeOf_7 o_164 rfl rfl (Nat.le_of_ble_eq_true rfl) ⟨(show 2 + 1 ≤ 3 + 1 * (r9 + 1) by omega), (show 8 + (2 + 11) + 40 * (2) ≤ 40 * (3 + 1 * (r9 + 1)) by omega)⟩ rfl rfl (Nat.le_of_ble_eq_true rfl) (Nat.le_of_ble_eq_true rfl) (fun r9 J_7 hq9 => ?_)
        obtain ⟨z_7, rfl, hz_7, rfl, rfl⟩ := hq9
        refine tz_icmp_ge (pc := 10) (tgt := 32) dX12_sizeOf_10 (by decide) (by omega) (by omega) (fun h_10 => ?_) (fun h_10 => ?_)
        · refine tz_iload_n (pc := 32) dX12_sizeOf_32 rfl rfl ?_
          exact tz_iret (pc := 33) (z := q) dX12_sizeOf_33 rfl (Nat.le_of_ble_eq_true rfl) (Nat.le_of_ble_eq_true rfl) ⟨Nat.le_refl _, Nat.le_add_right _ _⟩ ⟨_, rfl, (by omega), ⟨rfl, by rw [msz_un hM ht, hq]; congr 1; omega⟩⟩
        · refine tz_iload_n (pc := 13) dX12_sizeOf_13 rfl rfl ?_
          refine tz_aload_n (pc := 14) dX12_sizeOf_14 rfl rfl ?_
          refine tz_aload_n (pc := 15) dX12_sizeOf_15 rfl rfl ?_
          refine tz_iload_n (pc := 16) dX12_sizeOf_16 rfl rfl ?_
          refine tz_iload_n (pc := 17) dX12_sizeOf_17 rfl rfl ?_
          refine tz_cV (pc := 18) (m_arg hl n _ _ _ (by omega) (by omega) b r d s m hM (by omega) (by omega)) vl_X12_88 dX12_sizeOf_18 o_164 rfl rfl (Nat.le_of_ble_eq_true rfl) ⟨(show 0 + 1 ≤ 3 + 1 * (r9 + 1) by omega), (show 8 + (3 + 11) + 40 * (0) ≤ 40 * (3 + 1 * (r9 + 1)) by omega)⟩ rfl rfl (Nat.le_of_ble_eq_true rfl) (Nat.le_of_ble_eq_true rfl) (fun r9 J_18 hq9 => ?_)
          obtain ⟨z_18, rfl, hz_18, rfl, rfl⟩ := hq9
          have hg := hM.arg (t := t) (i := i) ht (by omega)
          have hs := hM.sz (t := J 167 (3 * (b + t) + i)) (by omega)
          refine tz_cV (pc := 21) (ih _ _ (by omega) b r d s m hM (by omega) (by omega)) vl_X12_114 dX12_sizeOf_21 o_164 rfl rfl (Nat.le_of_ble_eq_true rfl) ⟨(show (3 + 1 * r9) + 1 ≤ 3 + 1 * (r9 + 1) by omega), (show 8 + (4 + 11) + 40 * ((3 + 1 * r9)) ≤ 40 * (3 + 1 * (r9 + 1)) by omega)⟩ rfl rfl (Nat.le_of_ble_eq_true rfl) (Nat.le_of_ble_eq_true rfl) (fun r9 J_21 hq9 => ?_)
          obtain ⟨z_21, rfl, hz_21, rfl, rfl⟩ := hq9
          refine tz_iadd (pc := 24) (v := q + (msz J b d (J 167 (3 * (b + t) + i)))) dX12_sizeOf_24 rfl ?_
          refine tz_istore_n (pc := 25) (L2 := [_, _, _, _]) dX12_sizeOf_25 rfl (by decide) rfl ?_
          refine tz_iinc (pc := 26) (z := i + 1) (L2 := [_, _, _, _]) dX12_sizeOf_26 rfl (by omega) rfl ?_
          refine tz_goto (pc := 29) (tgt := 4) dX12_sizeOf_29 (by decide) ?_
          exact ih4 _ (i + 1) (by omega) (by omega) (by rw [tps_s (by omega), hq])
    exact loop4 _ 1 0 (Nat.lt_succ_self _) (by omega) rfl

theorem m_size {l : Launch} {G : tb_G} (hl : l.stackTraces = false) (n : Nat) (J : zJ) (t : Int) (hr_t : -2147483648 ≤ t ∧ t < 2147483648) (b r d s m : Int) (hM : MS J b r d s m) (ht : 0 ≤ t ∧ t < m) : tz_Ok l G M_X12_sizeOf 10 0 0 [.ref 164, zi t] n J (zqi (fun z J' => J = J' ∧ msz J b d t = z)) zN := m_sizeR hl n 7 J t hr_t b r d s m hM ht (by have := (hM.ar ht).2.2.1; omega)
set_option maxHeartbeats 4000000 in
set_option maxRecDepth 100000 in
theorem m_weightR {l : Launch} {G : tb_G} (hl : l.stackTraces = false) (n : Nat) : ∀ (r9 : Nat) (J : zJ) (t : Int) (hr_t : -2147483648 ≤ t ∧ t < 2147483648) (b r d s m : Int) (hM : MS J b r d s m) (ht : 0 ≤ t ∧ t < m), ((J 168 (b + t)).toNat) < r9 → tz_Ok l G M_X12_weightOf (3 + 1 * r9) 0 0 [.ref 164, zi t] n J (zqi (fun z J' => J = J')) zN := by
  intro r9
  induction r9 with
  | zero => intro J t hr_t b r d s m hM ht hm9; exact absurd hm9 (Nat.not_lt_zero _)
  | succ r9 ih =>
    intro J t hr_t b r d s m hM ht hm9
    refine tz_Ok.of hl (by decide +kernel) rfl (tb_c1 rfl) (Nat.le_of_ble_eq_true rfl) ?_
    show tz_At l G M_X12_weightOf (tb_rm (3 + 1 * (r9 + 1)) 0 0) none (tb_ZM G 0 0 (zQ n 0 (zqi (fun z J' => J = J'))) (zX n 0 zN)) 0 0 n J 0 [some (.ref 164), some (zi t), none, none] []
    obtain ⟨hM1, hM2, hM3, hM4, hM5, hM6⟩ := id hM
    have hT := hM.told
    have ha := hM.ar ht
    refine tz_aload_n (pc := 0) dX12_weightOf_0 rfl rfl ?_
    refine tz_iload_n (pc := 1) dX12_weightOf_1 rfl rfl ?_
    refine tz_cV (pc := 2) (m_wHead hl n _ _ (by omega) b r d s m hM ht) vl_X12_117 dX12_weightOf_2 o_164 rfl rfl (Nat.le_of_ble_eq_true rfl) ⟨(show 2 + 1 ≤ 3 + 1 * (r9 + 1) by omega), (show 8 + (2 + 11) + 40 * (2) ≤ 40 * (3 + 1 * (r9 + 1)) by omega)⟩ rfl rfl (Nat.le_of_ble_eq_true rfl) (Nat.le_of_ble_eq_true rfl) (fun r9 J_2 hq9 => ?_)
    obtain ⟨z_2, rfl, hz_2, rfl⟩ := hq9
    refine tz_istore_n (pc := 5) (L2 := [_, _, _, _]) dX12_weightOf_5 rfl (by decide) rfl ?_
    refine tz_iconst (pc := 6) dX12_weightOf_6 ?_
    refine tz_istore_n (pc := 7) (L2 := [_, _, _, _]) dX12_weightOf_7 rfl (by decide) rfl ?_
    have loop8 : ∀ (f9 : Nat) (q : Int) (i : Int), ((3 - i).toNat) < f9 → (-2147483648 ≤ q ∧ q < 2147483648) → (0 ≤ i ∧ i ≤ mar J b d t) → tz_At l G M_X12_weightOf (tb_rm (3 + 1 * (r9 + 1)) 0 0) none (tb_ZM G 0 0 (zQ n 0 (zqi (fun z J' => J = J'))) (zX n 0 zN)) 0 0 n J 8 [some (.ref 164), some (zi t), some (zi q), some (zi i)] [] := by
      intro f9
      induction f9 with
      | zero => intro q i hm9; exact absurd hm9 (Nat.not_lt_zero _)
      | succ f9 ih8 =>
        intro q i hm8 hq hi
        refine tz_iload_n (pc := 8) dX12_weightOf_8 rfl rfl ?_
        refine tz_aload_n (pc := 9) dX12_weightOf_9 rfl rfl ?_
        refine tz_iload_n (pc := 10) dX12_weightOf_10 rfl rfl ?_
        refine tz_cV (pc := 11) (m_arity hl n _ _ (by omega) b r d s m hM (by omega)) vl_X12_111 dX12_weightOf_11 o_164 rfl rfl (Nat.le_of_ble_eq_true rfl) ⟨(show 2 + 1 ≤ 3 + 1 * (r9 + 1) by omega), (show 8 + (2 + 11) + 40 * (2) ≤ 40 * (3 + 1 * (r9 + 1)) by omega)⟩ rfl rfl (Nat.le_of_ble_eq_true rfl) (Nat.le_of_ble_eq_true rfl) (fun r9 J_11 hq9 => ?_)
        obtain ⟨z_11, rfl, hz_11, rfl, rfl⟩ := hq9
        refine tz_icmp_ge (pc := 14) (tgt := 36) dX12_weightOf_14 (by decide) (by omega) (by omega) (fun h_14 => ?_) (fun h_14 => ?_)
        · refine tz_iload_n (pc := 36) dX12_weightOf_36 rfl rfl ?_
          exact tz_iret (pc := 37) (z := q) dX12_weightOf_37 rfl (Nat.le_of_ble_eq_true rfl) (Nat.le_of_ble_eq_true rfl) ⟨Nat.le_refl _, Nat.le_add_right _ _⟩ ⟨_, rfl, (by omega), rfl⟩
        · refine tz_iload_n (pc := 17) dX12_weightOf_17 rfl rfl ?_
          refine tz_aload_n (pc := 18) dX12_weightOf_18 rfl rfl ?_
          refine tz_aload_n (pc := 19) dX12_weightOf_19 rfl rfl ?_
          refine tz_iload_n (pc := 20) dX12_weightOf_20 rfl rfl ?_
          refine tz_iload_n (pc := 21) dX12_weightOf_21 rfl rfl ?_
          refine tz_cV (pc := 22) (m_arg hl n _ _ _ (by omega) (by omega) b r d s m hM (by omega) (by omega)) vl_X12_88 dX12_weightOf_22 o_164 rfl rfl (Nat.le_of_ble_eq_true rfl) ⟨(show 0 + 1 ≤ 3 + 1 * (r9 + 1) by omega), (show 8 + (3 + 11) + 40 * (0) ≤ 40 * (3 + 1 * (r9 + 1)) by omega)⟩ rfl rfl (Nat.le_of_ble_eq_true rfl) (Nat.le_of_ble_eq_true rfl) (fun r9 J_22 hq9 => ?_)
          obtain ⟨z_22, rfl, hz_22, rfl, rfl⟩ := hq9
          have hg := hM.arg (t := t) (i := i) ht (by omega)
          refine tz_cV (pc := 25) (ih _ _ (by omega) b r d s m hM (by omega) (by omega)) vl_X12_120 dX12_weightOf_25 o_164 rfl rfl (Nat.le_of_ble_eq_true rfl) ⟨(show (3 + 1 * r9) + 1 ≤ 3 + 1 * (r9 + 1) by omega), (show 8 + (4 + 11) + 40 * ((3 + 1 * r9)) ≤ 40 * (3 + 1 * (r9 + 1)) by omega)⟩ rfl rfl (Nat.le_of_ble_eq_true rfl) (Nat.le_of_ble_eq_true rfl) (fun r9 J_25 hq9 => ?_)
          obtain ⟨z_25, rfl, hz_25, rfl⟩ := hq9
          refine tz_iadd (pc := 28) (v := q + z_25) dX12_weightOf_28 rfl ?_
          refine tz_tw ?_
          have rw_29 := zw_rg (q + z_25)
          refine tz_istore_n (pc := 29) (L2 := [_, _, _, _]) dX12_weightOf_29 rfl (by decide) rfl ?_
          refine tz_iinc (pc := 30) (z := i + 1) (L2 := [_, _, _, _]) dX12_weightOf_30 rfl (by omega) rfl ?_
          refine tz_goto (pc := 33) (tgt := 8) dX12_weightOf_33 (by decide) ?_
          exact ih8 _ (i + 1) (by omega) (by omega) (by omega)
    exact loop8 _ _ 0 (Nat.lt_succ_self _) (by omega) (by omega)

theorem m_weight {l : Launch} {G : tb_G} (hl : l.stackTraces = false) (n : Nat) (J : zJ) (t : Int)  (hr_t : -2147483648 ≤ t ∧ t < 2147483648) (b r d s m : Int) (hM : MS J b r d s m) (ht : 0 ≤ t ∧ t < m) : tz_Ok l G M_X12_weightOf 10 0 0 [.ref 164, zi t] n J (zqi (fun z J' => J = J')) zN := m_weightR hl n 7 J t hr_t b r d s m hM ht (by have := (hM.ar ht).2.2.1; omega)
set_option maxHeartbeats 4000000 in
set_option maxRecDepth 100000 in
theorem m_varsR {l : Launch} {G : tb_G} (hl : l.stackTraces = false) (n : Nat) : ∀ (r9 : Nat) (J : zJ) (t : Int) (hr_t : -2147483648 ≤ t ∧ t < 2147483648) (b r d s m : Int) (hM : MS J b r d s m) (ht : 0 ≤ t ∧ t < m), ((J 168 (b + t)).toNat) < r9 → tz_Ok l G M_X12_variablesIn (3 + 1 * r9) 0 0 [.ref 164, zi t] n J (zqi (fun z J' => J = J')) zN := by
  intro r9
  induction r9 with
  | zero => intro J t hr_t b r d s m hM ht hm9; exact absurd hm9 (Nat.not_lt_zero _)
  | succ r9 ih =>
    intro J t hr_t b r d s m hM ht hm9
    refine tz_Ok.of hl (by decide +kernel) rfl (tb_c1 rfl) (Nat.le_of_ble_eq_true rfl) ?_
    show tz_At l G M_X12_variablesIn (tb_rm (3 + 1 * (r9 + 1)) 0 0) none (tb_ZM G 0 0 (zQ n 0 (zqi (fun z J' => J = J'))) (zX n 0 zN)) 0 0 n J 0 [some (.ref 164), some (zi t), none, none] []
    obtain ⟨hM1, hM2, hM3, hM4, hM5, hM6⟩ := id hM
    have hT := hM.told
    have ha := hM.ar ht
    refine tz_aload_n (pc := 0) dX12_variablesIn_0 rfl rfl ?_
    refine tz_iload_n (pc := 1) dX12_variablesIn_1 rfl rfl ?_
    refine tz_cV (pc := 2) (m_isVar hl n _ _ (by omega) b r d s m hM (by omega)) vl_X12_78 dX12_variablesIn_2 o_164 rfl rfl (Nat.le_of_ble_eq_true rfl) ⟨(show 1 + 1 ≤ 3 + 1 * (r9 + 1) by omega), (show 8 + (2 + 11) + 40 * (1) ≤ 40 * (3 + 1 * (r9 + 1)) by omega)⟩ rfl rfl (Nat.le_of_ble_eq_true rfl) (Nat.le_of_ble_eq_true rfl) (fun r9 J_2 hq9 => ?_)
    obtain ⟨z_2, rfl, hz_2, rfl, rfl⟩ := hq9
    by_cases hw_5 : J 166 (b + t) < 0
    · rw [show (if J 166 (b + t) < 0 then 1 else 0 : Int) = 1 from if_pos hw_5]
      refine tz_if_eqF (pc := 5) (tgt := 18) (by decide) dX12_variablesIn_5 (by decide) (by decide) ?_
      refine tz_iconst (pc := 8) dX12_variablesIn_8 ?_
      refine tz_aload_n (pc := 9) dX12_variablesIn_9 rfl rfl ?_
      refine tz_iload_n (pc := 10) dX12_variablesIn_10 rfl rfl ?_
      refine tz_cV (pc := 11) (m_varOf hl n _ _ (by omega) b r d s m hM (by omega)) vl_X12_123 dX12_variablesIn_11 o_164 rfl rfl (Nat.le_of_ble_eq_true rfl) ⟨(show 1 + 1 ≤ 3 + 1 * (r9 + 1) by omega), (show 8 + (2 + 11) + 40 * (1) ≤ 40 * (3 + 1 * (r9 + 1)) by omega)⟩ rfl rfl (Nat.le_of_ble_eq_true rfl) (Nat.le_of_ble_eq_true rfl) (fun r9 J_11 hq9 => ?_)
      obtain ⟨z_11, rfl, hz_11, rfl, rfl⟩ := hq9
      refine tz_ishl (pc := 14) (v := zshl 1 (-1 - J 166 (b + t))) dX12_variablesIn_14 rfl ?_
      have r_14 := zshl_rg 1 (-1 - J 166 (b + t))
      refine tz_goto (pc := 15) (tgt := 19) dX12_variablesIn_15 (by decide) ?_
      refine tz_istore_n (pc := 19) (L2 := [_, _, _, _]) dX12_variablesIn_19 rfl (by decide) rfl ?_
      refine tz_iconst (pc := 20) dX12_variablesIn_20 ?_
      refine tz_istore_n (pc := 21) (L2 := [_, _, _, _]) dX12_variablesIn_21 rfl (by decide) rfl ?_
      have loop22 : ∀ (f9 : Nat) (q : Int) (i : Int), ((3 - i).toNat) < f9 → (-2147483648 ≤ q ∧ q < 2147483648) → (0 ≤ i ∧ i ≤ mar J b d t) → tz_At l G M_X12_variablesIn (tb_rm (3 + 1 * (r9 + 1)) 0 0) none (tb_ZM G 0 0 (zQ n 0 (zqi (fun z J' => J = J'))) (zX n 0 zN)) 0 0 n J 22 [some (.ref 164), some (zi t), some (zi q), some (zi i)] [] := by
        intro f9
        induction f9 with
        | zero => intro q i hm9; exact absurd hm9 (Nat.not_lt_zero _)
        | succ f9 ih22 =>
          intro q i hm22 hq hi
          refine tz_iload_n (pc := 22) dX12_variablesIn_22 rfl rfl ?_
          refine tz_aload_n (pc := 23) dX12_variablesIn_23 rfl rfl ?_
          refine tz_iload_n (pc := 24) dX12_variablesIn_24 rfl rfl ?_
          refine tz_cV (pc := 25) (m_arity hl n _ _ (by omega) b r d s m hM (by omega)) vl_X12_111 dX12_variablesIn_25 o_164 rfl rfl (Nat.le_of_ble_eq_true rfl) ⟨(show 2 + 1 ≤ 3 + 1 * (r9 + 1) by omega), (show 8 + (2 + 11) + 40 * (2) ≤ 40 * (3 + 1 * (r9 + 1)) by omega)⟩ rfl rfl (Nat.le_of_ble_eq_true rfl) (Nat.le_of_ble_eq_true rfl) (fun r9 J_25 hq9 => ?_)
          obtain ⟨z_25, rfl, hz_25, rfl, rfl⟩ := hq9
          refine tz_icmp_ge (pc := 28) (tgt := 50) dX12_variablesIn_28 (by decide) (by omega) (by omega) (fun h_28 => ?_) (fun h_28 => ?_)
          · refine tz_iload_n (pc := 50) dX12_variablesIn_50 rfl rfl ?_
            exact tz_iret (pc := 51) (z := q) dX12_variablesIn_51 rfl (Nat.le_of_ble_eq_true rfl) (Nat.le_of_ble_eq_true rfl) ⟨Nat.le_refl _, Nat.le_add_right _ _⟩ ⟨_, rfl, (by omega), rfl⟩
          · refine tz_iload_n (pc := 31) dX12_variablesIn_31 rfl rfl ?_
            refine tz_aload_n (pc := 32) dX12_variablesIn_32 rfl rfl ?_
            refine tz_aload_n (pc := 33) dX12_variablesIn_33 rfl rfl ?_
            refine tz_iload_n (pc := 34) dX12_variablesIn_34 rfl rfl ?_
            refine tz_iload_n (pc := 35) dX12_variablesIn_35 rfl rfl ?_
            refine tz_cV (pc := 36) (m_arg hl n _ _ _ (by omega) (by omega) b r d s m hM (by omega) (by omega)) vl_X12_88 dX12_variablesIn_36 o_164 rfl rfl (Nat.le_of_ble_eq_true rfl) ⟨(show 0 + 1 ≤ 3 + 1 * (r9 + 1) by omega), (show 8 + (3 + 11) + 40 * (0) ≤ 40 * (3 + 1 * (r9 + 1)) by omega)⟩ rfl rfl (Nat.le_of_ble_eq_true rfl) (Nat.le_of_ble_eq_true rfl) (fun r9 J_36 hq9 => ?_)
            obtain ⟨z_36, rfl, hz_36, rfl, rfl⟩ := hq9
            have hg := hM.arg (t := t) (i := i) ht (by omega)
            refine tz_cV (pc := 39) (ih _ _ (by omega) b r d s m hM (by omega) (by omega)) vl_X12_126 dX12_variablesIn_39 o_164 rfl rfl (Nat.le_of_ble_eq_true rfl) ⟨(show (3 + 1 * r9) + 1 ≤ 3 + 1 * (r9 + 1) by omega), (show 8 + (4 + 11) + 40 * ((3 + 1 * r9)) ≤ 40 * (3 + 1 * (r9 + 1)) by omega)⟩ rfl rfl (Nat.le_of_ble_eq_true rfl) (Nat.le_of_ble_eq_true rfl) (fun r9 J_39 hq9 => ?_)
            obtain ⟨z_39, rfl, hz_39, rfl⟩ := hq9
            refine tz_ior (pc := 42) (v := zor q z_39) dX12_variablesIn_42 rfl ?_
            have r_42 := zor_rg q z_39
            refine tz_istore_n (pc := 43) (L2 := [_, _, _, _]) dX12_variablesIn_43 rfl (by decide) rfl ?_
            refine tz_iinc (pc := 44) (z := i + 1) (L2 := [_, _, _, _]) dX12_variablesIn_44 rfl (by omega) rfl ?_
            refine tz_goto (pc := 47) (tgt := 22) dX12_variablesIn_47 (by decide) ?_
            exact ih22 _ (i + 1) (by omega) (by omega) (by omega)
      exact loop22 _ _ 0 (Nat.lt_succ_self _) (by first | exact zshl_rg _ _ | decide) (by omega)
    · rw [show (if J 166 (b + t) < 0 then 1 else 0 : Int) = 0 from if_neg hw_5]
      refine tz_if_eqT (pc := 5) (tgt := 18) (by decide) dX12_variablesIn_5 (by decide) (by decide) ?_
      refine tz_iconst (pc := 18) dX12_variablesIn_18 ?_
      refine tz_istore_n (pc := 19) (L2 := [_, _, _, _]) dX12_variablesIn_19 rfl (by decide) rfl ?_
      refine tz_iconst (pc := 20) dX12_variablesIn_20 ?_
      refine tz_istore_n (pc := 21) (L2 := [_, _, _, _]) dX12_variablesIn_21 rfl (by decide) rfl ?_
      have loop22 : ∀ (f9 : Nat) (q : Int) (i : Int), ((3 - i).toNat) < f9 → (-2147483648 ≤ q ∧ q < 2147483648) → (0 ≤ i ∧ i ≤ mar J b d t) → tz_At l G M_X12_variablesIn (tb_rm (3 + 1 * (r9 + 1)) 0 0) none (tb_ZM G 0 0 (zQ n 0 (zqi (fun z J' => J = J'))) (zX n 0 zN)) 0 0 n J 22 [some (.ref 164), some (zi t), some (zi q), some (zi i)] [] := by
        intro f9
        induction f9 with
        | zero => intro q i hm9; exact absurd hm9 (Nat.not_lt_zero _)
        | succ f9 ih22 =>
          intro q i hm22 hq hi
          refine tz_iload_n (pc := 22) dX12_variablesIn_22 rfl rfl ?_
          refine tz_aload_n (pc := 23) dX12_variablesIn_23 rfl rfl ?_
          refine tz_iload_n (pc := 24) dX12_variablesIn_24 rfl rfl ?_
          refine tz_cV (pc := 25) (m_arity hl n _ _ (by omega) b r d s m hM (by omega)) vl_X12_111 dX12_variablesIn_25 o_164 rfl rfl (Nat.le_of_ble_eq_true rfl) ⟨(show 2 + 1 ≤ 3 + 1 * (r9 + 1) by omega), (show 8 + (2 + 11) + 40 * (2) ≤ 40 * (3 + 1 * (r9 + 1)) by omega)⟩ rfl rfl (Nat.le_of_ble_eq_true rfl) (Nat.le_of_ble_eq_true rfl) (fun r9 J_25 hq9 => ?_)
          obtain ⟨z_25, rfl, hz_25, rfl, rfl⟩ := hq9
          refine tz_icmp_ge (pc := 28) (tgt := 50) dX12_variablesIn_28 (by decide) (by omega) (by omega) (fun h_28 => ?_) (fun h_28 => ?_)
          · refine tz_iload_n (pc := 50) dX12_variablesIn_50 rfl rfl ?_
            exact tz_iret (pc := 51) (z := q) dX12_variablesIn_51 rfl (Nat.le_of_ble_eq_true rfl) (Nat.le_of_ble_eq_true rfl) ⟨Nat.le_refl _, Nat.le_add_right _ _⟩ ⟨_, rfl, (by omega), rfl⟩
          · refine tz_iload_n (pc := 31) dX12_variablesIn_31 rfl rfl ?_
            refine tz_aload_n (pc := 32) dX12_variablesIn_32 rfl rfl ?_
            refine tz_aload_n (pc := 33) dX12_variablesIn_33 rfl rfl ?_
            refine tz_iload_n (pc := 34) dX12_variablesIn_34 rfl rfl ?_
            refine tz_iload_n (pc := 35) dX12_variablesIn_35 rfl rfl ?_
            refine tz_cV (pc := 36) (m_arg hl n _ _ _ (by omega) (by omega) b r d s m hM (by omega) (by omega)) vl_X12_88 dX12_variablesIn_36 o_164 rfl rfl (Nat.le_of_ble_eq_true rfl) ⟨(show 0 + 1 ≤ 3 + 1 * (r9 + 1) by omega), (show 8 + (3 + 11) + 40 * (0) ≤ 40 * (3 + 1 * (r9 + 1)) by omega)⟩ rfl rfl (Nat.le_of_ble_eq_true rfl) (Nat.le_of_ble_eq_true rfl) (fun r9 J_36 hq9 => ?_)
            obtain ⟨z_36, rfl, hz_36, rfl, rfl⟩ := hq9
            have hg := hM.arg (t := t) (i := i) ht (by omega)
            refine tz_cV (pc := 39) (ih _ _ (by omega) b r d s m hM (by omega) (by omega)) vl_X12_126 dX12_variablesIn_39 o_164 rfl rfl (Nat.le_of_ble_eq_true rfl) ⟨(show (3 + 1 * r9) + 1 ≤ 3 + 1 * (r9 + 1) by omega), (show 8 + (4 + 11) + 40 * ((3 + 1 * r9)) ≤ 40 * (3 + 1 * (r9 + 1)) by omega)⟩ rfl rfl (Nat.le_of_ble_eq_true rfl) (Nat.le_of_ble_eq_true rfl) (fun r9 J_39 hq9 => ?_)
            obtain ⟨z_39, rfl, hz_39, rfl⟩ := hq9
            refine tz_ior (pc := 42) (v := zor q z_39) dX12_variablesIn_42 rfl ?_
            have r_42 := zor_rg q z_39
            refine tz_istore_n (pc := 43) (L2 := [_, _, _, _]) dX12_variablesIn_43 rfl (by decide) rfl ?_
            refine tz_iinc (pc := 44) (z := i + 1) (L2 := [_, _, _, _]) dX12_variablesIn_44 rfl (by omega) rfl ?_
            refine tz_goto (pc := 47) (tgt := 22) dX12_variablesIn_47 (by decide) ?_
            exact ih22 _ (i + 1) (by omega) (by omega) (by omega)
      exact loop22 _ _ 0 (Nat.lt_succ_self _) (by first | exact zshl_rg _ _ | decide) (by omega)

theorem m_vars {l : Launch} {G : tb_G} (hl : l.stackTraces = false) (n : Nat) (J : zJ) (t : Int)  (hr_t : -2147483648 ≤ t ∧ t < 2147483648) (b r d s m : Int) (hM : MS J b r d s m) (ht : 0 ≤ t ∧ t < m) : tz_Ok l G M_X12_variablesIn 10 0 0 [.ref 164, zi t] n J (zqi (fun z J' => J = J')) zN := m_varsR hl n 7 J t hr_t b r d s m hM ht (by have := (hM.ar ht).2.2.1; omega)
set_option maxHeartbeats 4000000 in
set_option maxRecDepth 100000 in
theorem m_timesR {l : Launch} {G : tb_G} (hl : l.stackTraces = false) (n : Nat) : ∀ (r9 : Nat) (J : zJ) (t : Int) (v : Int) (hr_t : -2147483648 ≤ t ∧ t < 2147483648) (hr_v : -2147483648 ≤ v ∧ v < 2147483648) (b r d s m : Int) (hM : MS J b r d s m) (ht : 0 ≤ t ∧ t < m), ((J 168 (b + t)).toNat) < r9 → tz_Ok l G M_X12_timesOf (3 + 1 * r9) 0 0 [.ref 164, zi t, zi v] n J (zqi (fun z J' => J = J')) zN := by
  intro r9
  induction r9 with
  | zero => intro J t v hr_t hr_v b r d s m hM ht hm9; exact absurd hm9 (Nat.not_lt_zero _)
  | succ r9 ih =>
    intro J t v hr_t hr_v b r d s m hM ht hm9
    refine tz_Ok.of hl (by decide +kernel) rfl (tb_c1 rfl) (Nat.le_of_ble_eq_true rfl) ?_
    show tz_At l G M_X12_timesOf (tb_rm (3 + 1 * (r9 + 1)) 0 0) none (tb_ZM G 0 0 (zQ n 0 (zqi (fun z J' => J = J'))) (zX n 0 zN)) 0 0 n J 0 [some (.ref 164), some (zi t), some (zi v), none, none] []
    obtain ⟨hM1, hM2, hM3, hM4, hM5, hM6⟩ := id hM
    have hT := hM.told
    have ha := hM.ar ht
    refine tz_aload_n (pc := 0) dX12_timesOf_0 rfl rfl ?_
    refine tz_iload_n (pc := 1) dX12_timesOf_1 rfl rfl ?_
    refine tz_cV (pc := 2) (m_isVar hl n _ _ (by omega) b r d s m hM (by omega)) vl_X12_78 dX12_timesOf_2 o_164 rfl rfl (Nat.le_of_ble_eq_true rfl) ⟨(show 1 + 1 ≤ 3 + 1 * (r9 + 1) by omega), (show 8 + (2 + 11) + 40 * (1) ≤ 40 * (3 + 1 * (r9 + 1)) by omega)⟩ rfl rfl (Nat.le_of_ble_eq_true rfl) (Nat.le_of_ble_eq_true rfl) (fun r9 J_2 hq9 => ?_)
    obtain ⟨z_2, rfl, hz_2, rfl, rfl⟩ := hq9
    by_cases hw_5 : J 166 (b + t) < 0
    · rw [show (if J 166 (b + t) < 0 then 1 else 0 : Int) = 1 from if_pos hw_5]
      refine tz_if_eqF (pc := 5) (tgt := 21) (by decide) dX12_timesOf_5 (by decide) (by decide) ?_
      refine tz_aload_n (pc := 8) dX12_timesOf_8 rfl rfl ?_
      refine tz_iload_n (pc := 9) dX12_timesOf_9 rfl rfl ?_
      refine tz_cV (pc := 10) (m_varOf hl n _ _ (by omega) b r d s m hM (by omega)) vl_X12_123 dX12_timesOf_10 o_164 rfl rfl (Nat.le_of_ble_eq_true rfl) ⟨(show 1 + 1 ≤ 3 + 1 * (r9 + 1) by omega), (show 8 + (2 + 11) + 40 * (1) ≤ 40 * (3 + 1 * (r9 + 1)) by omega)⟩ rfl rfl (Nat.le_of_ble_eq_true rfl) (Nat.le_of_ble_eq_true rfl) (fun r9 J_10 hq9 => ?_)
      obtain ⟨z_10, rfl, hz_10, rfl, rfl⟩ := hq9
      refine tz_iload_n (pc := 13) dX12_timesOf_13 rfl rfl ?_
      refine tz_icmp_ne (pc := 14) (tgt := 21) dX12_timesOf_14 (by decide) (by omega) (by omega) (fun h_14 => ?_) (fun h_14 => ?_)
      · refine tz_iconst (pc := 21) dX12_timesOf_21 ?_
        refine tz_istore_n (pc := 22) (L2 := [_, _, _, _, _]) dX12_timesOf_22 rfl (by decide) rfl ?_
        refine tz_iconst (pc := 23) dX12_timesOf_23 ?_
        refine tz_istore (pc := 24) (L2 := [_, _, _, _, _]) dX12_timesOf_24 (by decide) rfl ?_
        have loop26 : ∀ (f9 : Nat) (q : Int) (i : Int), ((3 - i).toNat) < f9 → (-2147483648 ≤ q ∧ q < 2147483648) → (0 ≤ i ∧ i ≤ mar J b d t) → tz_At l G M_X12_timesOf (tb_rm (3 + 1 * (r9 + 1)) 0 0) none (tb_ZM G 0 0 (zQ n 0 (zqi (fun z J' => J = J'))) (zX n 0 zN)) 0 0 n J 26 [some (.ref 164), some (zi t), some (zi v), some (zi q), some (zi i)] [] := by
          intro f9
          induction f9 with
          | zero => intro q i hm9; exact absurd hm9 (Nat.not_lt_zero _)
          | succ f9 ih26 =>
            intro q i hm26 hq hi
            refine tz_iload (pc := 26) dX12_timesOf_26 rfl ?_
            refine tz_aload_n (pc := 28) dX12_timesOf_28 rfl rfl ?_
            refine tz_iload_n (pc := 29) dX12_timesOf_29 rfl rfl ?_
            refine tz_cV (pc := 30) (m_arity hl n _ _ (by omega) b r d s m hM (by omega)) vl_X12_111 dX12_timesOf_30 o_164 rfl rfl (Nat.le_of_ble_eq_true rfl) ⟨(show 2 + 1 ≤ 3 + 1 * (r9 + 1) by omega), (show 8 + (2 + 11) + 40 * (2) ≤ 40 * (3 + 1 * (r9 + 1)) by omega)⟩ rfl rfl (Nat.le_of_ble_eq_true rfl) (Nat.le_of_ble_eq_true rfl) (fun r9 J_30 hq9 => ?_)
            obtain ⟨z_30, rfl, hz_30, rfl, rfl⟩ := hq9
            refine tz_icmp_ge (pc := 33) (tgt := 57) dX12_timesOf_33 (by decide) (by omega) (by omega) (fun h_33 => ?_) (fun h_33 => ?_)
            · refine tz_iload_n (pc := 57) dX12_timesOf_57 rfl rfl ?_
              exact tz_iret (pc := 58) (z := q) dX12_timesOf_58 rfl (Nat.le_of_ble_eq_true rfl) (Nat.le_of_ble_eq_true rfl) ⟨Nat.le_refl _, Nat.le_add_right _ _⟩ ⟨_, rfl, (by omega), rfl⟩
            · refine tz_iload_n (pc := 36) dX12_timesOf_36 rfl rfl ?_
              refine tz_aload_n (pc := 37) dX12_timesOf_37 rfl rfl ?_
              refine tz_aload_n (pc := 38) dX12_timesOf_38 rfl rfl ?_
              refine tz_iload_n (pc := 39) dX12_timesOf_39 rfl rfl ?_
              refine tz_iload (pc := 40) dX12_timesOf_40 rfl ?_
              refine tz_cV (pc := 42) (m_arg hl n _ _ _ (by omega) (by omega) b r d s m hM (by omega) (by omega)) vl_X12_88 dX12_timesOf_42 o_164 rfl rfl (Nat.le_of_ble_eq_true rfl) ⟨(show 0 + 1 ≤ 3 + 1 * (r9 + 1) by omega), (show 8 + (3 + 11) + 40 * (0) ≤ 40 * (3 + 1 * (r9 + 1)) by omega)⟩ rfl rfl (Nat.le_of_ble_eq_true rfl) (Nat.le_of_ble_eq_true rfl) (fun r9 J_42 hq9 => ?_)
              obtain ⟨z_42, rfl, hz_42, rfl, rfl⟩ := hq9
              refine tz_iload_n (pc := 45) dX12_timesOf_45 rfl rfl ?_
              have hg := hM.arg (t := t) (i := i) ht (by omega)
              refine tz_cV (pc := 46) (ih _ _ _ (by omega) (by omega) b r d s m hM (by omega) (by omega)) vl_X12_129 dX12_timesOf_46 o_164 rfl rfl (Nat.le_of_ble_eq_true rfl) ⟨(show (3 + 1 * r9) + 1 ≤ 3 + 1 * (r9 + 1) by omega), (show 8 + (5 + 11) + 40 * ((3 + 1 * r9)) ≤ 40 * (3 + 1 * (r9 + 1)) by omega)⟩ rfl rfl (Nat.le_of_ble_eq_true rfl) (Nat.le_of_ble_eq_true rfl) (fun r9 J_46 hq9 => ?_)
              obtain ⟨z_46, rfl, hz_46, rfl⟩ := hq9
              refine tz_iadd (pc := 49) (v := q + z_46) dX12_timesOf_49 rfl ?_
              refine tz_tw ?_
              have rw_50 := zw_rg (q + z_46)
              refine tz_istore_n (pc := 50) (L2 := [_, _, _, _, _]) dX12_timesOf_50 rfl (by decide) rfl ?_
              refine tz_iinc (pc := 51) (z := i + 1) (L2 := [_, _, _, _, _]) dX12_timesOf_51 rfl (by omega) rfl ?_
              refine tz_goto (pc := 54) (tgt := 26) dX12_timesOf_54 (by decide) ?_
              exact ih26 _ (i + 1) (by omega) (by omega) (by omega)
        exact loop26 _ _ 0 (Nat.lt_succ_self _) (by decide) (by omega)
      · refine tz_iconst (pc := 17) dX12_timesOf_17 ?_
        refine tz_goto (pc := 18) (tgt := 22) dX12_timesOf_18 (by decide) ?_
        refine tz_istore_n (pc := 22) (L2 := [_, _, _, _, _]) dX12_timesOf_22 rfl (by decide) rfl ?_
        refine tz_iconst (pc := 23) dX12_timesOf_23 ?_
        refine tz_istore (pc := 24) (L2 := [_, _, _, _, _]) dX12_timesOf_24 (by decide) rfl ?_
        have loop26 : ∀ (f9 : Nat) (q : Int) (i : Int), ((3 - i).toNat) < f9 → (-2147483648 ≤ q ∧ q < 2147483648) → (0 ≤ i ∧ i ≤ mar J b d t) → tz_At l G M_X12_timesOf (tb_rm (3 + 1 * (r9 + 1)) 0 0) none (tb_ZM G 0 0 (zQ n 0 (zqi (fun z J' => J = J'))) (zX n 0 zN)) 0 0 n J 26 [some (.ref 164), some (zi t), some (zi v), some (zi q), some (zi i)] [] := by
          intro f9
          induction f9 with
          | zero => intro q i hm9; exact absurd hm9 (Nat.not_lt_zero _)
          | succ f9 ih26 =>
            intro q i hm26 hq hi
            refine tz_iload (pc := 26) dX12_timesOf_26 rfl ?_
            refine tz_aload_n (pc := 28) dX12_timesOf_28 rfl rfl ?_
            refine tz_iload_n (pc := 29) dX12_timesOf_29 rfl rfl ?_
            refine tz_cV (pc := 30) (m_arity hl n _ _ (by omega) b r d s m hM (by omega)) vl_X12_111 dX12_timesOf_30 o_164 rfl rfl (Nat.le_of_ble_eq_true rfl) ⟨(show 2 + 1 ≤ 3 + 1 * (r9 + 1) by omega), (show 8 + (2 + 11) + 40 * (2) ≤ 40 * (3 + 1 * (r9 + 1)) by omega)⟩ rfl rfl (Nat.le_of_ble_eq_true rfl) (Nat.le_of_ble_eq_true rfl) (fun r9 J_30 hq9 => ?_)
            obtain ⟨z_30, rfl, hz_30, rfl, rfl⟩ := hq9
            refine tz_icmp_ge (pc := 33) (tgt := 57) dX12_timesOf_33 (by decide) (by omega) (by omega) (fun h_33 => ?_) (fun h_33 => ?_)
            · refine tz_iload_n (pc := 57) dX12_timesOf_57 rfl rfl ?_
              exact tz_iret (pc := 58) (z := q) dX12_timesOf_58 rfl (Nat.le_of_ble_eq_true rfl) (Nat.le_of_ble_eq_true rfl) ⟨Nat.le_refl _, Nat.le_add_right _ _⟩ ⟨_, rfl, (by omega), rfl⟩
            · refine tz_iload_n (pc := 36) dX12_timesOf_36 rfl rfl ?_
              refine tz_aload_n (pc := 37) dX12_timesOf_37 rfl rfl ?_
              refine tz_aload_n (pc := 38) dX12_timesOf_38 rfl rfl ?_
              refine tz_iload_n (pc := 39) dX12_timesOf_39 rfl rfl ?_
              refine tz_iload (pc := 40) dX12_timesOf_40 rfl ?_
              refine tz_cV (pc := 42) (m_arg hl n _ _ _ (by omega) (by omega) b r d s m hM (by omega) (by omega)) vl_X12_88 dX12_timesOf_42 o_164 rfl rfl (Nat.le_of_ble_eq_true rfl) ⟨(show 0 + 1 ≤ 3 + 1 * (r9 + 1) by omega), (show 8 + (3 + 11) + 40 * (0) ≤ 40 * (3 + 1 * (r9 + 1)) by omega)⟩ rfl rfl (Nat.le_of_ble_eq_true rfl) (Nat.le_of_ble_eq_true rfl) (fun r9 J_42 hq9 => ?_)
              obtain ⟨z_42, rfl, hz_42, rfl, rfl⟩ := hq9
              refine tz_iload_n (pc := 45) dX12_timesOf_45 rfl rfl ?_
              have hg := hM.arg (t := t) (i := i) ht (by omega)
              refine tz_cV (pc := 46) (ih _ _ _ (by omega) (by omega) b r d s m hM (by omega) (by omega)) vl_X12_129 dX12_timesOf_46 o_164 rfl rfl (Nat.le_of_ble_eq_true rfl) ⟨(show (3 + 1 * r9) + 1 ≤ 3 + 1 * (r9 + 1) by omega), (show 8 + (5 + 11) + 40 * ((3 + 1 * r9)) ≤ 40 * (3 + 1 * (r9 + 1)) by omega)⟩ rfl rfl (Nat.le_of_ble_eq_true rfl) (Nat.le_of_ble_eq_true rfl) (fun r9 J_46 hq9 => ?_)
              obtain ⟨z_46, rfl, hz_46, rfl⟩ := hq9
              refine tz_iadd (pc := 49) (v := q + z_46) dX12_timesOf_49 rfl ?_
              refine tz_tw ?_
              have rw_50 := zw_rg (q + z_46)
              refine tz_istore_n (pc := 50) (L2 := [_, _, _, _, _]) dX12_timesOf_50 rfl (by decide) rfl ?_
              refine tz_iinc (pc := 51) (z := i + 1) (L2 := [_, _, _, _, _]) dX12_timesOf_51 rfl (by omega) rfl ?_
              refine tz_goto (pc := 54) (tgt := 26) dX12_timesOf_54 (by decide) ?_
              exact ih26 _ (i + 1) (by omega) (by omega) (by omega)
        exact loop26 _ _ 0 (Nat.lt_succ_self _) (by decide) (by omega)
    · rw [show (if J 166 (b + t) < 0 then 1 else 0 : Int) = 0 from if_neg hw_5]
      refine tz_if_eqT (pc := 5) (tgt := 21) (by decide) dX12_timesOf_5 (by decide) (by decide) ?_
      refine tz_iconst (pc := 21) dX12_timesOf_21 ?_
      refine tz_istore_n (pc := 22) (L2 := [_, _, _, _, _]) dX12_timesOf_22 rfl (by decide) rfl ?_
      refine tz_iconst (pc := 23) dX12_timesOf_23 ?_
      refine tz_istore (pc := 24) (L2 := [_, _, _, _, _]) dX12_timesOf_24 (by decide) rfl ?_
      have loop26 : ∀ (f9 : Nat) (q : Int) (i : Int), ((3 - i).toNat) < f9 → (-2147483648 ≤ q ∧ q < 2147483648) → (0 ≤ i ∧ i ≤ mar J b d t) → tz_At l G M_X12_timesOf (tb_rm (3 + 1 * (r9 + 1)) 0 0) none (tb_ZM G 0 0 (zQ n 0 (zqi (fun z J' => J = J'))) (zX n 0 zN)) 0 0 n J 26 [some (.ref 164), some (zi t), some (zi v), some (zi q), some (zi i)] [] := by
        intro f9
        induction f9 with
        | zero => intro q i hm9; exact absurd hm9 (Nat.not_lt_zero _)
        | succ f9 ih26 =>
          intro q i hm26 hq hi
          refine tz_iload (pc := 26) dX12_timesOf_26 rfl ?_
          refine tz_aload_n (pc := 28) dX12_timesOf_28 rfl rfl ?_
          refine tz_iload_n (pc := 29) dX12_timesOf_29 rfl rfl ?_
          refine tz_cV (pc := 30) (m_arity hl n _ _ (by omega) b r d s m hM (by omega)) vl_X12_111 dX12_timesOf_30 o_164 rfl rfl (Nat.le_of_ble_eq_true rfl) ⟨(show 2 + 1 ≤ 3 + 1 * (r9 + 1) by omega), (show 8 + (2 + 11) + 40 * (2) ≤ 40 * (3 + 1 * (r9 + 1)) by omega)⟩ rfl rfl (Nat.le_of_ble_eq_true rfl) (Nat.le_of_ble_eq_true rfl) (fun r9 J_30 hq9 => ?_)
          obtain ⟨z_30, rfl, hz_30, rfl, rfl⟩ := hq9
          refine tz_icmp_ge (pc := 33) (tgt := 57) dX12_timesOf_33 (by decide) (by omega) (by omega) (fun h_33 => ?_) (fun h_33 => ?_)
          · refine tz_iload_n (pc := 57) dX12_timesOf_57 rfl rfl ?_
            exact tz_iret (pc := 58) (z := q) dX12_timesOf_58 rfl (Nat.le_of_ble_eq_true rfl) (Nat.le_of_ble_eq_true rfl) ⟨Nat.le_refl _, Nat.le_add_right _ _⟩ ⟨_, rfl, (by omega), rfl⟩
          · refine tz_iload_n (pc := 36) dX12_timesOf_36 rfl rfl ?_
            refine tz_aload_n (pc := 37) dX12_timesOf_37 rfl rfl ?_
            refine tz_aload_n (pc := 38) dX12_timesOf_38 rfl rfl ?_
            refine tz_iload_n (pc := 39) dX12_timesOf_39 rfl rfl ?_
            refine tz_iload (pc := 40) dX12_timesOf_40 rfl ?_
            refine tz_cV (pc := 42) (m_arg hl n _ _ _ (by omega) (by omega) b r d s m hM (by omega) (by omega)) vl_X12_88 dX12_timesOf_42 o_164 rfl rfl (Nat.le_of_ble_eq_true rfl) ⟨(show 0 + 1 ≤ 3 + 1 * (r9 + 1) by omega), (show 8 + (3 + 11) + 40 * (0) ≤ 40 * (3 + 1 * (r9 + 1)) by omega)⟩ rfl rfl (Nat.le_of_ble_eq_true rfl) (Nat.le_of_ble_eq_true rfl) (fun r9 J_42 hq9 => ?_)
            obtain ⟨z_42, rfl, hz_42, rfl, rfl⟩ := hq9
            refine tz_iload_n (pc := 45) dX12_timesOf_45 rfl rfl ?_
            have hg := hM.arg (t := t) (i := i) ht (by omega)
            refine tz_cV (pc := 46) (ih _ _ _ (by omega) (by omega) b r d s m hM (by omega) (by omega)) vl_X12_129 dX12_timesOf_46 o_164 rfl rfl (Nat.le_of_ble_eq_true rfl) ⟨(show (3 + 1 * r9) + 1 ≤ 3 + 1 * (r9 + 1) by omega), (show 8 + (5 + 11) + 40 * ((3 + 1 * r9)) ≤ 40 * (3 + 1 * (r9 + 1)) by omega)⟩ rfl rfl (Nat.le_of_ble_eq_true rfl) (Nat.le_of_ble_eq_true rfl) (fun r9 J_46 hq9 => ?_)
            obtain ⟨z_46, rfl, hz_46, rfl⟩ := hq9
            refine tz_iadd (pc := 49) (v := q + z_46) dX12_timesOf_49 rfl ?_
            refine tz_tw ?_
            have rw_50 := zw_rg (q + z_46)
            refine tz_istore_n (pc := 50) (L2 := [_, _, _, _, _]) dX12_timesOf_50 rfl (by decide) rfl ?_
            refine tz_iinc (pc := 51) (z := i + 1) (L2 := [_, _, _, _, _]) dX12_timesOf_51 rfl (by omega) rfl ?_
            refine tz_goto (pc := 54) (tgt := 26) dX12_timesOf_54 (by decide) ?_
            exact ih26 _ (i + 1) (by omega) (by omega) (by omega)
      exact loop26 _ _ 0 (Nat.lt_succ_self _) (by decide) (by omega)

theorem m_times {l : Launch} {G : tb_G} (hl : l.stackTraces = false) (n : Nat) (J : zJ) (t : Int)  (v : Int)  (hr_t : -2147483648 ≤ t ∧ t < 2147483648) (hr_v : -2147483648 ≤ v ∧ v < 2147483648) (b r d s m : Int) (hM : MS J b r d s m) (ht : 0 ≤ t ∧ t < m) : tz_Ok l G M_X12_timesOf 10 0 0 [.ref 164, zi t, zi v] n J (zqi (fun z J' => J = J')) zN := m_timesR hl n 7 J t v hr_t hr_v b r d s m hM ht (by have := (hM.ar ht).2.2.1; omega)
set_option maxHeartbeats 4000000 in
set_option maxRecDepth 100000 in
theorem m_isInR {l : Launch} {G : tb_G} (hl : l.stackTraces = false) (n : Nat) : ∀ (r9 : Nat) (J : zJ) (x : Int) (t : Int) (hr_x : -2147483648 ≤ x ∧ x < 2147483648) (hr_t : -2147483648 ≤ t ∧ t < 2147483648) (b r d s m : Int) (hM : MS J b r d s m) (ht : 0 ≤ t ∧ t < m), ((J 168 (b + t)).toNat) < r9 → tz_Ok l G M_X12_isIn (3 + 1 * r9) 0 0 [.ref 164, zi x, zi t] n J (zqi (fun z J' => J = J' ∧ (z = 0 ∨ z = 1))) zN := by
  intro r9
  induction r9 with
  | zero => intro J x t hr_x hr_t b r d s m hM ht hm9; exact absurd hm9 (Nat.not_lt_zero _)
  | succ r9 ih =>
    intro J x t hr_x hr_t b r d s m hM ht hm9
    refine tz_Ok.of hl (by decide +kernel) rfl (tb_c1 rfl) (Nat.le_of_ble_eq_true rfl) ?_
    show tz_At l G M_X12_isIn (tb_rm (3 + 1 * (r9 + 1)) 0 0) none (tb_ZM G 0 0 (zQ n 0 (zqi (fun z J' => J = J' ∧ (z = 0 ∨ z = 1)))) (zX n 0 zN)) 0 0 n J 0 [some (.ref 164), some (zi x), some (zi t), none] []
    obtain ⟨hM1, hM2, hM3, hM4, hM5, hM6⟩ := id hM
    have hT := hM.told
    have ha := hM.ar ht
    refine tz_iload_n (pc := 0) dX12_isIn_0 rfl rfl ?_
    refine tz_iload_n (pc := 1) dX12_isIn_1 rfl rfl ?_
    refine tz_icmp_ne (pc := 2) (tgt := 7) dX12_isIn_2 (by decide) (by omega) (by omega) (fun h_2 => ?_) (fun h_2 => ?_)
    · refine tz_iconst (pc := 7) dX12_isIn_7 ?_
      refine tz_istore_n (pc := 8) (L2 := [_, _, _, _]) dX12_isIn_8 rfl (by decide) rfl ?_
      have loop9 : ∀ (f9 : Nat) (i : Int), ((3 - i).toNat) < f9 → (0 ≤ i ∧ i ≤ mar J b d t) → tz_At l G M_X12_isIn (tb_rm (3 + 1 * (r9 + 1)) 0 0) none (tb_ZM G 0 0 (zQ n 0 (zqi (fun z J' => J = J' ∧ (z = 0 ∨ z = 1)))) (zX n 0 zN)) 0 0 n J 9 [some (.ref 164), some (zi x), some (zi t), some (zi i)] [] := by
        intro f9
        induction f9 with
        | zero => intro i hm9; exact absurd hm9 (Nat.not_lt_zero _)
        | succ f9 ih9 =>
          intro i hm9 hi
          refine tz_iload_n (pc := 9) dX12_isIn_9 rfl rfl ?_
          refine tz_aload_n (pc := 10) dX12_isIn_10 rfl rfl ?_
          refine tz_iload_n (pc := 11) dX12_isIn_11 rfl rfl ?_
          refine tz_cV (pc := 12) (m_arity hl n _ _ (by omega) b r d s m hM (by omega)) vl_X12_111 dX12_isIn_12 o_164 rfl rfl (Nat.le_of_ble_eq_true rfl) ⟨(show 2 + 1 ≤ 3 + 1 * (r9 + 1) by omega), (show 8 + (2 + 11) + 40 * (2) ≤ 40 * (3 + 1 * (r9 + 1)) by omega)⟩ rfl rfl (Nat.le_of_ble_eq_true rfl) (Nat.le_of_ble_eq_true rfl) (fun r9 J_12 hq9 => ?_)
          obtain ⟨z_12, rfl, hz_12, rfl, rfl⟩ := hq9
          refine tz_icmp_ge (pc := 15) (tgt := 40) dX12_isIn_15 (by decide) (by omega) (by omega) (fun h_15 => ?_) (fun h_15 => ?_)
          · refine tz_iconst (pc := 40) dX12_isIn_40 ?_
            exact tz_zret (pc := 41) (z := 0) dX12_isIn_41 rfl (Or.inl rfl) (Nat.le_of_ble_eq_true rfl) (Nat.le_of_ble_eq_true rfl) ⟨Nat.le_refl _, Nat.le_add_right _ _⟩ ⟨_, rfl, (by decide), ⟨rfl, by omega⟩⟩
          · refine tz_aload_n (pc := 18) dX12_isIn_18 rfl rfl ?_
            refine tz_iload_n (pc := 19) dX12_isIn_19 rfl rfl ?_
            refine tz_aload_n (pc := 20) dX12_isIn_20 rfl rfl ?_
            refine tz_iload_n (pc := 21) dX12_isIn_21 rfl rfl ?_
            refine tz_iload_n (pc := 22) dX12_isIn_22 rfl rfl ?_
            refine tz_cV (pc := 23) (m_arg hl n _ _ _ (by omega) (by omega) b r d s m hM (by omega) (by omega)) vl_X12_88 dX12_isIn_23 o_164 rfl rfl (Nat.le_of_ble_eq_true rfl) ⟨(show 0 + 1 ≤ 3 + 1 * (r9 + 1) by omega), (show 8 + (3 + 11) + 40 * (0) ≤ 40 * (3 + 1 * (r9 + 1)) by omega)⟩ rfl rfl (Nat.le_of_ble_eq_true rfl) (Nat.le_of_ble_eq_true rfl) (fun r9 J_23 hq9 => ?_)
            obtain ⟨z_23, rfl, hz_23, rfl, rfl⟩ := hq9
            have hg := hM.arg (t := t) (i := i) ht (by omega)
            refine tz_cV (pc := 26) (ih _ _ _ (by omega) (by omega) b r d s m hM (by omega) (by omega)) vl_X12_132 dX12_isIn_26 o_164 rfl rfl (Nat.le_of_ble_eq_true rfl) ⟨(show (3 + 1 * r9) + 1 ≤ 3 + 1 * (r9 + 1) by omega), (show 8 + (4 + 11) + 40 * ((3 + 1 * r9)) ≤ 40 * (3 + 1 * (r9 + 1)) by omega)⟩ rfl rfl (Nat.le_of_ble_eq_true rfl) (Nat.le_of_ble_eq_true rfl) (fun r9 J_26 hq9 => ?_)
            obtain ⟨z_26, rfl, hz_26, rfl, hz1⟩ := hq9
            refine tz_if_eq (pc := 29) (tgt := 34) dX12_isIn_29 (by decide) (by omega) (fun h_29 => ?_) (fun h_29 => ?_)
            · refine tz_iinc (pc := 34) (z := i + 1) (L2 := [_, _, _, _]) dX12_isIn_34 rfl (by omega) rfl ?_
              refine tz_goto (pc := 37) (tgt := 9) dX12_isIn_37 (by decide) ?_
              exact ih9 (i + 1) (by omega) (by omega)
            · refine tz_iconst (pc := 32) dX12_isIn_32 ?_
              exact tz_zret (pc := 33) (z := 1) dX12_isIn_33 rfl (Or.inr rfl) (Nat.le_of_ble_eq_true rfl) (Nat.le_of_ble_eq_true rfl) ⟨Nat.le_refl _, Nat.le_add_right _ _⟩ ⟨_, rfl, (by decide), ⟨rfl, by omega⟩⟩
      exact loop9 _ 0 (Nat.lt_succ_self _) (by omega)
    · refine tz_iconst (pc := 5) dX12_isIn_5 ?_
      exact tz_zret (pc := 6) (z := 1) dX12_isIn_6 rfl (Or.inr rfl) (Nat.le_of_ble_eq_true rfl) (Nat.le_of_ble_eq_true rfl) ⟨Nat.le_refl _, Nat.le_add_right _ _⟩ ⟨_, rfl, (by decide), ⟨rfl, by omega⟩⟩

theorem m_isIn {l : Launch} {G : tb_G} (hl : l.stackTraces = false) (n : Nat) (J : zJ) (x : Int)  (t : Int)  (hr_x : -2147483648 ≤ x ∧ x < 2147483648) (hr_t : -2147483648 ≤ t ∧ t < 2147483648) (b r d s m : Int) (hM : MS J b r d s m) (ht : 0 ≤ t ∧ t < m) : tz_Ok l G M_X12_isIn 10 0 0 [.ref 164, zi x, zi t] n J (zqi (fun z J' => J = J' ∧ (z = 0 ∨ z = 1))) zN := m_isInR hl n 7 J x t hr_x hr_t b r d s m hM ht (by have := (hM.ar ht).2.2.1; omega)
set_option maxHeartbeats 4000000 in
set_option maxRecDepth 100000 in
theorem m_shapeR {l : Launch} {G : tb_G} (hl : l.stackTraces = false) (n : Nat) : ∀ (r9 : Nat) (J : zJ) (u : Int) (t : Int) (hr_u : -2147483648 ≤ u ∧ u < 2147483648) (hr_t : -2147483648 ≤ t ∧ t < 2147483648) (b r d s m : Int) (hM : MS J b r d s m) (hs : 0 ≤ u ∧ u < m) (ht : 0 ≤ t ∧ t < m), ((J 168 (b + u)).toNat) < r9 → tz_Ok l G M_X12_isShape (3 + 1 * r9) 0 0 [.ref 164, zi u, zi t] n J (zqi (fun z J' => J = J' ∧ (z = 0 ∨ z = 1))) zN := by
  intro r9
  induction r9 with
  | zero => intro J u t hr_u hr_t b r d s m hM hs ht hm9; exact absurd hm9 (Nat.not_lt_zero _)
  | succ r9 ih =>
    intro J u t hr_u hr_t b r d s m hM hs ht hm9
    refine tz_Ok.of hl (by decide +kernel) rfl (tb_c1 rfl) (Nat.le_of_ble_eq_true rfl) ?_
    show tz_At l G M_X12_isShape (tb_rm (3 + 1 * (r9 + 1)) 0 0) none (tb_ZM G 0 0 (zQ n 0 (zqi (fun z J' => J = J' ∧ (z = 0 ∨ z = 1)))) (zX n 0 zN)) 0 0 n J 0 [some (.ref 164), some (zi u), some (zi t), none] []
    obtain ⟨hM1, hM2, hM3, hM4, hM5, hM6⟩ := id hM
    have hT := hM.told
    have ha := hM.ar hs
    have hb := hM.ar ht
    refine tz_aload_n (pc := 0) dX12_isShape_0 rfl rfl ?_
    refine tz_iload_n (pc := 1) dX12_isShape_1 rfl rfl ?_
    refine tz_cV (pc := 2) (m_isVar hl n _ _ (by omega) b r d s m hM (by omega)) vl_X12_78 dX12_isShape_2 o_164 rfl rfl (Nat.le_of_ble_eq_true rfl) ⟨(show 1 + 1 ≤ 3 + 1 * (r9 + 1) by omega), (show 8 + (2 + 11) + 40 * (1) ≤ 40 * (3 + 1 * (r9 + 1)) by omega)⟩ rfl rfl (Nat.le_of_ble_eq_true rfl) (Nat.le_of_ble_eq_true rfl) (fun r9 J_2 hq9 => ?_)
    obtain ⟨z_2, rfl, hz_2, rfl, rfl⟩ := hq9
    by_cases hw_5 : J 166 (b + u) < 0
    · rw [show (if J 166 (b + u) < 0 then 1 else 0 : Int) = 1 from if_pos hw_5]
      refine tz_if_neT (pc := 5) (tgt := 16) (by decide) dX12_isShape_5 (by decide) (by decide) ?_
      refine tz_aload_n (pc := 16) dX12_isShape_16 rfl rfl ?_
      refine tz_iload_n (pc := 17) dX12_isShape_17 rfl rfl ?_
      refine tz_cV (pc := 18) (m_isVar hl n _ _ (by omega) b r d s m hM (by omega)) vl_X12_78 dX12_isShape_18 o_164 rfl rfl (Nat.le_of_ble_eq_true rfl) ⟨(show 1 + 1 ≤ 3 + 1 * (r9 + 1) by omega), (show 8 + (2 + 11) + 40 * (1) ≤ 40 * (3 + 1 * (r9 + 1)) by omega)⟩ rfl rfl (Nat.le_of_ble_eq_true rfl) (Nat.le_of_ble_eq_true rfl) (fun r9 J_18 hq9 => ?_)
      obtain ⟨z_18, rfl, hz_18, rfl, rfl⟩ := hq9
      by_cases hw_21 : J 166 (b + u) < 0
      · rw [show (if J 166 (b + u) < 0 then 1 else 0 : Int) = 1 from if_pos hw_21]
        refine tz_if_eqF (pc := 21) (tgt := 36) (by decide) dX12_isShape_21 (by decide) (by decide) ?_
        refine tz_aload_n (pc := 24) dX12_isShape_24 rfl rfl ?_
        refine tz_iload_n (pc := 25) dX12_isShape_25 rfl rfl ?_
        refine tz_cV (pc := 26) (m_isVar hl n _ _ (by omega) b r d s m hM (by omega)) vl_X12_78 dX12_isShape_26 o_164 rfl rfl (Nat.le_of_ble_eq_true rfl) ⟨(show 1 + 1 ≤ 3 + 1 * (r9 + 1) by omega), (show 8 + (2 + 11) + 40 * (1) ≤ 40 * (3 + 1 * (r9 + 1)) by omega)⟩ rfl rfl (Nat.le_of_ble_eq_true rfl) (Nat.le_of_ble_eq_true rfl) (fun r9 J_26 hq9 => ?_)
        obtain ⟨z_26, rfl, hz_26, rfl, rfl⟩ := hq9
        by_cases hw_29 : J 166 (b + t) < 0
        · rw [show (if J 166 (b + t) < 0 then 1 else 0 : Int) = 1 from if_pos hw_29]
          refine tz_if_eqF (pc := 29) (tgt := 36) (by decide) dX12_isShape_29 (by decide) (by decide) ?_
          refine tz_iconst (pc := 32) dX12_isShape_32 ?_
          refine tz_goto (pc := 33) (tgt := 37) dX12_isShape_33 (by decide) ?_
          exact tz_zret (pc := 37) (z := 1) dX12_isShape_37 rfl (Or.inr rfl) (Nat.le_of_ble_eq_true rfl) (Nat.le_of_ble_eq_true rfl) ⟨Nat.le_refl _, Nat.le_add_right _ _⟩ ⟨_, rfl, (by decide), ⟨rfl, by omega⟩⟩
        · rw [show (if J 166 (b + t) < 0 then 1 else 0 : Int) = 0 from if_neg hw_29]
          refine tz_if_eqT (pc := 29) (tgt := 36) (by decide) dX12_isShape_29 (by decide) (by decide) ?_
          refine tz_iconst (pc := 36) dX12_isShape_36 ?_
          exact tz_zret (pc := 37) (z := 0) dX12_isShape_37 rfl (Or.inl rfl) (Nat.le_of_ble_eq_true rfl) (Nat.le_of_ble_eq_true rfl) ⟨Nat.le_refl _, Nat.le_add_right _ _⟩ ⟨_, rfl, (by decide), ⟨rfl, by omega⟩⟩
      · rw [show (if J 166 (b + u) < 0 then 1 else 0 : Int) = 0 from if_neg hw_21]
        refine tz_if_eqT (pc := 21) (tgt := 36) (by decide) dX12_isShape_21 (by decide) (by decide) ?_
        refine tz_iconst (pc := 36) dX12_isShape_36 ?_
        exact tz_zret (pc := 37) (z := 0) dX12_isShape_37 rfl (Or.inl rfl) (Nat.le_of_ble_eq_true rfl) (Nat.le_of_ble_eq_true rfl) ⟨Nat.le_refl _, Nat.le_add_right _ _⟩ ⟨_, rfl, (by decide), ⟨rfl, by omega⟩⟩
    · rw [show (if J 166 (b + u) < 0 then 1 else 0 : Int) = 0 from if_neg hw_5]
      refine tz_if_neF (pc := 5) (tgt := 16) (by decide) dX12_isShape_5 (by decide) (by decide) ?_
      refine tz_aload_n (pc := 8) dX12_isShape_8 rfl rfl ?_
      refine tz_iload_n (pc := 9) dX12_isShape_9 rfl rfl ?_
      refine tz_cV (pc := 10) (m_isVar hl n _ _ (by omega) b r d s m hM (by omega)) vl_X12_78 dX12_isShape_10 o_164 rfl rfl (Nat.le_of_ble_eq_true rfl) ⟨(show 1 + 1 ≤ 3 + 1 * (r9 + 1) by omega), (show 8 + (2 + 11) + 40 * (1) ≤ 40 * (3 + 1 * (r9 + 1)) by omega)⟩ rfl rfl (Nat.le_of_ble_eq_true rfl) (Nat.le_of_ble_eq_true rfl) (fun r9 J_10 hq9 => ?_)
      obtain ⟨z_10, rfl, hz_10, rfl, rfl⟩ := hq9
      by_cases hw_13 : J 166 (b + t) < 0
      · rw [show (if J 166 (b + t) < 0 then 1 else 0 : Int) = 1 from if_pos hw_13]
        refine tz_if_eqF (pc := 13) (tgt := 38) (by decide) dX12_isShape_13 (by decide) (by decide) ?_
        refine tz_aload_n (pc := 16) dX12_isShape_16 rfl rfl ?_
        refine tz_iload_n (pc := 17) dX12_isShape_17 rfl rfl ?_
        refine tz_cV (pc := 18) (m_isVar hl n _ _ (by omega) b r d s m hM (by omega)) vl_X12_78 dX12_isShape_18 o_164 rfl rfl (Nat.le_of_ble_eq_true rfl) ⟨(show 1 + 1 ≤ 3 + 1 * (r9 + 1) by omega), (show 8 + (2 + 11) + 40 * (1) ≤ 40 * (3 + 1 * (r9 + 1)) by omega)⟩ rfl rfl (Nat.le_of_ble_eq_true rfl) (Nat.le_of_ble_eq_true rfl) (fun r9 J_18 hq9 => ?_)
        obtain ⟨z_18, rfl, hz_18, rfl, rfl⟩ := hq9
        by_cases hw_21 : J 166 (b + u) < 0
        · rw [show (if J 166 (b + u) < 0 then 1 else 0 : Int) = 1 from if_pos hw_21]
          refine tz_if_eqF (pc := 21) (tgt := 36) (by decide) dX12_isShape_21 (by decide) (by decide) ?_
          refine tz_aload_n (pc := 24) dX12_isShape_24 rfl rfl ?_
          refine tz_iload_n (pc := 25) dX12_isShape_25 rfl rfl ?_
          refine tz_cV (pc := 26) (m_isVar hl n _ _ (by omega) b r d s m hM (by omega)) vl_X12_78 dX12_isShape_26 o_164 rfl rfl (Nat.le_of_ble_eq_true rfl) ⟨(show 1 + 1 ≤ 3 + 1 * (r9 + 1) by omega), (show 8 + (2 + 11) + 40 * (1) ≤ 40 * (3 + 1 * (r9 + 1)) by omega)⟩ rfl rfl (Nat.le_of_ble_eq_true rfl) (Nat.le_of_ble_eq_true rfl) (fun r9 J_26 hq9 => ?_)
          obtain ⟨z_26, rfl, hz_26, rfl, rfl⟩ := hq9
          by_cases hw_29 : J 166 (b + t) < 0
          · rw [show (if J 166 (b + t) < 0 then 1 else 0 : Int) = 1 from if_pos hw_29]
            refine tz_if_eqF (pc := 29) (tgt := 36) (by decide) dX12_isShape_29 (by decide) (by decide) ?_
            refine tz_iconst (pc := 32) dX12_isShape_32 ?_
            refine tz_goto (pc := 33) (tgt := 37) dX12_isShape_33 (by decide) ?_
            exact tz_zret (pc := 37) (z := 1) dX12_isShape_37 rfl (Or.inr rfl) (Nat.le_of_ble_eq_true rfl) (Nat.le_of_ble_eq_true rfl) ⟨Nat.le_refl _, Nat.le_add_right _ _⟩ ⟨_, rfl, (by decide), ⟨rfl, by omega⟩⟩
          · rw [show (if J 166 (b + t) < 0 then 1 else 0 : Int) = 0 from if_neg hw_29]
            refine tz_if_eqT (pc := 29) (tgt := 36) (by decide) dX12_isShape_29 (by decide) (by decide) ?_
            refine tz_iconst (pc := 36) dX12_isShape_36 ?_
            exact tz_zret (pc := 37) (z := 0) dX12_isShape_37 rfl (Or.inl rfl) (Nat.le_of_ble_eq_true rfl) (Nat.le_of_ble_eq_true rfl) ⟨Nat.le_refl _, Nat.le_add_right _ _⟩ ⟨_, rfl, (by decide), ⟨rfl, by omega⟩⟩
        · rw [show (if J 166 (b + u) < 0 then 1 else 0 : Int) = 0 from if_neg hw_21]
          refine tz_if_eqT (pc := 21) (tgt := 36) (by decide) dX12_isShape_21 (by decide) (by decide) ?_
          refine tz_iconst (pc := 36) dX12_isShape_36 ?_
          exact tz_zret (pc := 37) (z := 0) dX12_isShape_37 rfl (Or.inl rfl) (Nat.le_of_ble_eq_true rfl) (Nat.le_of_ble_eq_true rfl) ⟨Nat.le_refl _, Nat.le_add_right _ _⟩ ⟨_, rfl, (by decide), ⟨rfl, by omega⟩⟩
      · rw [show (if J 166 (b + t) < 0 then 1 else 0 : Int) = 0 from if_neg hw_13]
        refine tz_if_eqT (pc := 13) (tgt := 38) (by decide) dX12_isShape_13 (by decide) (by decide) ?_
        refine tz_aload_n (pc := 38) dX12_isShape_38 rfl rfl ?_
        refine tz_iload_n (pc := 39) dX12_isShape_39 rfl rfl ?_
        refine tz_cV (pc := 40) (m_head hl n _ _ (by omega) b r d s m hM (by omega)) vl_X12_74 dX12_isShape_40 o_164 rfl rfl (Nat.le_of_ble_eq_true rfl) ⟨(show 0 + 1 ≤ 3 + 1 * (r9 + 1) by omega), (show 8 + (2 + 11) + 40 * (0) ≤ 40 * (3 + 1 * (r9 + 1)) by omega)⟩ rfl rfl (Nat.le_of_ble_eq_true rfl) (Nat.le_of_ble_eq_true rfl) (fun r9 J_40 hq9 => ?_)
        obtain ⟨z_40, rfl, hz_40, rfl, rfl⟩ := hq9
        refine tz_aload_n (pc := 43) dX12_isShape_43 rfl rfl ?_
        refine tz_iload_n (pc := 44) dX12_isShape_44 rfl rfl ?_
        refine tz_cV (pc := 45) (m_head hl n _ _ (by omega) b r d s m hM (by omega)) vl_X12_74 dX12_isShape_45 o_164 rfl rfl (Nat.le_of_ble_eq_true rfl) ⟨(show 0 + 1 ≤ 3 + 1 * (r9 + 1) by omega), (show 8 + (2 + 11) + 40 * (0) ≤ 40 * (3 + 1 * (r9 + 1)) by omega)⟩ rfl rfl (Nat.le_of_ble_eq_true rfl) (Nat.le_of_ble_eq_true rfl) (fun r9 J_45 hq9 => ?_)
        obtain ⟨z_45, rfl, hz_45, rfl, rfl⟩ := hq9
        refine tz_icmp_eq (pc := 48) (tgt := 53) dX12_isShape_48 (by decide) (by omega) (by omega) (fun h_48 => ?_) (fun h_48 => ?_)
        · refine tz_iconst (pc := 53) dX12_isShape_53 ?_
          refine tz_istore_n (pc := 54) (L2 := [_, _, _, _]) dX12_isShape_54 rfl (by decide) rfl ?_
          have loop55 : ∀ (f9 : Nat) (i : Int), ((3 - i).toNat) < f9 → (0 ≤ i ∧ i ≤ mar J b d u) → tz_At l G M_X12_isShape (tb_rm (3 + 1 * (r9 + 1)) 0 0) none (tb_ZM G 0 0 (zQ n 0 (zqi (fun z J' => J = J' ∧ (z = 0 ∨ z = 1)))) (zX n 0 zN)) 0 0 n J 55 [some (.ref 164), some (zi u), some (zi t), some (zi i)] [] := by
            intro f9
            induction f9 with
            | zero => intro i hm9; exact absurd hm9 (Nat.not_lt_zero _)
            | succ f9 ih55 =>
              intro i hm55 hi
              have he := MS.hd8 (J := J) (b := b) (d := d) (t := u) (u := t) (by omega)
              refine tz_iload_n (pc := 55) dX12_isShape_55 rfl rfl ?_
              refine tz_aload_n (pc := 56) dX12_isShape_56 rfl rfl ?_
              refine tz_iload_n (pc := 57) dX12_isShape_57 rfl rfl ?_
              refine tz_cV (pc := 58) (m_arity hl n _ _ (by omega) b r d s m hM (by omega)) vl_X12_111 dX12_isShape_58 o_164 rfl rfl (Nat.le_of_ble_eq_true rfl) ⟨(show 2 + 1 ≤ 3 + 1 * (r9 + 1) by omega), (show 8 + (2 + 11) + 40 * (2) ≤ 40 * (3 + 1 * (r9 + 1)) by omega)⟩ rfl rfl (Nat.le_of_ble_eq_true rfl) (Nat.le_of_ble_eq_true rfl) (fun r9 J_58 hq9 => ?_)
              obtain ⟨z_58, rfl, hz_58, rfl, rfl⟩ := hq9
              refine tz_icmp_ge (pc := 61) (tgt := 91) dX12_isShape_61 (by decide) (by omega) (by omega) (fun h_61 => ?_) (fun h_61 => ?_)
              · refine tz_iconst (pc := 91) dX12_isShape_91 ?_
                exact tz_zret (pc := 92) (z := 1) dX12_isShape_92 rfl (Or.inr rfl) (Nat.le_of_ble_eq_true rfl) (Nat.le_of_ble_eq_true rfl) ⟨Nat.le_refl _, Nat.le_add_right _ _⟩ ⟨_, rfl, (by decide), ⟨rfl, by omega⟩⟩
              · refine tz_aload_n (pc := 64) dX12_isShape_64 rfl rfl ?_
                refine tz_aload_n (pc := 65) dX12_isShape_65 rfl rfl ?_
                refine tz_iload_n (pc := 66) dX12_isShape_66 rfl rfl ?_
                refine tz_iload_n (pc := 67) dX12_isShape_67 rfl rfl ?_
                refine tz_cV (pc := 68) (m_arg hl n _ _ _ (by omega) (by omega) b r d s m hM (by omega) (by omega)) vl_X12_88 dX12_isShape_68 o_164 rfl rfl (Nat.le_of_ble_eq_true rfl) ⟨(show 0 + 1 ≤ 3 + 1 * (r9 + 1) by omega), (show 8 + (3 + 11) + 40 * (0) ≤ 40 * (3 + 1 * (r9 + 1)) by omega)⟩ rfl rfl (Nat.le_of_ble_eq_true rfl) (Nat.le_of_ble_eq_true rfl) (fun r9 J_68 hq9 => ?_)
                obtain ⟨z_68, rfl, hz_68, rfl, rfl⟩ := hq9
                refine tz_aload_n (pc := 71) dX12_isShape_71 rfl rfl ?_
                refine tz_iload_n (pc := 72) dX12_isShape_72 rfl rfl ?_
                refine tz_iload_n (pc := 73) dX12_isShape_73 rfl rfl ?_
                refine tz_cV (pc := 74) (m_arg hl n _ _ _ (by omega) (by omega) b r d s m hM (by omega) (by omega)) vl_X12_88 dX12_isShape_74 o_164 rfl rfl (Nat.le_of_ble_eq_true rfl) ⟨(show 0 + 1 ≤ 3 + 1 * (r9 + 1) by omega), (show 8 + (3 + 11) + 40 * (0) ≤ 40 * (3 + 1 * (r9 + 1)) by omega)⟩ rfl rfl (Nat.le_of_ble_eq_true rfl) (Nat.le_of_ble_eq_true rfl) (fun r9 J_74 hq9 => ?_)
                obtain ⟨z_74, rfl, hz_74, rfl, rfl⟩ := hq9
                have hg := hM.arg (t := u) (i := i) hs (by omega)
                have hg2 := hM.arg (t := t) (i := i) ht (by omega)
                refine tz_cV (pc := 77) (ih _ _ _ (by omega) (by omega) b r d s m hM (by omega) (by omega) (by omega)) vl_X12_136 dX12_isShape_77 o_164 rfl rfl (Nat.le_of_ble_eq_true rfl) ⟨(show (3 + 1 * r9) + 1 ≤ 3 + 1 * (r9 + 1) by omega), (show 8 + (4 + 11) + 40 * ((3 + 1 * r9)) ≤ 40 * (3 + 1 * (r9 + 1)) by omega)⟩ rfl rfl (Nat.le_of_ble_eq_true rfl) (Nat.le_of_ble_eq_true rfl) (fun r9 J_77 hq9 => ?_)
                obtain ⟨z_77, rfl, hz_77, rfl, hz1⟩ := hq9
                refine tz_if_ne (pc := 80) (tgt := 85) dX12_isShape_80 (by decide) (by omega) (fun h_80 => ?_) (fun h_80 => ?_)
                · refine tz_iinc (pc := 85) (z := i + 1) (L2 := [_, _, _, _]) dX12_isShape_85 rfl (by omega) rfl ?_
                  refine tz_goto (pc := 88) (tgt := 55) dX12_isShape_88 (by decide) ?_
                  exact ih55 (i + 1) (by omega) (by omega)
                · refine tz_iconst (pc := 83) dX12_isShape_83 ?_
                  exact tz_zret (pc := 84) (z := 0) dX12_isShape_84 rfl (Or.inl rfl) (Nat.le_of_ble_eq_true rfl) (Nat.le_of_ble_eq_true rfl) ⟨Nat.le_refl _, Nat.le_add_right _ _⟩ ⟨_, rfl, (by decide), ⟨rfl, by omega⟩⟩
          exact loop55 _ 0 (Nat.lt_succ_self _) (by omega)
        · refine tz_iconst (pc := 51) dX12_isShape_51 ?_
          exact tz_zret (pc := 52) (z := 0) dX12_isShape_52 rfl (Or.inl rfl) (Nat.le_of_ble_eq_true rfl) (Nat.le_of_ble_eq_true rfl) ⟨Nat.le_refl _, Nat.le_add_right _ _⟩ ⟨_, rfl, (by decide), ⟨rfl, by omega⟩⟩

theorem m_shape {l : Launch} {G : tb_G} (hl : l.stackTraces = false) (n : Nat) (J : zJ) (u : Int)  (t : Int)  (hr_u : -2147483648 ≤ u ∧ u < 2147483648) (hr_t : -2147483648 ≤ t ∧ t < 2147483648) (b r d s m : Int) (hM : MS J b r d s m) (hs : 0 ≤ u ∧ u < m) (ht : 0 ≤ t ∧ t < m) : tz_Ok l G M_X12_isShape 10 0 0 [.ref 164, zi u, zi t] n J (zqi (fun z J' => J = J' ∧ (z = 0 ∨ z = 1))) zN := m_shapeR hl n 7 J u t hr_u hr_t b r d s m hM hs ht (by have := (hM.ar hs).2.2.1; omega)
set_option maxHeartbeats 4000000 in
set_option maxRecDepth 100000 in
theorem m_shared {l : Launch} {G : tb_G} (hl : l.stackTraces = false) (n : Nat) (J : zJ) (t : Int) (hr_t : -2147483648 ≤ t ∧ t < 2147483648) (b r d s m : Int) (hM : MS J b r d s m) (ht : 0 ≤ t ∧ t < m) : tz_Ok l G M_X12_sharedOf 11 0 0 [.ref 164, zi t] n J (zqi (fun z J' => J = J')) zN := by
  refine tz_Ok.of hl (by decide +kernel) rfl (tb_c1 rfl) (Nat.le_of_ble_eq_true rfl) ?_
  show tz_At l G M_X12_sharedOf (tb_rm 11 0 0) none (tb_ZM G 0 0 (zQ n 0 (zqi (fun z J' => J = J'))) (zX n 0 zN)) 0 0 n J 0 [some (.ref 164), some (zi t), none, none] []
  obtain ⟨hM1, hM2, hM3, hM4, hM5, hM6⟩ := id hM
  have hT := hM.told
  refine tz_iconst (pc := 0) dX12_sharedOf_0 ?_
  refine tz_istore_n (pc := 1) (L2 := [_, _, _, _]) dX12_sharedOf_1 rfl (by decide) rfl ?_
  refine tz_iconst (pc := 2) dX12_sharedOf_2 ?_
  refine tz_istore_n (pc := 3) (L2 := [_, _, _, _]) dX12_sharedOf_3 rfl (by decide) rfl ?_
  have loop4 : ∀ (f9 : Nat) (q : Int) (i : Int), ((m - i).toNat) < f9 → ((0 ≤ i ∧ i ≤ m) ∧ 0 ≤ q ∧ q ≤ i) → tz_At l G M_X12_sharedOf (tb_rm 11 0 0) none (tb_ZM G 0 0 (zQ n 0 (zqi (fun z J' => J = J'))) (zX n 0 zN)) 0 0 n J 4 [some (.ref 164), some (zi t), some (zi q), some (zi i)] [] := by
    intro f9
    induction f9 with
    | zero => intro q i hm9; exact absurd hm9 (Nat.not_lt_zero _)
    | succ f9 ih4 =>
      intro q i hm4 hi
      refine tz_iload_n (pc := 4) dX12_sharedOf_4 rfl rfl ?_
      refine tz_aload_n (pc := 5) dX12_sharedOf_5 rfl rfl ?_
      refine tz_cV (pc := 6) (m_many hl n _ b r d s m hM) vl_X12_96 dX12_sharedOf_6 o_164 rfl rfl (Nat.le_of_ble_eq_true rfl) ⟨(Nat.le_of_ble_eq_true rfl), (Nat.le_of_ble_eq_true rfl)⟩ rfl rfl (Nat.le_of_ble_eq_true rfl) (Nat.le_of_ble_eq_true rfl) (fun r9 J_6 hq9 => ?_)
      obtain ⟨z_6, rfl, hz_6, rfl, rfl⟩ := hq9
      refine tz_icmp_ge (pc := 9) (tgt := 30) dX12_sharedOf_9 (by decide) (by omega) (by omega) (fun h_9 => ?_) (fun h_9 => ?_)
      · refine tz_iload_n (pc := 30) dX12_sharedOf_30 rfl rfl ?_
        exact tz_iret (pc := 31) (z := q) dX12_sharedOf_31 rfl (Nat.le_of_ble_eq_true rfl) (Nat.le_of_ble_eq_true rfl) ⟨Nat.le_refl _, Nat.le_add_right _ _⟩ ⟨_, rfl, (by omega), rfl⟩
      · refine tz_aload_n (pc := 12) dX12_sharedOf_12 rfl rfl ?_
        refine tz_iload_n (pc := 13) dX12_sharedOf_13 rfl rfl ?_
        refine tz_iload_n (pc := 14) dX12_sharedOf_14 rfl rfl ?_
        refine tz_cV (pc := 15) (m_isIn hl n _ _ _ (by omega) (by omega) b r d s m hM ht) vl_X12_132 dX12_sharedOf_15 o_164 rfl rfl (Nat.le_of_ble_eq_true rfl) ⟨(Nat.le_of_ble_eq_true rfl), (Nat.le_of_ble_eq_true rfl)⟩ rfl rfl (Nat.le_of_ble_eq_true rfl) (Nat.le_of_ble_eq_true rfl) (fun r9 J_15 hq9 => ?_)
        obtain ⟨z_15, rfl, hz_15, rfl, hz1⟩ := hq9
        refine tz_if_eq (pc := 18) (tgt := 24) dX12_sharedOf_18 (by decide) (by omega) (fun h_18 => ?_) (fun h_18 => ?_)
        · refine tz_iinc (pc := 24) (z := i + 1) (L2 := [_, _, _, _]) dX12_sharedOf_24 rfl (by omega) rfl ?_
          refine tz_goto (pc := 27) (tgt := 4) dX12_sharedOf_27 (by decide) ?_
          exact ih4 _ (i + 1) (by omega) (by omega)
        · refine tz_iinc (pc := 21) (z := q + 1) (L2 := [_, _, _, _]) dX12_sharedOf_21 rfl (by omega) rfl ?_
          refine tz_iinc (pc := 24) (z := i + 1) (L2 := [_, _, _, _]) dX12_sharedOf_24 rfl (by omega) rfl ?_
          refine tz_goto (pc := 27) (tgt := 4) dX12_sharedOf_27 (by decide) ?_
          exact ih4 _ (i + 1) (by omega) (by omega)
  exact loop4 _ 0 0 (Nat.lt_succ_self _) (by omega)

set_option maxHeartbeats 4000000 in
set_option maxRecDepth 100000 in
theorem m_shapes {l : Launch} {G : tb_G} (hl : l.stackTraces = false) (n : Nat) (J : zJ)   (b r d s m : Int) (hM : MS J b r d s m)  : tz_Ok l G M_X12_shapes 11 0 0 [.ref 164] n J (zqi (fun z J' => J = J')) zN := by
  refine tz_Ok.of hl (by decide +kernel) rfl (tb_c1 rfl) (Nat.le_of_ble_eq_true rfl) ?_
  show tz_At l G M_X12_shapes (tb_rm 11 0 0) none (tb_ZM G 0 0 (zQ n 0 (zqi (fun z J' => J = J'))) (zX n 0 zN)) 0 0 n J 0 [some (.ref 164), none, none, none, none] []
  obtain ⟨hM1, hM2, hM3, hM4, hM5, hM6⟩ := id hM
  have hT := hM.told
  refine tz_iconst (pc := 0) dX12_shapes_0 ?_
  refine tz_istore_n (pc := 1) (L2 := [_, _, _, _, _]) dX12_shapes_1 rfl (by decide) rfl ?_
  refine tz_iconst (pc := 2) dX12_shapes_2 ?_
  refine tz_istore_n (pc := 3) (L2 := [_, _, _, _, _]) dX12_shapes_3 rfl (by decide) rfl ?_
  have loop4 : ∀ (f9 : Nat) (q : Int) (i : Int) (d3 : Option Value) (d4 : Option Value), ((m - i).toNat) < f9 → ((0 ≤ i ∧ i ≤ m) ∧ 0 ≤ q ∧ q ≤ i) → tz_At l G M_X12_shapes (tb_rm 11 0 0) none (tb_ZM G 0 0 (zQ n 0 (zqi (fun z J' => J = J'))) (zX n 0 zN)) 0 0 n J 4 [some (.ref 164), some (zi q), some (zi i), d3, d4] [] := by
    intro f9
    induction f9 with
    | zero => intro q i d3 d4 hm9; exact absurd hm9 (Nat.not_lt_zero _)
    | succ f9 ih4 =>
      intro q i d3 d4 hm4 hi
      refine tz_iload_n (pc := 4) dX12_shapes_4 rfl rfl ?_
      refine tz_aload_n (pc := 5) dX12_shapes_5 rfl rfl ?_
      refine tz_cV (pc := 6) (m_many hl n _ b r d s m hM) vl_X12_96 dX12_shapes_6 o_164 rfl rfl (Nat.le_of_ble_eq_true rfl) ⟨(Nat.le_of_ble_eq_true rfl), (Nat.le_of_ble_eq_true rfl)⟩ rfl rfl (Nat.le_of_ble_eq_true rfl) (Nat.le_of_ble_eq_true rfl) (fun r9 J_6 hq9 => ?_)
      obtain ⟨z_6, rfl, hz_6, rfl, rfl⟩ := hq9
      refine tz_icmp_ge (pc := 9) (tgt := 67) dX12_shapes_9 (by decide) (by omega) (by omega) (fun h_9 => ?_) (fun h_9 => ?_)
      · refine tz_iload_n (pc := 67) dX12_shapes_67 rfl rfl ?_
        exact tz_iret (pc := 68) (z := q) dX12_shapes_68 rfl (Nat.le_of_ble_eq_true rfl) (Nat.le_of_ble_eq_true rfl) ⟨Nat.le_refl _, Nat.le_add_right _ _⟩ ⟨_, rfl, (by omega), rfl⟩
      · refine tz_iconst (pc := 12) dX12_shapes_12 ?_
        refine tz_istore_n (pc := 13) (L2 := [_, _, _, _, _]) dX12_shapes_13 rfl (by decide) rfl ?_
        refine tz_iconst (pc := 14) dX12_shapes_14 ?_
        refine tz_istore (pc := 15) (L2 := [_, _, _, _, _]) dX12_shapes_15 (by decide) rfl ?_
        have loop17 : ∀ (f9 : Nat) (p : Int) (k : Int), ((i - k).toNat) < f9 → ((p = 0 ∨ p = 1) ∧ 0 ≤ k ∧ k ≤ i) → tz_At l G M_X12_shapes (tb_rm 11 0 0) none (tb_ZM G 0 0 (zQ n 0 (zqi (fun z J' => J = J'))) (zX n 0 zN)) 0 0 n J 17 [some (.ref 164), some (zi q), some (zi i), some (zi p), some (zi k)] [] := by
          intro f9
          induction f9 with
          | zero => intro p k hm9; exact absurd hm9 (Nat.not_lt_zero _)
          | succ f9 ih17 =>
            intro p k hm17 hp
            refine tz_iload (pc := 17) dX12_shapes_17 rfl ?_
            refine tz_iload_n (pc := 19) dX12_shapes_19 rfl rfl ?_
            refine tz_icmp_ge (pc := 20) (tgt := 49) dX12_shapes_20 (by decide) (by omega) (by omega) (fun h_20 => ?_) (fun h_20 => ?_)
            · refine tz_iload_n (pc := 49) dX12_shapes_49 rfl rfl ?_
              refine tz_iload_n (pc := 50) dX12_shapes_50 rfl rfl ?_
              refine tz_if_eq (pc := 51) (tgt := 58) dX12_shapes_51 (by decide) (by omega) (fun h_51 => ?_) (fun h_51 => ?_)
              · refine tz_iconst (pc := 58) dX12_shapes_58 ?_
                refine tz_iadd (pc := 59) (v := q + 0) dX12_shapes_59 rfl ?_
                refine tz_istore_n (pc := 60) (L2 := [_, _, _, _, _]) dX12_shapes_60 rfl (by decide) rfl ?_
                refine tz_iinc (pc := 61) (z := i + 1) (L2 := [_, _, _, _, _]) dX12_shapes_61 rfl (by omega) rfl ?_
                refine tz_goto (pc := 64) (tgt := 4) dX12_shapes_64 (by decide) ?_
                exact ih4 _ (i + 1) _ _ (by omega) (by omega)
              · refine tz_iconst (pc := 54) dX12_shapes_54 ?_
                refine tz_goto (pc := 55) (tgt := 59) dX12_shapes_55 (by decide) ?_
                refine tz_iadd (pc := 59) (v := q + 1) dX12_shapes_59 rfl ?_
                refine tz_istore_n (pc := 60) (L2 := [_, _, _, _, _]) dX12_shapes_60 rfl (by decide) rfl ?_
                refine tz_iinc (pc := 61) (z := i + 1) (L2 := [_, _, _, _, _]) dX12_shapes_61 rfl (by omega) rfl ?_
                refine tz_goto (pc := 64) (tgt := 4) dX12_shapes_64 (by decide) ?_
                exact ih4 _ (i + 1) _ _ (by omega) (by omega)
            · refine tz_iload_n (pc := 23) dX12_shapes_23 rfl rfl ?_
              refine tz_if_eq (pc := 24) (tgt := 49) dX12_shapes_24 (by decide) (by omega) (fun h_24 => ?_) (fun h_24 => ?_)
              · refine tz_iload_n (pc := 49) dX12_shapes_49 rfl rfl ?_
                refine tz_iload_n (pc := 50) dX12_shapes_50 rfl rfl ?_
                refine tz_if_eq (pc := 51) (tgt := 58) dX12_shapes_51 (by decide) (by omega) (fun h_51 => ?_) (fun h_51 => ?_)
                · refine tz_iconst (pc := 58) dX12_shapes_58 ?_
                  refine tz_iadd (pc := 59) (v := q + 0) dX12_shapes_59 rfl ?_
                  refine tz_istore_n (pc := 60) (L2 := [_, _, _, _, _]) dX12_shapes_60 rfl (by decide) rfl ?_
                  refine tz_iinc (pc := 61) (z := i + 1) (L2 := [_, _, _, _, _]) dX12_shapes_61 rfl (by omega) rfl ?_
                  refine tz_goto (pc := 64) (tgt := 4) dX12_shapes_64 (by decide) ?_
                  exact ih4 _ (i + 1) _ _ (by omega) (by omega)
                · refine tz_iconst (pc := 54) dX12_shapes_54 ?_
                  refine tz_goto (pc := 55) (tgt := 59) dX12_shapes_55 (by decide) ?_
                  refine tz_iadd (pc := 59) (v := q + 1) dX12_shapes_59 rfl ?_
                  refine tz_istore_n (pc := 60) (L2 := [_, _, _, _, _]) dX12_shapes_60 rfl (by decide) rfl ?_
                  refine tz_iinc (pc := 61) (z := i + 1) (L2 := [_, _, _, _, _]) dX12_shapes_61 rfl (by omega) rfl ?_
                  refine tz_goto (pc := 64) (tgt := 4) dX12_shapes_64 (by decide) ?_
                  exact ih4 _ (i + 1) _ _ (by omega) (by omega)
              · refine tz_aload_n (pc := 27) dX12_shapes_27 rfl rfl ?_
                refine tz_iload (pc := 28) dX12_shapes_28 rfl ?_
                refine tz_iload_n (pc := 30) dX12_shapes_30 rfl rfl ?_
                refine tz_cV (pc := 31) (m_shape hl n _ _ _ (by omega) (by omega) b r d s m hM (by omega) (by omega)) vl_X12_136 dX12_shapes_31 o_164 rfl rfl (Nat.le_of_ble_eq_true rfl) ⟨(Nat.le_of_ble_eq_true rfl), (Nat.le_of_ble_eq_true rfl)⟩ rfl rfl (Nat.le_of_ble_eq_true rfl) (Nat.le_of_ble_eq_true rfl) (fun r9 J_31 hq9 => ?_)
                obtain ⟨z_31, rfl, hz_31, rfl, hz1⟩ := hq9
                refine tz_if_ne (pc := 34) (tgt := 41) dX12_shapes_34 (by decide) (by omega) (fun h_34 => ?_) (fun h_34 => ?_)
                · refine tz_iconst (pc := 41) dX12_shapes_41 ?_
                  refine tz_istore_n (pc := 42) (L2 := [_, _, _, _, _]) dX12_shapes_42 rfl (by decide) rfl ?_
                  refine tz_iinc (pc := 43) (z := k + 1) (L2 := [_, _, _, _, _]) dX12_shapes_43 rfl (by omega) rfl ?_
                  refine tz_goto (pc := 46) (tgt := 17) dX12_shapes_46 (by decide) ?_
                  exact ih17 _ (k + 1) (by omega) (by omega)
                · refine tz_iconst (pc := 37) dX12_shapes_37 ?_
                  refine tz_goto (pc := 38) (tgt := 42) dX12_shapes_38 (by decide) ?_
                  refine tz_istore_n (pc := 42) (L2 := [_, _, _, _, _]) dX12_shapes_42 rfl (by decide) rfl ?_
                  refine tz_iinc (pc := 43) (z := k + 1) (L2 := [_, _, _, _, _]) dX12_shapes_43 rfl (by omega) rfl ?_
                  refine tz_goto (pc := 46) (tgt := 17) dX12_shapes_46 (by decide) ?_
                  exact ih17 _ (k + 1) (by omega) (by omega)
        exact loop17 _ 1 0 (Nat.lt_succ_self _) (by omega)
  exact loop4 _ 0 0 none none (Nat.lt_succ_self _) (by omega)

set_option maxHeartbeats 4000000 in
set_option maxRecDepth 100000 in
theorem m_placeR {l : Launch} {G : tb_G} (hl : l.stackTraces = false) (n : Nat) : ∀ (r9 : Nat) (J : zJ) (t : Int) (p : Int) (hr_t : -2147483648 ≤ t ∧ t < 2147483648) (hr_p : -2147483648 ≤ p ∧ p < 2147483648) (b r d s m : Int) (hM : MS J b r d s m) (ht : 0 ≤ t ∧ t < m), ((J 168 (b + t)).toNat) < r9 → tz_Ok l G M_X12_placeOf (12 + 1 * r9) 0 0 [.ref 164, zi t, zi p] n J (zqi (fun z J' => J = J' ∧ (z = -1 ∨ (0 ≤ z ∧ z < m)) ∧ (0 ≤ p → p < msz J b d t → 0 ≤ z))) zN := by
  intro r9
  induction r9 with
  | zero => intro J t p hr_t hr_p b r d s m hM ht hm9; exact absurd hm9 (Nat.not_lt_zero _)
  | succ r9 ih =>
    intro J t p hr_t hr_p b r d s m hM ht hm9
    refine tz_Ok.of hl (by decide +kernel) rfl (tb_c1 rfl) (Nat.le_of_ble_eq_true rfl) ?_
    show tz_At l G M_X12_placeOf (tb_rm (12 + 1 * (r9 + 1)) 0 0) none (tb_ZM G 0 0 (zQ n 0 (zqi (fun z J' => J = J' ∧ (z = -1 ∨ (0 ≤ z ∧ z < m)) ∧ (0 ≤ p → p < msz J b d t → 0 ≤ z)))) (zX n 0 zN)) 0 0 n J 0 [some (.ref 164), some (zi t), some (zi p), none, none, none] []
    obtain ⟨hM1, hM2, hM3, hM4, hM5, hM6⟩ := id hM
    have hT := hM.told
    have ha := hM.ar ht
    have hz := hM.sz ht
    have hu := msz_un hM ht
    refine tz_iload_n (pc := 0) dX12_placeOf_0 rfl rfl ?_
    refine tz_if_ge (pc := 1) (tgt := 6) dX12_placeOf_1 (by decide) (by omega) (fun h_1 => ?_) (fun h_1 => ?_)
    · refine tz_iload_n (pc := 6) dX12_placeOf_6 rfl rfl ?_
      refine tz_if_ne (pc := 7) (tgt := 12) dX12_placeOf_7 (by decide) (by omega) (fun h_7 => ?_) (fun h_7 => ?_)
      · refine tz_iload_n (pc := 12) dX12_placeOf_12 rfl rfl ?_
        refine tz_iconst (pc := 13) dX12_placeOf_13 ?_
        refine tz_isub (pc := 14) (v := p - 1) dX12_placeOf_14 rfl ?_
        refine tz_istore_n (pc := 15) (L2 := [_, _, _, _, _, _]) dX12_placeOf_15 rfl (by decide) rfl ?_
        refine tz_iconst (pc := 16) dX12_placeOf_16 ?_
        refine tz_istore (pc := 17) (L2 := [_, _, _, _, _, _]) dX12_placeOf_17 (by decide) rfl ?_
        have loop19 : ∀ (f9 : Nat) (q : Int) (i : Int) (d5 : Option Value), ((3 - i).toNat) < f9 → ((0 ≤ i ∧ i ≤ mar J b d t) ∧ 0 ≤ q) → (q = p - tps (msz J b d) (mag J b) t i.toNat) → tz_At l G M_X12_placeOf (tb_rm (12 + 1 * (r9 + 1)) 0 0) none (tb_ZM G 0 0 (zQ n 0 (zqi (fun z J' => J = J' ∧ (z = -1 ∨ (0 ≤ z ∧ z < m)) ∧ (0 ≤ p → p < msz J b d t → 0 ≤ z)))) (zX n 0 zN)) 0 0 n J 19 [some (.ref 164), some (zi t), some (zi p), some (zi q), some (zi i), d5] [] := by
          intro f9
          induction f9 with
          | zero => intro q i d5 hm9; exact absurd hm9 (Nat.not_lt_zero _)
          | succ f9 ih19 =>
            intro q i d5 hm19 hi hq
            have hb9 := tps_bd hM ht i.toNat (by omega)
            refine tz_iload (pc := 19) dX12_placeOf_19 rfl ?_
            refine tz_aload_n (pc := 21) dX12_placeOf_21 rfl rfl ?_
            refine tz_iload_n (pc := 22) dX12_placeOf_22 rfl rfl ?_
            refine tz_cV (pc := 23) (m_arity hl n _ _ (by omega) b r d s m hM (by omega)) vl_X12_111 dX12_placeOf_23 o_164 rfl rfl (Nat.le_of_ble_eq_true rfl) ⟨(show 2 + 1 ≤ 12 + 1 * (r9 + 1) by omega), (show 8 + (2 + 11) + 40 * (2) ≤ 40 * (12 + 1 * (r9 + 1)) by omega)⟩ rfl rfl (Nat.le_of_ble_eq_true rfl) (Nat.le_of_ble_eq_true rfl) (fun r9 J_23 hq9 => ?_)
            obtain ⟨z_23, rfl, hz_23, rfl, rfl⟩ := hq9
            refine tz_icmp_ge (pc := 26) (tgt := 72) dX12_placeOf_26 (by decide) (by omega) (by omega) (fun h_26 => ?_) (fun h_26 => ?_)
            · refine tz_iconst (pc := 72) dX12_placeOf_72 ?_
              exact tz_iret (pc := 73) (z := (-1)) dX12_placeOf_73 rfl (Nat.le_of_ble_eq_true rfl) (Nat.le_of_ble_eq_true rfl) ⟨Nat.le_refl _, Nat.le_add_right _ _⟩ ⟨_, rfl, (by decide), (by first | exact ⟨rfl, hz1, fun _ _ => hz2 (by omega) (by omega)⟩ | exact ⟨rfl, by omega, fun _ _ => by omega⟩ | exact ⟨rfl, Or.inl rfl, fun _ w9 => by rw [hu, show (mar J b d t).toNat = i.toNat by omega] at w9; omega⟩)⟩
            · refine tz_aload_n (pc := 29) dX12_placeOf_29 rfl rfl ?_
              refine tz_aload_n (pc := 30) dX12_placeOf_30 rfl rfl ?_
              refine tz_iload_n (pc := 31) dX12_placeOf_31 rfl rfl ?_
              refine tz_iload (pc := 32) dX12_placeOf_32 rfl ?_
              refine tz_cV (pc := 34) (m_arg hl n _ _ _ (by omega) (by omega) b r d s m hM (by omega) (by omega)) vl_X12_88 dX12_placeOf_34 o_164 rfl rfl (Nat.le_of_ble_eq_true rfl) ⟨(show 0 + 1 ≤ 12 + 1 * (r9 + 1) by omega), (show 8 + (3 + 11) + 40 * (0) ≤ 40 * (12 + 1 * (r9 + 1)) by omega)⟩ rfl rfl (Nat.le_of_ble_eq_true rfl) (Nat.le_of_ble_eq_true rfl) (fun r9 J_34 hq9 => ?_)
              obtain ⟨z_34, rfl, hz_34, rfl, rfl⟩ := hq9
              have hg := hM.arg (t := t) (i := i) ht (by omega)
              have hs := hM.sz (t := J 167 (3 * (b + t) + i)) (by omega)
              refine tz_cV (pc := 37) (m_size hl n _ _ (by omega) b r d s m hM (by omega)) vl_X12_114 dX12_placeOf_37 o_164 rfl rfl (Nat.le_of_ble_eq_true rfl) ⟨(show 10 + 1 ≤ 12 + 1 * (r9 + 1) by omega), (show 8 + (4 + 11) + 40 * (10) ≤ 40 * (12 + 1 * (r9 + 1)) by omega)⟩ rfl rfl (Nat.le_of_ble_eq_true rfl) (Nat.le_of_ble_eq_true rfl) (fun r9 J_37 hq9 => ?_)
              obtain ⟨z_37, rfl, hz_37, rfl, rfl⟩ := hq9
              refine tz_istore (pc := 40) (L2 := [_, _, _, _, _, _]) dX12_placeOf_40 (by decide) rfl ?_
              refine tz_iload_n (pc := 42) dX12_placeOf_42 rfl rfl ?_
              refine tz_iload (pc := 43) dX12_placeOf_43 rfl ?_
              refine tz_icmp_ge (pc := 45) (tgt := 61) dX12_placeOf_45 (by decide) (by omega) (by omega) (fun h_45 => ?_) (fun h_45 => ?_)
              · refine tz_iload_n (pc := 61) dX12_placeOf_61 rfl rfl ?_
                refine tz_iload (pc := 62) dX12_placeOf_62 rfl ?_
                refine tz_isub (pc := 64) (v := q - (msz J b d (J 167 (3 * (b + t) + i)))) dX12_placeOf_64 rfl ?_
                refine tz_istore_n (pc := 65) (L2 := [_, _, _, _, _, _]) dX12_placeOf_65 rfl (by decide) rfl ?_
                refine tz_iinc (pc := 66) (z := i + 1) (L2 := [_, _, _, _, _, _]) dX12_placeOf_66 rfl (by omega) rfl ?_
                refine tz_goto (pc := 69) (tgt := 19) dX12_placeOf_69 (by decide) ?_
                exact ih19 _ (i + 1) _ (by omega) (by omega) (by rw [tps_s (by omega)]; omega)
              · refine tz_aload_n (pc := 48) dX12_placeOf_48 rfl rfl ?_
                refine tz_aload_n (pc := 49) dX12_placeOf_49 rfl rfl ?_
                refine tz_iload_n (pc := 50) dX12_placeOf_50 rfl rfl ?_
                refine tz_iload (pc := 51) dX12_placeOf_51 rfl ?_
                refine tz_cV (pc := 53) (m_arg hl n _ _ _ (by omega) (by omega) b r d s m hM (by omega) (by omega)) vl_X12_88 dX12_placeOf_53 o_164 rfl rfl (Nat.le_of_ble_eq_true rfl) ⟨(show 0 + 1 ≤ 12 + 1 * (r9 + 1) by omega), (show 8 + (3 + 11) + 40 * (0) ≤ 40 * (12 + 1 * (r9 + 1)) by omega)⟩ rfl rfl (Nat.le_of_ble_eq_true rfl) (Nat.le_of_ble_eq_true rfl) (fun r9 J_53 hq9 => ?_)
                obtain ⟨z_53, rfl, hz_53, rfl, rfl⟩ := hq9
                refine tz_iload_n (pc := 56) dX12_placeOf_56 rfl rfl ?_
                refine tz_cV (pc := 57) (ih _ _ _ (by omega) (by omega) b r d s m hM (by omega) (by omega)) vl_X12_139 dX12_placeOf_57 o_164 rfl rfl (Nat.le_of_ble_eq_true rfl) ⟨(show (12 + 1 * r9) + 1 ≤ 12 + 1 * (r9 + 1) by omega), (show 8 + (6 + 11) + 40 * ((12 + 1 * r9)) ≤ 40 * (12 + 1 * (r9 + 1)) by omega)⟩ rfl rfl (Nat.le_of_ble_eq_true rfl) (Nat.le_of_ble_eq_true rfl) (fun r9 J_57 hq9 => ?_)
                obtain ⟨z_57, rfl, hz_57, rfl, hz1, hz2⟩ := hq9
                exact tz_iret (pc := 60) (z := z_57) dX12_placeOf_60 rfl (Nat.le_of_ble_eq_true rfl) (Nat.le_of_ble_eq_true rfl) ⟨Nat.le_refl _, Nat.le_add_right _ _⟩ ⟨_, rfl, (by omega), (by first | exact ⟨rfl, hz1, fun _ _ => hz2 (by omega) (by omega)⟩ | exact ⟨rfl, by omega, fun _ _ => by omega⟩ | exact ⟨rfl, Or.inl rfl, fun _ w9 => by rw [hu, show (mar J b d t).toNat = i.toNat by omega] at w9; omega⟩)⟩
        exact loop19 _ _ 0 none (Nat.lt_succ_self _) (by omega) rfl
      · refine tz_iload_n (pc := 10) dX12_placeOf_10 rfl rfl ?_
        exact tz_iret (pc := 11) (z := t) dX12_placeOf_11 rfl (Nat.le_of_ble_eq_true rfl) (Nat.le_of_ble_eq_true rfl) ⟨Nat.le_refl _, Nat.le_add_right _ _⟩ ⟨_, rfl, (by omega), (by first | exact ⟨rfl, hz1, fun _ _ => hz2 (by omega) (by omega)⟩ | exact ⟨rfl, by omega, fun _ _ => by omega⟩ | exact ⟨rfl, Or.inl rfl, fun _ w9 => by rw [hu, show (mar J b d t).toNat = i.toNat by omega] at w9; omega⟩)⟩
    · refine tz_iconst (pc := 4) dX12_placeOf_4 ?_
      exact tz_iret (pc := 5) (z := (-1)) dX12_placeOf_5 rfl (Nat.le_of_ble_eq_true rfl) (Nat.le_of_ble_eq_true rfl) ⟨Nat.le_refl _, Nat.le_add_right _ _⟩ ⟨_, rfl, (by decide), (by first | exact ⟨rfl, hz1, fun _ _ => hz2 (by omega) (by omega)⟩ | exact ⟨rfl, by omega, fun _ _ => by omega⟩ | exact ⟨rfl, Or.inl rfl, fun _ w9 => by rw [hu, show (mar J b d t).toNat = i.toNat by omega] at w9; omega⟩)⟩

theorem m_place {l : Launch} {G : tb_G} (hl : l.stackTraces = false) (n : Nat) (J : zJ) (t : Int)  (p : Int)  (hr_t : -2147483648 ≤ t ∧ t < 2147483648) (hr_p : -2147483648 ≤ p ∧ p < 2147483648) (b r d s m : Int) (hM : MS J b r d s m) (ht : 0 ≤ t ∧ t < m) : tz_Ok l G M_X12_placeOf 19 0 0 [.ref 164, zi t, zi p] n J (zqi (fun z J' => J = J' ∧ (z = -1 ∨ (0 ≤ z ∧ z < m)) ∧ (0 ≤ p → p < msz J b d t → 0 ≤ z))) zN := m_placeR hl n 7 J t p hr_t hr_p b r d s m hM ht (by have := (hM.ar ht).2.2.1; omega)
set_option maxHeartbeats 4000000 in
set_option maxRecDepth 100000 in
theorem m_greaterR {l : Launch} {G : tb_G} (hl : l.stackTraces = false) (n : Nat) : ∀ (r9 : Nat) (J : zJ) (u : Int) (t : Int) (hr_u : -2147483648 ≤ u ∧ u < 2147483648) (hr_t : -2147483648 ≤ t ∧ t < 2147483648) (b r d s m : Int) (hM : MS J b r d s m) (hs : 0 ≤ u ∧ u < m) (ht : 0 ≤ t ∧ t < m), ((J 168 (b + u)).toNat) < r9 → tz_Ok l G M_X12_isGreater (12 + 1 * r9) 0 0 [.ref 164, zi u, zi t] n J (zqi (fun z J' => J = J' ∧ (z = 0 ∨ z = 1))) zN := by
  intro r9
  induction r9 with
  | zero => intro J u t hr_u hr_t b r d s m hM hs ht hm9; exact absurd hm9 (Nat.not_lt_zero _)
  | succ r9 ih =>
    intro J u t hr_u hr_t b r d s m hM hs ht hm9
    refine tz_Ok.of hl (by decide +kernel) rfl (tb_c1 rfl) (Nat.le_of_ble_eq_true rfl) ?_
    show tz_At l G M_X12_isGreater (tb_rm (12 + 1 * (r9 + 1)) 0 0) none (tb_ZM G 0 0 (zQ n 0 (zqi (fun z J' => J = J' ∧ (z = 0 ∨ z = 1)))) (zX n 0 zN)) 0 0 n J 0 [some (.ref 164), some (zi u), some (zi t), none, none] []
    obtain ⟨hM1, hM2, hM3, hM4, hM5, hM6⟩ := id hM
    have hT := hM.told
    have ha := hM.ar hs
    have hb := hM.ar ht
    refine tz_iload_n (pc := 0) dX12_isGreater_0 rfl rfl ?_
    refine tz_iload_n (pc := 1) dX12_isGreater_1 rfl rfl ?_
    refine tz_icmp_ne (pc := 2) (tgt := 7) dX12_isGreater_2 (by decide) (by omega) (by omega) (fun h_2 => ?_) (fun h_2 => ?_)
    · refine tz_iconst (pc := 7) dX12_isGreater_7 ?_
      refine tz_istore_n (pc := 8) (L2 := [_, _, _, _, _]) dX12_isGreater_8 rfl (by decide) rfl ?_
      have loop9 : ∀ (f9 : Nat) (v : Int), ((8 - v).toNat) < f9 → (0 ≤ v ∧ v ≤ 8) → tz_At l G M_X12_isGreater (tb_rm (12 + 1 * (r9 + 1)) 0 0) none (tb_ZM G 0 0 (zQ n 0 (zqi (fun z J' => J = J' ∧ (z = 0 ∨ z = 1)))) (zX n 0 zN)) 0 0 n J 9 [some (.ref 164), some (zi u), some (zi t), some (zi v), none] [] := by
        intro f9
        induction f9 with
        | zero => intro v hm9; exact absurd hm9 (Nat.not_lt_zero _)
        | succ f9 ih9 =>
          intro v hm9 hv
          refine tz_iload_n (pc := 9) dX12_isGreater_9 rfl rfl ?_
          refine tz_bipush (pc := 10) dX12_isGreater_10 (by decide) ?_
          refine tz_icmp_ge (pc := 12) (tgt := 38) dX12_isGreater_12 (by decide) (by omega) (by decide) (fun h_12 => ?_) (fun h_12 => ?_)
          · refine tz_aload_n (pc := 38) dX12_isGreater_38 rfl rfl ?_
            refine tz_iload_n (pc := 39) dX12_isGreater_39 rfl rfl ?_
            refine tz_cV (pc := 40) (m_weight hl n _ _ (by omega) b r d s m hM (by omega)) vl_X12_120 dX12_isGreater_40 o_164 rfl rfl (Nat.le_of_ble_eq_true rfl) ⟨(show 10 + 1 ≤ 12 + 1 * (r9 + 1) by omega), (show 8 + (4 + 11) + 40 * (10) ≤ 40 * (12 + 1 * (r9 + 1)) by omega)⟩ rfl rfl (Nat.le_of_ble_eq_true rfl) (Nat.le_of_ble_eq_true rfl) (fun r9 J_40 hq9 => ?_)
            obtain ⟨z_40, rfl, hz_40, rfl⟩ := hq9
            refine tz_aload_n (pc := 43) dX12_isGreater_43 rfl rfl ?_
            refine tz_iload_n (pc := 44) dX12_isGreater_44 rfl rfl ?_
            refine tz_cV (pc := 45) (m_weight hl n _ _ (by omega) b r d s m hM (by omega)) vl_X12_120 dX12_isGreater_45 o_164 rfl rfl (Nat.le_of_ble_eq_true rfl) ⟨(show 10 + 1 ≤ 12 + 1 * (r9 + 1) by omega), (show 8 + (4 + 11) + 40 * (10) ≤ 40 * (12 + 1 * (r9 + 1)) by omega)⟩ rfl rfl (Nat.le_of_ble_eq_true rfl) (Nat.le_of_ble_eq_true rfl) (fun r9 J_45 hq9 => ?_)
            obtain ⟨z_45, rfl, hz_45, rfl⟩ := hq9
            refine tz_isub (pc := 48) (v := z_40 - z_45) dX12_isGreater_48 rfl ?_
            refine tz_tw ?_
            have rw_49 := zw_rg (z_40 - z_45)
            refine tz_istore_n (pc := 49) (L2 := [_, _, _, _, _]) dX12_isGreater_49 rfl (by decide) rfl ?_
            refine tz_iload_n (pc := 50) dX12_isGreater_50 rfl rfl ?_
            refine tz_if_eq (pc := 51) (tgt := 64) dX12_isGreater_51 (by decide) (zw_rg _) (fun h_51 => ?_) (fun h_51 => ?_)
            · refine tz_aload_n (pc := 64) dX12_isGreater_64 rfl rfl ?_
              refine tz_iload_n (pc := 65) dX12_isGreater_65 rfl rfl ?_
              refine tz_cV (pc := 66) (m_isVar hl n _ _ (by omega) b r d s m hM (by omega)) vl_X12_78 dX12_isGreater_66 o_164 rfl rfl (Nat.le_of_ble_eq_true rfl) ⟨(show 1 + 1 ≤ 12 + 1 * (r9 + 1) by omega), (show 8 + (2 + 11) + 40 * (1) ≤ 40 * (12 + 1 * (r9 + 1)) by omega)⟩ rfl rfl (Nat.le_of_ble_eq_true rfl) (Nat.le_of_ble_eq_true rfl) (fun r9 J_66 hq9 => ?_)
              obtain ⟨z_66, rfl, hz_66, rfl, rfl⟩ := hq9
              by_cases hw_69 : J 166 (b + t) < 0
              · rw [show (if J 166 (b + t) < 0 then 1 else 0 : Int) = 1 from if_pos hw_69]
                refine tz_if_eqF (pc := 69) (tgt := 74) (by decide) dX12_isGreater_69 (by decide) (by decide) ?_
                refine tz_iconst (pc := 72) dX12_isGreater_72 ?_
                exact tz_zret (pc := 73) (z := 1) dX12_isGreater_73 rfl (Or.inr rfl) (Nat.le_of_ble_eq_true rfl) (Nat.le_of_ble_eq_true rfl) ⟨Nat.le_refl _, Nat.le_add_right _ _⟩ ⟨_, rfl, (by decide), ⟨rfl, by omega⟩⟩
              · rw [show (if J 166 (b + t) < 0 then 1 else 0 : Int) = 0 from if_neg hw_69]
                refine tz_if_eqT (pc := 69) (tgt := 74) (by decide) dX12_isGreater_69 (by decide) (by decide) ?_
                refine tz_aload_n (pc := 74) dX12_isGreater_74 rfl rfl ?_
                refine tz_iload_n (pc := 75) dX12_isGreater_75 rfl rfl ?_
                refine tz_cV (pc := 76) (m_isVar hl n _ _ (by omega) b r d s m hM (by omega)) vl_X12_78 dX12_isGreater_76 o_164 rfl rfl (Nat.le_of_ble_eq_true rfl) ⟨(show 1 + 1 ≤ 12 + 1 * (r9 + 1) by omega), (show 8 + (2 + 11) + 40 * (1) ≤ 40 * (12 + 1 * (r9 + 1)) by omega)⟩ rfl rfl (Nat.le_of_ble_eq_true rfl) (Nat.le_of_ble_eq_true rfl) (fun r9 J_76 hq9 => ?_)
                obtain ⟨z_76, rfl, hz_76, rfl, rfl⟩ := hq9
                by_cases hw_79 : J 166 (b + u) < 0
                · rw [show (if J 166 (b + u) < 0 then 1 else 0 : Int) = 1 from if_pos hw_79]
                  refine tz_if_eqF (pc := 79) (tgt := 84) (by decide) dX12_isGreater_79 (by decide) (by decide) ?_
                  refine tz_iconst (pc := 82) dX12_isGreater_82 ?_
                  exact tz_zret (pc := 83) (z := 0) dX12_isGreater_83 rfl (Or.inl rfl) (Nat.le_of_ble_eq_true rfl) (Nat.le_of_ble_eq_true rfl) ⟨Nat.le_refl _, Nat.le_add_right _ _⟩ ⟨_, rfl, (by decide), ⟨rfl, by omega⟩⟩
                · rw [show (if J 166 (b + u) < 0 then 1 else 0 : Int) = 0 from if_neg hw_79]
                  refine tz_if_eqT (pc := 79) (tgt := 84) (by decide) dX12_isGreater_79 (by decide) (by decide) ?_
                  refine tz_aload_n (pc := 84) dX12_isGreater_84 rfl rfl ?_
                  refine tz_iload_n (pc := 85) dX12_isGreater_85 rfl rfl ?_
                  refine tz_cV (pc := 86) (m_head hl n _ _ (by omega) b r d s m hM (by omega)) vl_X12_74 dX12_isGreater_86 o_164 rfl rfl (Nat.le_of_ble_eq_true rfl) ⟨(show 0 + 1 ≤ 12 + 1 * (r9 + 1) by omega), (show 8 + (2 + 11) + 40 * (0) ≤ 40 * (12 + 1 * (r9 + 1)) by omega)⟩ rfl rfl (Nat.le_of_ble_eq_true rfl) (Nat.le_of_ble_eq_true rfl) (fun r9 J_86 hq9 => ?_)
                  obtain ⟨z_86, rfl, hz_86, rfl, rfl⟩ := hq9
                  refine tz_aload_n (pc := 89) dX12_isGreater_89 rfl rfl ?_
                  refine tz_iload_n (pc := 90) dX12_isGreater_90 rfl rfl ?_
                  refine tz_cV (pc := 91) (m_head hl n _ _ (by omega) b r d s m hM (by omega)) vl_X12_74 dX12_isGreater_91 o_164 rfl rfl (Nat.le_of_ble_eq_true rfl) ⟨(show 0 + 1 ≤ 12 + 1 * (r9 + 1) by omega), (show 8 + (2 + 11) + 40 * (0) ≤ 40 * (12 + 1 * (r9 + 1)) by omega)⟩ rfl rfl (Nat.le_of_ble_eq_true rfl) (Nat.le_of_ble_eq_true rfl) (fun r9 J_91 hq9 => ?_)
                  obtain ⟨z_91, rfl, hz_91, rfl, rfl⟩ := hq9
                  refine tz_icmp_eq (pc := 94) (tgt := 116) dX12_isGreater_94 (by decide) (by omega) (by omega) (fun h_94 => ?_) (fun h_94 => ?_)
                  · obtain ⟨i0, hi0, hn0⟩ := hM.unl hs ht (by omega) (by omega)
                    have he := MS.hd8 (J := J) (b := b) (d := d) (t := u) (u := t) (by omega)
                    refine tz_iconst (pc := 116) dX12_isGreater_116 ?_
                    refine tz_istore (pc := 117) (L2 := [_, _, _, _, _]) dX12_isGreater_117 (by decide) rfl ?_
                    have loop119 : ∀ (f9 : Nat) (i : Int), ((3 - i).toNat) < f9 → (0 ≤ i) → (∀ q, 0 ≤ q → q < i → J 167 (3 * (b + u) + q) = J 167 (3 * (b + t) + q)) → tz_At l G M_X12_isGreater (tb_rm (12 + 1 * (r9 + 1)) 0 0) none (tb_ZM G 0 0 (zQ n 0 (zqi (fun z J' => J = J' ∧ (z = 0 ∨ z = 1)))) (zX n 0 zN)) 0 0 n J 119 [some (.ref 164), some (zi u), some (zi t), some (zi (zw (z_40 - z_45))), some (zi i)] [] := by
                      intro f9
                      induction f9 with
                      | zero => intro i hm9; exact absurd hm9 (Nat.not_lt_zero _)
                      | succ f9 ih119 =>
                        intro i hm119 hi hq
                        have hi9 : i ≤ i0 := Classical.byContradiction (fun e => hn0 (hq i0 hi0.1 (by omega)))
                        refine tz_aload_n (pc := 119) dX12_isGreater_119 rfl rfl ?_
                        refine tz_iload_n (pc := 120) dX12_isGreater_120 rfl rfl ?_
                        refine tz_iload (pc := 121) dX12_isGreater_121 rfl ?_
                        refine tz_cV (pc := 123) (m_arg hl n _ _ _ (by omega) (by omega) b r d s m hM (by omega) (by omega)) vl_X12_88 dX12_isGreater_123 o_164 rfl rfl (Nat.le_of_ble_eq_true rfl) ⟨(show 0 + 1 ≤ 12 + 1 * (r9 + 1) by omega), (show 8 + (3 + 11) + 40 * (0) ≤ 40 * (12 + 1 * (r9 + 1)) by omega)⟩ rfl rfl (Nat.le_of_ble_eq_true rfl) (Nat.le_of_ble_eq_true rfl) (fun r9 J_123 hq9 => ?_)
                        obtain ⟨z_123, rfl, hz_123, rfl, rfl⟩ := hq9
                        refine tz_aload_n (pc := 126) dX12_isGreater_126 rfl rfl ?_
                        refine tz_iload_n (pc := 127) dX12_isGreater_127 rfl rfl ?_
                        refine tz_iload (pc := 128) dX12_isGreater_128 rfl ?_
                        refine tz_cV (pc := 130) (m_arg hl n _ _ _ (by omega) (by omega) b r d s m hM (by omega) (by omega)) vl_X12_88 dX12_isGreater_130 o_164 rfl rfl (Nat.le_of_ble_eq_true rfl) ⟨(show 0 + 1 ≤ 12 + 1 * (r9 + 1) by omega), (show 8 + (3 + 11) + 40 * (0) ≤ 40 * (12 + 1 * (r9 + 1)) by omega)⟩ rfl rfl (Nat.le_of_ble_eq_true rfl) (Nat.le_of_ble_eq_true rfl) (fun r9 J_130 hq9 => ?_)
                        obtain ⟨z_130, rfl, hz_130, rfl, rfl⟩ := hq9
                        refine tz_icmp_ne (pc := 133) (tgt := 142) dX12_isGreater_133 (by decide) (by omega) (by omega) (fun h_133 => ?_) (fun h_133 => ?_)
                        · refine tz_aload_n (pc := 142) dX12_isGreater_142 rfl rfl ?_
                          refine tz_aload_n (pc := 143) dX12_isGreater_143 rfl rfl ?_
                          refine tz_iload_n (pc := 144) dX12_isGreater_144 rfl rfl ?_
                          refine tz_iload (pc := 145) dX12_isGreater_145 rfl ?_
                          refine tz_cV (pc := 147) (m_arg hl n _ _ _ (by omega) (by omega) b r d s m hM (by omega) (by omega)) vl_X12_88 dX12_isGreater_147 o_164 rfl rfl (Nat.le_of_ble_eq_true rfl) ⟨(show 0 + 1 ≤ 12 + 1 * (r9 + 1) by omega), (show 8 + (3 + 11) + 40 * (0) ≤ 40 * (12 + 1 * (r9 + 1)) by omega)⟩ rfl rfl (Nat.le_of_ble_eq_true rfl) (Nat.le_of_ble_eq_true rfl) (fun r9 J_147 hq9 => ?_)
                          obtain ⟨z_147, rfl, hz_147, rfl, rfl⟩ := hq9
                          refine tz_aload_n (pc := 150) dX12_isGreater_150 rfl rfl ?_
                          refine tz_iload_n (pc := 151) dX12_isGreater_151 rfl rfl ?_
                          refine tz_iload (pc := 152) dX12_isGreater_152 rfl ?_
                          refine tz_cV (pc := 154) (m_arg hl n _ _ _ (by omega) (by omega) b r d s m hM (by omega) (by omega)) vl_X12_88 dX12_isGreater_154 o_164 rfl rfl (Nat.le_of_ble_eq_true rfl) ⟨(show 0 + 1 ≤ 12 + 1 * (r9 + 1) by omega), (show 8 + (3 + 11) + 40 * (0) ≤ 40 * (12 + 1 * (r9 + 1)) by omega)⟩ rfl rfl (Nat.le_of_ble_eq_true rfl) (Nat.le_of_ble_eq_true rfl) (fun r9 J_154 hq9 => ?_)
                          obtain ⟨z_154, rfl, hz_154, rfl, rfl⟩ := hq9
                          have hg := hM.arg (t := u) (i := i) hs (by omega)
                          have hg2 := hM.arg (t := t) (i := i) ht (by omega)
                          refine tz_cV (pc := 157) (ih _ _ _ (by omega) (by omega) b r d s m hM (by omega) (by omega) (by omega)) vl_X12_142 dX12_isGreater_157 o_164 rfl rfl (Nat.le_of_ble_eq_true rfl) ⟨(show (12 + 1 * r9) + 1 ≤ 12 + 1 * (r9 + 1) by omega), (show 8 + (5 + 11) + 40 * ((12 + 1 * r9)) ≤ 40 * (12 + 1 * (r9 + 1)) by omega)⟩ rfl rfl (Nat.le_of_ble_eq_true rfl) (Nat.le_of_ble_eq_true rfl) (fun r9 J_157 hq9 => ?_)
                          obtain ⟨z_157, rfl, hz_157, rfl, hz1⟩ := hq9
                          exact tz_zret (pc := 160) (z := z_157) dX12_isGreater_160 rfl (by omega) (Nat.le_of_ble_eq_true rfl) (Nat.le_of_ble_eq_true rfl) ⟨Nat.le_refl _, Nat.le_add_right _ _⟩ ⟨_, rfl, (by omega), ⟨rfl, by omega⟩⟩
                        · refine tz_iinc (pc := 136) (z := i + 1) (L2 := [_, _, _, _, _]) dX12_isGreater_136 rfl (by omega) rfl ?_
                          refine tz_goto (pc := 139) (tgt := 119) dX12_isGreater_139 (by decide) ?_
                          exact ih119 (i + 1) (by omega) (by omega) (fun q x y => (Decidable.em (q = i)).elim (fun e => by rw [e]; omega) (fun e => hq q x (by omega)))
                    exact loop119 _ 0 (Nat.lt_succ_self _) (by omega) (fun q x y => by omega)
                  · refine tz_aload_n (pc := 97) dX12_isGreater_97 rfl rfl ?_
                    refine tz_iload_n (pc := 98) dX12_isGreater_98 rfl rfl ?_
                    refine tz_cV (pc := 99) (m_head hl n _ _ (by omega) b r d s m hM (by omega)) vl_X12_74 dX12_isGreater_99 o_164 rfl rfl (Nat.le_of_ble_eq_true rfl) ⟨(show 0 + 1 ≤ 12 + 1 * (r9 + 1) by omega), (show 8 + (2 + 11) + 40 * (0) ≤ 40 * (12 + 1 * (r9 + 1)) by omega)⟩ rfl rfl (Nat.le_of_ble_eq_true rfl) (Nat.le_of_ble_eq_true rfl) (fun r9 J_99 hq9 => ?_)
                    obtain ⟨z_99, rfl, hz_99, rfl, rfl⟩ := hq9
                    refine tz_aload_n (pc := 102) dX12_isGreater_102 rfl rfl ?_
                    refine tz_iload_n (pc := 103) dX12_isGreater_103 rfl rfl ?_
                    refine tz_cV (pc := 104) (m_head hl n _ _ (by omega) b r d s m hM (by omega)) vl_X12_74 dX12_isGreater_104 o_164 rfl rfl (Nat.le_of_ble_eq_true rfl) ⟨(show 0 + 1 ≤ 12 + 1 * (r9 + 1) by omega), (show 8 + (2 + 11) + 40 * (0) ≤ 40 * (12 + 1 * (r9 + 1)) by omega)⟩ rfl rfl (Nat.le_of_ble_eq_true rfl) (Nat.le_of_ble_eq_true rfl) (fun r9 J_104 hq9 => ?_)
                    obtain ⟨z_104, rfl, hz_104, rfl, rfl⟩ := hq9
                    refine tz_icmp_le (pc := 107) (tgt := 114) dX12_isGreater_107 (by decide) (by omega) (by omega) (fun h_107 => ?_) (fun h_107 => ?_)
                    · refine tz_iconst (pc := 114) dX12_isGreater_114 ?_
                      exact tz_zret (pc := 115) (z := 0) dX12_isGreater_115 rfl (Or.inl rfl) (Nat.le_of_ble_eq_true rfl) (Nat.le_of_ble_eq_true rfl) ⟨Nat.le_refl _, Nat.le_add_right _ _⟩ ⟨_, rfl, (by decide), ⟨rfl, by omega⟩⟩
                    · refine tz_iconst (pc := 110) dX12_isGreater_110 ?_
                      refine tz_goto (pc := 111) (tgt := 115) dX12_isGreater_111 (by decide) ?_
                      exact tz_zret (pc := 115) (z := 1) dX12_isGreater_115 rfl (Or.inr rfl) (Nat.le_of_ble_eq_true rfl) (Nat.le_of_ble_eq_true rfl) ⟨Nat.le_refl _, Nat.le_add_right _ _⟩ ⟨_, rfl, (by decide), ⟨rfl, by omega⟩⟩
            · refine tz_iload_n (pc := 54) dX12_isGreater_54 rfl rfl ?_
              refine tz_if_le (pc := 55) (tgt := 62) dX12_isGreater_55 (by decide) (zw_rg _) (fun h_55 => ?_) (fun h_55 => ?_)
              · refine tz_iconst (pc := 62) dX12_isGreater_62 ?_
                exact tz_zret (pc := 63) (z := 0) dX12_isGreater_63 rfl (Or.inl rfl) (Nat.le_of_ble_eq_true rfl) (Nat.le_of_ble_eq_true rfl) ⟨Nat.le_refl _, Nat.le_add_right _ _⟩ ⟨_, rfl, (by decide), ⟨rfl, by omega⟩⟩
              · refine tz_iconst (pc := 58) dX12_isGreater_58 ?_
                refine tz_goto (pc := 59) (tgt := 63) dX12_isGreater_59 (by decide) ?_
                exact tz_zret (pc := 63) (z := 1) dX12_isGreater_63 rfl (Or.inr rfl) (Nat.le_of_ble_eq_true rfl) (Nat.le_of_ble_eq_true rfl) ⟨Nat.le_refl _, Nat.le_add_right _ _⟩ ⟨_, rfl, (by decide), ⟨rfl, by omega⟩⟩
          · refine tz_aload_n (pc := 15) dX12_isGreater_15 rfl rfl ?_
            refine tz_iload_n (pc := 16) dX12_isGreater_16 rfl rfl ?_
            refine tz_iload_n (pc := 17) dX12_isGreater_17 rfl rfl ?_
            refine tz_cV (pc := 18) (m_times hl n _ _ _ (by omega) (by omega) b r d s m hM (by omega)) vl_X12_129 dX12_isGreater_18 o_164 rfl rfl (Nat.le_of_ble_eq_true rfl) ⟨(show 10 + 1 ≤ 12 + 1 * (r9 + 1) by omega), (show 8 + (5 + 11) + 40 * (10) ≤ 40 * (12 + 1 * (r9 + 1)) by omega)⟩ rfl rfl (Nat.le_of_ble_eq_true rfl) (Nat.le_of_ble_eq_true rfl) (fun r9 J_18 hq9 => ?_)
            obtain ⟨z_18, rfl, hz_18, rfl⟩ := hq9
            refine tz_aload_n (pc := 21) dX12_isGreater_21 rfl rfl ?_
            refine tz_iload_n (pc := 22) dX12_isGreater_22 rfl rfl ?_
            refine tz_iload_n (pc := 23) dX12_isGreater_23 rfl rfl ?_
            refine tz_cV (pc := 24) (m_times hl n _ _ _ (by omega) (by omega) b r d s m hM (by omega)) vl_X12_129 dX12_isGreater_24 o_164 rfl rfl (Nat.le_of_ble_eq_true rfl) ⟨(show 10 + 1 ≤ 12 + 1 * (r9 + 1) by omega), (show 8 + (5 + 11) + 40 * (10) ≤ 40 * (12 + 1 * (r9 + 1)) by omega)⟩ rfl rfl (Nat.le_of_ble_eq_true rfl) (Nat.le_of_ble_eq_true rfl) (fun r9 J_24 hq9 => ?_)
            obtain ⟨z_24, rfl, hz_24, rfl⟩ := hq9
            refine tz_icmp_ge (pc := 27) (tgt := 32) dX12_isGreater_27 (by decide) (by omega) (by omega) (fun h_27 => ?_) (fun h_27 => ?_)
            · refine tz_iinc (pc := 32) (z := v + 1) (L2 := [_, _, _, _, _]) dX12_isGreater_32 rfl (by omega) rfl ?_
              refine tz_goto (pc := 35) (tgt := 9) dX12_isGreater_35 (by decide) ?_
              exact ih9 (v + 1) (by omega) (by omega)
            · refine tz_iconst (pc := 30) dX12_isGreater_30 ?_
              exact tz_zret (pc := 31) (z := 0) dX12_isGreater_31 rfl (Or.inl rfl) (Nat.le_of_ble_eq_true rfl) (Nat.le_of_ble_eq_true rfl) ⟨Nat.le_refl _, Nat.le_add_right _ _⟩ ⟨_, rfl, (by decide), ⟨rfl, by omega⟩⟩
      exact loop9 _ 0 (Nat.lt_succ_self _) (by omega)
    · refine tz_iconst (pc := 5) dX12_isGreater_5 ?_
      exact tz_zret (pc := 6) (z := 0) dX12_isGreater_6 rfl (Or.inl rfl) (Nat.le_of_ble_eq_true rfl) (Nat.le_of_ble_eq_true rfl) ⟨Nat.le_refl _, Nat.le_add_right _ _⟩ ⟨_, rfl, (by decide), ⟨rfl, by omega⟩⟩

theorem m_greater {l : Launch} {G : tb_G} (hl : l.stackTraces = false) (n : Nat) (J : zJ) (u : Int)  (t : Int)  (hr_u : -2147483648 ≤ u ∧ u < 2147483648) (hr_t : -2147483648 ≤ t ∧ t < 2147483648) (b r d s m : Int) (hM : MS J b r d s m) (hs : 0 ≤ u ∧ u < m) (ht : 0 ≤ t ∧ t < m) : tz_Ok l G M_X12_isGreater 19 0 0 [.ref 164, zi u, zi t] n J (zqi (fun z J' => J = J' ∧ (z = 0 ∨ z = 1))) zN := m_greaterR hl n 7 J u t hr_u hr_t b r d s m hM hs ht (by have := (hM.ar hs).2.2.1; omega)
set_option maxHeartbeats 4000000 in
set_option maxRecDepth 100000 in
theorem m_isRule {l : Launch} {G : tb_G} (hl : l.stackTraces = false) (n : Nat) (J : zJ) (u : Int) (t : Int) (hr_u : -2147483648 ≤ u ∧ u < 2147483648) (hr_t : -2147483648 ≤ t ∧ t < 2147483648) (b r d s m : Int) (hM : MS J b r d s m) (hs : 0 ≤ u ∧ u < m) (ht : 0 ≤ t ∧ t < m) : tz_Ok l G M_X12_isRule 20 0 0 [.ref 164, zi u, zi t] n J (zqi (fun z J' => J = J' ∧ (z = 0 ∨ z = 1))) zN := by
  refine tz_Ok.of hl (by decide +kernel) rfl (tb_c1 rfl) (Nat.le_of_ble_eq_true rfl) ?_
  show tz_At l G M_X12_isRule (tb_rm 20 0 0) none (tb_ZM G 0 0 (zQ n 0 (zqi (fun z J' => J = J' ∧ (z = 0 ∨ z = 1)))) (zX n 0 zN)) 0 0 n J 0 [some (.ref 164), some (zi u), some (zi t)] []
  obtain ⟨hM1, hM2, hM3, hM4, hM5, hM6⟩ := id hM
  have hT := hM.told
  refine tz_aload_n (pc := 0) dX12_isRule_0 rfl rfl ?_
  refine tz_iload_n (pc := 1) dX12_isRule_1 rfl rfl ?_
  refine tz_cV (pc := 2) (m_isVar hl n _ _ (by omega) b r d s m hM (by omega)) vl_X12_78 dX12_isRule_2 o_164 rfl rfl (Nat.le_of_ble_eq_true rfl) ⟨(Nat.le_of_ble_eq_true rfl), (Nat.le_of_ble_eq_true rfl)⟩ rfl rfl (Nat.le_of_ble_eq_true rfl) (Nat.le_of_ble_eq_true rfl) (fun r9 J_2 hq9 => ?_)
  obtain ⟨z_2, rfl, hz_2, rfl, rfl⟩ := hq9
  by_cases hw_5 : J 166 (b + u) < 0
  · rw [show (if J 166 (b + u) < 0 then 1 else 0 : Int) = 1 from if_pos hw_5]
    refine tz_if_neT (pc := 5) (tgt := 41) (by decide) dX12_isRule_5 (by decide) (by decide) ?_
    refine tz_iconst (pc := 41) dX12_isRule_41 ?_
    exact tz_zret (pc := 42) (z := 0) dX12_isRule_42 rfl (Or.inl rfl) (Nat.le_of_ble_eq_true rfl) (Nat.le_of_ble_eq_true rfl) ⟨Nat.le_refl _, Nat.le_add_right _ _⟩ ⟨_, rfl, (by decide), ⟨rfl, by omega⟩⟩
  · rw [show (if J 166 (b + u) < 0 then 1 else 0 : Int) = 0 from if_neg hw_5]
    refine tz_if_neF (pc := 5) (tgt := 41) (by decide) dX12_isRule_5 (by decide) (by decide) ?_
    refine tz_aload_n (pc := 8) dX12_isRule_8 rfl rfl ?_
    refine tz_iload_n (pc := 9) dX12_isRule_9 rfl rfl ?_
    refine tz_iload_n (pc := 10) dX12_isRule_10 rfl rfl ?_
    refine tz_cV (pc := 11) (m_greater hl n _ _ _ (by omega) (by omega) b r d s m hM hs ht) vl_X12_142 dX12_isRule_11 o_164 rfl rfl (Nat.le_of_ble_eq_true rfl) ⟨(Nat.le_of_ble_eq_true rfl), (Nat.le_of_ble_eq_true rfl)⟩ rfl rfl (Nat.le_of_ble_eq_true rfl) (Nat.le_of_ble_eq_true rfl) (fun r9 J_11 hq9 => ?_)
    obtain ⟨z_11, rfl, hz_11, rfl, hz1⟩ := hq9
    refine tz_if_eq (pc := 14) (tgt := 41) dX12_isRule_14 (by decide) (by omega) (fun h_14 => ?_) (fun h_14 => ?_)
    · refine tz_iconst (pc := 41) dX12_isRule_41 ?_
      exact tz_zret (pc := 42) (z := 0) dX12_isRule_42 rfl (Or.inl rfl) (Nat.le_of_ble_eq_true rfl) (Nat.le_of_ble_eq_true rfl) ⟨Nat.le_refl _, Nat.le_add_right _ _⟩ ⟨_, rfl, (by decide), ⟨rfl, by omega⟩⟩
    · refine tz_aload_n (pc := 17) dX12_isRule_17 rfl rfl ?_
      refine tz_iload_n (pc := 18) dX12_isRule_18 rfl rfl ?_
      have hs_19 := hM.sz (t := u) (by omega)
      refine tz_cV (pc := 19) (m_size hl n _ _ (by omega) b r d s m hM (by omega)) vl_X12_114 dX12_isRule_19 o_164 rfl rfl (Nat.le_of_ble_eq_true rfl) ⟨(Nat.le_of_ble_eq_true rfl), (Nat.le_of_ble_eq_true rfl)⟩ rfl rfl (Nat.le_of_ble_eq_true rfl) (Nat.le_of_ble_eq_true rfl) (fun r9 J_19 hq9 => ?_)
      obtain ⟨z_19, rfl, hz_19, rfl, rfl⟩ := hq9
      refine tz_bipush (pc := 22) dX12_isRule_22 (by decide) ?_
      refine tz_icmp_gt (pc := 24) (tgt := 41) dX12_isRule_24 (by decide) (by omega) (by decide) (fun h_24 => ?_) (fun h_24 => ?_)
      · refine tz_iconst (pc := 41) dX12_isRule_41 ?_
        exact tz_zret (pc := 42) (z := 0) dX12_isRule_42 rfl (Or.inl rfl) (Nat.le_of_ble_eq_true rfl) (Nat.le_of_ble_eq_true rfl) ⟨Nat.le_refl _, Nat.le_add_right _ _⟩ ⟨_, rfl, (by decide), ⟨rfl, by omega⟩⟩
      · refine tz_aload_n (pc := 27) dX12_isRule_27 rfl rfl ?_
        refine tz_iload_n (pc := 28) dX12_isRule_28 rfl rfl ?_
        have hs_29 := hM.sz (t := t) (by omega)
        refine tz_cV (pc := 29) (m_size hl n _ _ (by omega) b r d s m hM (by omega)) vl_X12_114 dX12_isRule_29 o_164 rfl rfl (Nat.le_of_ble_eq_true rfl) ⟨(Nat.le_of_ble_eq_true rfl), (Nat.le_of_ble_eq_true rfl)⟩ rfl rfl (Nat.le_of_ble_eq_true rfl) (Nat.le_of_ble_eq_true rfl) (fun r9 J_29 hq9 => ?_)
        obtain ⟨z_29, rfl, hz_29, rfl, rfl⟩ := hq9
        refine tz_bipush (pc := 32) dX12_isRule_32 (by decide) ?_
        refine tz_icmp_gt (pc := 34) (tgt := 41) dX12_isRule_34 (by decide) (by omega) (by decide) (fun h_34 => ?_) (fun h_34 => ?_)
        · refine tz_iconst (pc := 41) dX12_isRule_41 ?_
          exact tz_zret (pc := 42) (z := 0) dX12_isRule_42 rfl (Or.inl rfl) (Nat.le_of_ble_eq_true rfl) (Nat.le_of_ble_eq_true rfl) ⟨Nat.le_refl _, Nat.le_add_right _ _⟩ ⟨_, rfl, (by decide), ⟨rfl, by omega⟩⟩
        · refine tz_iconst (pc := 37) dX12_isRule_37 ?_
          refine tz_goto (pc := 38) (tgt := 42) dX12_isRule_38 (by decide) ?_
          exact tz_zret (pc := 42) (z := 1) dX12_isRule_42 rfl (Or.inr rfl) (Nat.le_of_ble_eq_true rfl) (Nat.le_of_ble_eq_true rfl) ⟨Nat.le_refl _, Nat.le_add_right _ _⟩ ⟨_, rfl, (by decide), ⟨rfl, by omega⟩⟩

theorem MS.c1 {J' J : zJ} {b r d s m : Int} (h : MS J b r d s m) {c : Nat} (f : zOf (zbut [c]) J' J) (hc : ¬ c = 164 ∧ ¬ c = 165 ∧ ¬ c = 166 ∧ ¬ c = 167 ∧ ¬ c = 168 ∧ ¬ c = 170) : MS J' b r d s m := by
  have g : ∀ k, ¬ k = c → J' k = J k := fun k a => f k (by simp [zbut]; omega)
  exact h.of ⟨by rw [g 164 (by omega)], by rw [g 164 (by omega)], by rw [g 164 (by omega)]⟩ (by rw [g 165 (by omega)]) (g _ (by omega)) (g _ (by omega)) (g _ (by omega)) (g _ (by omega))
theorem gok_up {J : zJ} {m v t : Int} (h : gOK (J 174) m) (ht : 0 ≤ t ∧ t < m) : gOK (zup J 174 v t 174) m := fun u a c => by
  by_cases e : u = v
  · rw [e, zup_at]; omega
  · rw [zup_ne e]; exact h u a c
set_option maxHeartbeats 4000000 in
set_option maxRecDepth 100000 in
theorem m_matchR {l : Launch} {G : tb_G} (hl : l.stackTraces = false) (n : Nat) : ∀ (r9 : Nat) (J : zJ) (u : Int) (t : Int) (hr_u : -2147483648 ≤ u ∧ u < 2147483648) (hr_t : -2147483648 ≤ t ∧ t < 2147483648) (b r d s m : Int) (hM : MS J b r d s m) (hs : 0 ≤ u ∧ u < m) (ht : 0 ≤ t ∧ t < m) (hg0 : gOK (J 174) m), ((J 168 (b + u)).toNat) < r9 → tz_Ok l G M_X12_matches (3 + 1 * r9) 0 0 [.ref 164, zi u, zi t] n J (zqi (fun z J' => (z = 0 ∨ z = 1) ∧ zOf (zbut [174]) J' J ∧ gOK (J' 174) m)) zN := by
  intro r9
  induction r9 with
  | zero => intro J u t hr_u hr_t b r d s m hM hs ht hg0 hm9; exact absurd hm9 (Nat.not_lt_zero _)
  | succ r9 ih =>
    intro J u t hr_u hr_t b r d s m hM hs ht hg0 hm9
    refine tz_Ok.of hl (by decide +kernel) rfl (tb_c1 rfl) (Nat.le_of_ble_eq_true rfl) ?_
    show tz_At l G M_X12_matches (tb_rm (3 + 1 * (r9 + 1)) 0 0) none (tb_ZM G 0 0 (zQ n 0 (zqi (fun z J' => (z = 0 ∨ z = 1) ∧ zOf (zbut [174]) J' J ∧ gOK (J' 174) m))) (zX n 0 zN)) 0 0 n J 0 [some (.ref 164), some (zi u), some (zi t), none] []
    obtain ⟨hM1, hM2, hM3, hM4, hM5, hM6⟩ := id hM
    have hT := hM.told
    have ha := hM.ar hs
    have hb := hM.ar ht
    refine tz_aload_n (pc := 0) dX12_matches_0 rfl rfl ?_
    refine tz_iload_n (pc := 1) dX12_matches_1 rfl rfl ?_
    refine tz_cV (pc := 2) (m_isVar hl n _ _ (by omega) b r d s m hM (by omega)) vl_X12_78 dX12_matches_2 o_164 rfl rfl (Nat.le_of_ble_eq_true rfl) ⟨(show 1 + 1 ≤ 3 + 1 * (r9 + 1) by omega), (show 8 + (2 + 11) + 40 * (1) ≤ 40 * (3 + 1 * (r9 + 1)) by omega)⟩ rfl rfl (Nat.le_of_ble_eq_true rfl) (Nat.le_of_ble_eq_true rfl) (fun r9 J_2 hq9 => ?_)
    obtain ⟨z_2, rfl, hz_2, rfl, rfl⟩ := hq9
    by_cases hw_5 : J 166 (b + u) < 0
    · rw [show (if J 166 (b + u) < 0 then 1 else 0 : Int) = 1 from if_pos hw_5]
      refine tz_if_eqF (pc := 5) (tgt := 47) (by decide) dX12_matches_5 (by decide) (by decide) ?_
      refine tz_aload_n (pc := 8) dX12_matches_8 rfl rfl ?_
      refine tz_iload_n (pc := 9) dX12_matches_9 rfl rfl ?_
      refine tz_cV (pc := 10) (m_varOf hl n _ _ (by omega) b r d s m hM (by omega)) vl_X12_123 dX12_matches_10 o_164 rfl rfl (Nat.le_of_ble_eq_true rfl) ⟨(show 1 + 1 ≤ 3 + 1 * (r9 + 1) by omega), (show 8 + (2 + 11) + 40 * (1) ≤ 40 * (3 + 1 * (r9 + 1)) by omega)⟩ rfl rfl (Nat.le_of_ble_eq_true rfl) (Nat.le_of_ble_eq_true rfl) (fun r9 J_10 hq9 => ?_)
      obtain ⟨z_10, rfl, hz_10, rfl, rfl⟩ := hq9
      refine tz_istore_n (pc := 13) (L2 := [_, _, _, _]) dX12_matches_13 rfl (by decide) rfl ?_
      refine tz_aload_n (pc := 14) dX12_matches_14 rfl rfl ?_
      refine tz_fR (pc := 15) dX12_matches_15 fl_X12_41 r_164_22 ?_
      refine tz_iload_n (pc := 18) dX12_matches_18 rfl rfl ?_
      refine tz_aL (pc := 19) (z := (-1 - J 166 (b + u))) (v := (J 174 (-1 - J 166 (b + u)))) dX12_matches_19 a_174 rfl (by omega) rfl (fun r_19 => ?_)
      refine tz_iconst (pc := 20) dX12_matches_20 ?_
      refine tz_icmp_ne (pc := 21) (tgt := 31) dX12_matches_21 (by decide) (by omega) (by decide) (fun h_21 => ?_) (fun h_21 => ?_)
      · refine tz_aload_n (pc := 31) dX12_matches_31 rfl rfl ?_
        refine tz_fR (pc := 32) dX12_matches_32 fl_X12_41 r_164_22 ?_
        refine tz_iload_n (pc := 35) dX12_matches_35 rfl rfl ?_
        refine tz_aL (pc := 36) (z := (-1 - J 166 (b + u))) (v := (J 174 (-1 - J 166 (b + u)))) dX12_matches_36 a_174 rfl (by omega) rfl (fun r_36 => ?_)
        refine tz_iload_n (pc := 37) dX12_matches_37 rfl rfl ?_
        refine tz_icmp_ne (pc := 38) (tgt := 45) dX12_matches_38 (by decide) (by omega) (by omega) (fun h_38 => ?_) (fun h_38 => ?_)
        · refine tz_iconst (pc := 45) dX12_matches_45 ?_
          exact tz_zret (pc := 46) (z := 0) dX12_matches_46 rfl (Or.inl rfl) (Nat.le_of_ble_eq_true rfl) (Nat.le_of_ble_eq_true rfl) ⟨Nat.le_refl _, Nat.le_add_right _ _⟩ ⟨_, rfl, (by decide), (by first | exact ⟨by omega, f1, g1⟩ | exact ⟨by omega, f2.tr f1, g2⟩ | exact ⟨by omega, zOf.rf, hg0⟩ | exact ⟨by omega, zOf.up rfl zOf.rf, gok_up hg0 ht⟩)⟩
        · refine tz_iconst (pc := 41) dX12_matches_41 ?_
          refine tz_goto (pc := 42) (tgt := 46) dX12_matches_42 (by decide) ?_
          exact tz_zret (pc := 46) (z := 1) dX12_matches_46 rfl (Or.inr rfl) (Nat.le_of_ble_eq_true rfl) (Nat.le_of_ble_eq_true rfl) ⟨Nat.le_refl _, Nat.le_add_right _ _⟩ ⟨_, rfl, (by decide), (by first | exact ⟨by omega, f1, g1⟩ | exact ⟨by omega, f2.tr f1, g2⟩ | exact ⟨by omega, zOf.rf, hg0⟩ | exact ⟨by omega, zOf.up rfl zOf.rf, gok_up hg0 ht⟩)⟩
      · refine tz_aload_n (pc := 24) dX12_matches_24 rfl rfl ?_
        refine tz_fR (pc := 25) dX12_matches_25 fl_X12_41 r_164_22 ?_
        refine tz_iload_n (pc := 28) dX12_matches_28 rfl rfl ?_
        refine tz_iload_n (pc := 29) dX12_matches_29 rfl rfl ?_
        refine tz_aS (pc := 30) (z := (-1 - J 166 (b + u))) dX12_matches_30 a_174 rfl (by omega) (by omega) ?_
        refine tz_aload_n (pc := 31) dX12_matches_31 rfl rfl ?_
        refine tz_fR (pc := 32) dX12_matches_32 fl_X12_41 r_164_22 ?_
        refine tz_iload_n (pc := 35) dX12_matches_35 rfl rfl ?_
        refine tz_aL (pc := 36) (z := (-1 - J 166 (b + u))) (v := t) dX12_matches_36 a_174 rfl (by omega) (by simp [zup]) (fun r_36 => ?_)
        refine tz_iload_n (pc := 37) dX12_matches_37 rfl rfl ?_
        refine tz_icmp_ne (pc := 38) (tgt := 45) dX12_matches_38 (by decide) (by omega) (by omega) (fun h_38 => ?_) (fun h_38 => ?_)
        · refine tz_iconst (pc := 45) dX12_matches_45 ?_
          exact tz_zret (pc := 46) (z := 0) dX12_matches_46 rfl (Or.inl rfl) (Nat.le_of_ble_eq_true rfl) (Nat.le_of_ble_eq_true rfl) ⟨Nat.le_refl _, Nat.le_add_right _ _⟩ ⟨_, rfl, (by decide), (by first | exact ⟨by omega, f1, g1⟩ | exact ⟨by omega, f2.tr f1, g2⟩ | exact ⟨by omega, zOf.rf, hg0⟩ | exact ⟨by omega, zOf.up rfl zOf.rf, gok_up hg0 ht⟩)⟩
        · refine tz_iconst (pc := 41) dX12_matches_41 ?_
          refine tz_goto (pc := 42) (tgt := 46) dX12_matches_42 (by decide) ?_
          exact tz_zret (pc := 46) (z := 1) dX12_matches_46 rfl (Or.inr rfl) (Nat.le_of_ble_eq_true rfl) (Nat.le_of_ble_eq_true rfl) ⟨Nat.le_refl _, Nat.le_add_right _ _⟩ ⟨_, rfl, (by decide), (by first | exact ⟨by omega, f1, g1⟩ | exact ⟨by omega, f2.tr f1, g2⟩ | exact ⟨by omega, zOf.rf, hg0⟩ | exact ⟨by omega, zOf.up rfl zOf.rf, gok_up hg0 ht⟩)⟩
    · rw [show (if J 166 (b + u) < 0 then 1 else 0 : Int) = 0 from if_neg hw_5]
      refine tz_if_eqT (pc := 5) (tgt := 47) (by decide) dX12_matches_5 (by decide) (by decide) ?_
      refine tz_aload_n (pc := 47) dX12_matches_47 rfl rfl ?_
      refine tz_iload_n (pc := 48) dX12_matches_48 rfl rfl ?_
      refine tz_cV (pc := 49) (m_head hl n _ _ (by omega) b r d s m hM (by omega)) vl_X12_74 dX12_matches_49 o_164 rfl rfl (Nat.le_of_ble_eq_true rfl) ⟨(show 0 + 1 ≤ 3 + 1 * (r9 + 1) by omega), (show 8 + (2 + 11) + 40 * (0) ≤ 40 * (3 + 1 * (r9 + 1)) by omega)⟩ rfl rfl (Nat.le_of_ble_eq_true rfl) (Nat.le_of_ble_eq_true rfl) (fun r9 J_49 hq9 => ?_)
      obtain ⟨z_49, rfl, hz_49, rfl, rfl⟩ := hq9
      refine tz_aload_n (pc := 52) dX12_matches_52 rfl rfl ?_
      refine tz_iload_n (pc := 53) dX12_matches_53 rfl rfl ?_
      refine tz_cV (pc := 54) (m_head hl n _ _ (by omega) b r d s m hM (by omega)) vl_X12_74 dX12_matches_54 o_164 rfl rfl (Nat.le_of_ble_eq_true rfl) ⟨(show 0 + 1 ≤ 3 + 1 * (r9 + 1) by omega), (show 8 + (2 + 11) + 40 * (0) ≤ 40 * (3 + 1 * (r9 + 1)) by omega)⟩ rfl rfl (Nat.le_of_ble_eq_true rfl) (Nat.le_of_ble_eq_true rfl) (fun r9 J_54 hq9 => ?_)
      obtain ⟨z_54, rfl, hz_54, rfl, rfl⟩ := hq9
      refine tz_icmp_eq (pc := 57) (tgt := 62) dX12_matches_57 (by decide) (by omega) (by omega) (fun h_57 => ?_) (fun h_57 => ?_)
      · refine tz_iconst (pc := 62) dX12_matches_62 ?_
        refine tz_istore_n (pc := 63) (L2 := [_, _, _, _]) dX12_matches_63 rfl (by decide) rfl ?_
        have loop64 : ∀ (f9 : Nat) (i : Int) (J1 : zJ), ((3 - i).toNat) < f9 → (0 ≤ i ∧ i ≤ mar J b d u) → (zOf (zbut [174]) J1 J) → (gOK (J1 174) m) → tz_At l G M_X12_matches (tb_rm (3 + 1 * (r9 + 1)) 0 0) none (tb_ZM G 0 0 (zQ n 0 (zqi (fun z J' => (z = 0 ∨ z = 1) ∧ zOf (zbut [174]) J' J ∧ gOK (J' 174) m))) (zX n 0 zN)) 0 0 n J1 64 [some (.ref 164), some (zi u), some (zi t), some (zi i)] [] := by
          intro f9
          induction f9 with
          | zero => intro i J1 hm9; exact absurd hm9 (Nat.not_lt_zero _)
          | succ f9 ih64 =>
            intro i J1 hm64 hi f1 g1
            have he := MS.hd8 (J := J) (b := b) (d := d) (t := u) (u := t) (by omega)
            refine tz_iload_n (pc := 64) dX12_matches_64 rfl rfl ?_
            refine tz_aload_n (pc := 65) dX12_matches_65 rfl rfl ?_
            refine tz_iload_n (pc := 66) dX12_matches_66 rfl rfl ?_
            refine tz_cV (pc := 67) (m_arity hl n _ _ (by omega) b r d s m (hM.c1 f1 (by decide)) (by omega)) vl_X12_111 dX12_matches_67 o_164 rfl rfl (Nat.le_of_ble_eq_true rfl) ⟨(show 2 + 1 ≤ 3 + 1 * (r9 + 1) by omega), (show 8 + (2 + 11) + 40 * (2) ≤ 40 * (3 + 1 * (r9 + 1)) by omega)⟩ rfl rfl (Nat.le_of_ble_eq_true rfl) (Nat.le_of_ble_eq_true rfl) (fun r9 J_67 hq9 => ?_)
            obtain ⟨z_67, rfl, hz_67, rfl, hv_67⟩ := hq9
            have he_67 : mar J1 b d u = mar J b d u := by unfold mar; rw [f1 166 rfl, f1 170 rfl]
            rw [he_67] at hv_67
            obtain rfl : mar J b d u = z_67 := hv_67
            refine tz_icmp_ge (pc := 70) (tgt := 100) dX12_matches_70 (by decide) (by omega) (by omega) (fun h_70 => ?_) (fun h_70 => ?_)
            · refine tz_iconst (pc := 100) dX12_matches_100 ?_
              exact tz_zret (pc := 101) (z := 1) dX12_matches_101 rfl (Or.inr rfl) (Nat.le_of_ble_eq_true rfl) (Nat.le_of_ble_eq_true rfl) ⟨Nat.le_refl _, Nat.le_add_right _ _⟩ ⟨_, rfl, (by decide), (by first | exact ⟨by omega, f1, g1⟩ | exact ⟨by omega, f2.tr f1, g2⟩ | exact ⟨by omega, zOf.rf, hg0⟩ | exact ⟨by omega, zOf.up rfl zOf.rf, gok_up hg0 ht⟩)⟩
            · refine tz_aload_n (pc := 73) dX12_matches_73 rfl rfl ?_
              refine tz_aload_n (pc := 74) dX12_matches_74 rfl rfl ?_
              refine tz_iload_n (pc := 75) dX12_matches_75 rfl rfl ?_
              refine tz_iload_n (pc := 76) dX12_matches_76 rfl rfl ?_
              refine tz_cV (pc := 77) (m_arg hl n _ _ _ (by omega) (by omega) b r d s m (hM.c1 f1 (by decide)) (by omega) (by omega)) vl_X12_88 dX12_matches_77 o_164 rfl rfl (Nat.le_of_ble_eq_true rfl) ⟨(show 0 + 1 ≤ 3 + 1 * (r9 + 1) by omega), (show 8 + (3 + 11) + 40 * (0) ≤ 40 * (3 + 1 * (r9 + 1)) by omega)⟩ rfl rfl (Nat.le_of_ble_eq_true rfl) (Nat.le_of_ble_eq_true rfl) (fun r9 J_77 hq9 => ?_)
              obtain ⟨z_77, rfl, hz_77, rfl, hv_77⟩ := hq9
              have he_77 : J1 167 (3 * (b + u) + i) = J 167 (3 * (b + u) + i) := by rw [f1 167 rfl]
              rw [he_77] at hv_77
              obtain rfl : J 167 (3 * (b + u) + i) = z_77 := hv_77
              refine tz_aload_n (pc := 80) dX12_matches_80 rfl rfl ?_
              refine tz_iload_n (pc := 81) dX12_matches_81 rfl rfl ?_
              refine tz_iload_n (pc := 82) dX12_matches_82 rfl rfl ?_
              refine tz_cV (pc := 83) (m_arg hl n _ _ _ (by omega) (by omega) b r d s m (hM.c1 f1 (by decide)) (by omega) (by omega)) vl_X12_88 dX12_matches_83 o_164 rfl rfl (Nat.le_of_ble_eq_true rfl) ⟨(show 0 + 1 ≤ 3 + 1 * (r9 + 1) by omega), (show 8 + (3 + 11) + 40 * (0) ≤ 40 * (3 + 1 * (r9 + 1)) by omega)⟩ rfl rfl (Nat.le_of_ble_eq_true rfl) (Nat.le_of_ble_eq_true rfl) (fun r9 J_83 hq9 => ?_)
              obtain ⟨z_83, rfl, hz_83, rfl, hv_83⟩ := hq9
              have he_83 : J1 167 (3 * (b + t) + i) = J 167 (3 * (b + t) + i) := by rw [f1 167 rfl]
              rw [he_83] at hv_83
              obtain rfl : J 167 (3 * (b + t) + i) = z_83 := hv_83
              have hg := hM.arg (t := u) (i := i) hs (by omega)
              have hg2 := hM.arg (t := t) (i := i) ht (by omega)
              have e168 := f1 168 rfl
              refine tz_cV (pc := 86) (ih _ _ _ (by omega) (by omega) b r d s m (hM.c1 f1 (by decide)) (by omega) (by omega) g1 (by rw [e168]; omega)) vl_X12_145 dX12_matches_86 o_164 rfl rfl (Nat.le_of_ble_eq_true rfl) ⟨(show (3 + 1 * r9) + 1 ≤ 3 + 1 * (r9 + 1) by omega), (show 8 + (4 + 11) + 40 * ((3 + 1 * r9)) ≤ 40 * (3 + 1 * (r9 + 1)) by omega)⟩ rfl rfl (Nat.le_of_ble_eq_true rfl) (Nat.le_of_ble_eq_true rfl) (fun r9 J2 hq9 => ?_)
              obtain ⟨z_86, rfl, hz_86, hz1, f2, g2⟩ := hq9
              refine tz_if_ne (pc := 89) (tgt := 94) dX12_matches_89 (by decide) (by omega) (fun h_89 => ?_) (fun h_89 => ?_)
              · refine tz_iinc (pc := 94) (z := i + 1) (L2 := [_, _, _, _]) dX12_matches_94 rfl (by omega) rfl ?_
                refine tz_goto (pc := 97) (tgt := 64) dX12_matches_97 (by decide) ?_
                exact ih64 (i + 1) _ (by omega) (by omega) (f2.tr f1) g2
              · refine tz_iconst (pc := 92) dX12_matches_92 ?_
                exact tz_zret (pc := 93) (z := 0) dX12_matches_93 rfl (Or.inl rfl) (Nat.le_of_ble_eq_true rfl) (Nat.le_of_ble_eq_true rfl) ⟨Nat.le_refl _, Nat.le_add_right _ _⟩ ⟨_, rfl, (by decide), (by first | exact ⟨by omega, f1, g1⟩ | exact ⟨by omega, f2.tr f1, g2⟩ | exact ⟨by omega, zOf.rf, hg0⟩ | exact ⟨by omega, zOf.up rfl zOf.rf, gok_up hg0 ht⟩)⟩
        exact loop64 _ 0 _ (Nat.lt_succ_self _) (by omega) zOf.rf hg0
      · refine tz_iconst (pc := 60) dX12_matches_60 ?_
        exact tz_zret (pc := 61) (z := 0) dX12_matches_61 rfl (Or.inl rfl) (Nat.le_of_ble_eq_true rfl) (Nat.le_of_ble_eq_true rfl) ⟨Nat.le_refl _, Nat.le_add_right _ _⟩ ⟨_, rfl, (by decide), (by first | exact ⟨by omega, f1, g1⟩ | exact ⟨by omega, f2.tr f1, g2⟩ | exact ⟨by omega, zOf.rf, hg0⟩ | exact ⟨by omega, zOf.up rfl zOf.rf, gok_up hg0 ht⟩)⟩

theorem m_match {l : Launch} {G : tb_G} (hl : l.stackTraces = false) (n : Nat) (J : zJ) (u t : Int) (hr_u : -2147483648 ≤ u ∧ u < 2147483648) (hr_t : -2147483648 ≤ t ∧ t < 2147483648) (b r d s m : Int) (hM : MS J b r d s m) (hs : 0 ≤ u ∧ u < m) (ht : 0 ≤ t ∧ t < m) (hg0 : gOK (J 174) m) : tz_Ok l G M_X12_matches 10 0 0 [.ref 164, zi u, zi t] n J (zqi (fun z J' => (z = 0 ∨ z = 1) ∧ zOf (zbut [174]) J' J ∧ gOK (J' 174) m)) zN := m_matchR hl n 7 J u t hr_u hr_t b r d s m hM hs ht hg0 (by have := (hM.ar hs).2.2.1; omega)
set_option maxHeartbeats 4000000 in
set_option maxRecDepth 100000 in
theorem m_doesMatch {l : Launch} {G : tb_G} (hl : l.stackTraces = false) (n : Nat) (J : zJ) (u : Int) (t : Int) (hr_u : -2147483648 ≤ u ∧ u < 2147483648) (hr_t : -2147483648 ≤ t ∧ t < 2147483648) (b r d s m : Int) (hM : MS J b r d s m) (hs : 0 ≤ u ∧ u < m) (ht : 0 ≤ t ∧ t < m) : tz_Ok l G M_X12_doesMatch 11 0 0 [.ref 164, zi u, zi t] n J (zqi (fun z J' => (z = 0 ∨ z = 1) ∧ zOf (zbut [174]) J' J ∧ gOK (J' 174) m)) zN := by
  refine tz_Ok.of hl (by decide +kernel) rfl (tb_c1 rfl) (Nat.le_of_ble_eq_true rfl) ?_
  show tz_At l G M_X12_doesMatch (tb_rm 11 0 0) none (tb_ZM G 0 0 (zQ n 0 (zqi (fun z J' => (z = 0 ∨ z = 1) ∧ zOf (zbut [174]) J' J ∧ gOK (J' 174) m))) (zX n 0 zN)) 0 0 n J 0 [some (.ref 164), some (zi u), some (zi t), none] []
  obtain ⟨hM1, hM2, hM3, hM4, hM5, hM6⟩ := id hM
  have hT := hM.told
  refine tz_iconst (pc := 0) dX12_doesMatch_0 ?_
  refine tz_istore_n (pc := 1) (L2 := [_, _, _, _]) dX12_doesMatch_1 rfl (by decide) rfl ?_
  have loop2 : ∀ (f9 : Nat) (v : Int) (J1 : zJ), ((8 - v).toNat) < f9 → (0 ≤ v ∧ v ≤ 8) → (zOf (zbut [174]) J1 J) → (∀ q, 0 ≤ q → q < v → J1 174 q = -1) → tz_At l G M_X12_doesMatch (tb_rm 11 0 0) none (tb_ZM G 0 0 (zQ n 0 (zqi (fun z J' => (z = 0 ∨ z = 1) ∧ zOf (zbut [174]) J' J ∧ gOK (J' 174) m))) (zX n 0 zN)) 0 0 n J1 2 [some (.ref 164), some (zi u), some (zi t), some (zi v)] [] := by
    intro f9
    induction f9 with
    | zero => intro v J1 hm9; exact absurd hm9 (Nat.not_lt_zero _)
    | succ f9 ih2 =>
      intro v J1 hm2 hv f1 g1
      refine tz_iload_n (pc := 2) dX12_doesMatch_2 rfl rfl ?_
      refine tz_bipush (pc := 3) dX12_doesMatch_3 (by decide) ?_
      refine tz_icmp_ge (pc := 5) (tgt := 21) dX12_doesMatch_5 (by decide) (by omega) (by decide) (fun h_5 => ?_) (fun h_5 => ?_)
      · refine tz_aload_n (pc := 21) dX12_doesMatch_21 rfl rfl ?_
        refine tz_iload_n (pc := 22) dX12_doesMatch_22 rfl rfl ?_
        refine tz_iload_n (pc := 23) dX12_doesMatch_23 rfl rfl ?_
        refine tz_cV (pc := 24) (m_match hl n _ _ _ (by omega) (by omega) b r d s m (hM.c1 f1 (by decide)) hs ht (fun q x y => by rw [g1 q x (by omega)]; omega)) vl_X12_145 dX12_doesMatch_24 o_164 rfl rfl (Nat.le_of_ble_eq_true rfl) ⟨(Nat.le_of_ble_eq_true rfl), (Nat.le_of_ble_eq_true rfl)⟩ rfl rfl (Nat.le_of_ble_eq_true rfl) (Nat.le_of_ble_eq_true rfl) (fun r9 J2 hq9 => ?_)
        obtain ⟨z_24, rfl, hz_24, hz1, f2, g2⟩ := hq9
        exact tz_zret (pc := 27) (z := z_24) dX12_doesMatch_27 rfl (by omega) (Nat.le_of_ble_eq_true rfl) (Nat.le_of_ble_eq_true rfl) ⟨Nat.le_refl _, Nat.le_add_right _ _⟩ ⟨_, rfl, (by omega), ⟨hz1, f2.tr f1, g2⟩⟩
      · refine tz_aload_n (pc := 8) dX12_doesMatch_8 rfl rfl ?_
        refine tz_fR (pc := 9) dX12_doesMatch_9 fl_X12_41 r_164_22 ?_
        refine tz_iload_n (pc := 12) dX12_doesMatch_12 rfl rfl ?_
        refine tz_iconst (pc := 13) dX12_doesMatch_13 ?_
        refine tz_aS (pc := 14) (z := v) dX12_doesMatch_14 a_174 rfl (by omega) (by decide) ?_
        refine tz_iinc (pc := 15) (z := v + 1) (L2 := [_, _, _, _]) dX12_doesMatch_15 rfl (by omega) rfl ?_
        refine tz_goto (pc := 18) (tgt := 2) dX12_doesMatch_18 (by decide) ?_
        exact ih2 (v + 1) _ (by omega) (by omega) (zOf.up rfl f1) (fun q x y => (Decidable.em (q = v)).elim (fun e => by rw [e, zup_at]) (fun e => by rw [zup_ne e]; exact g1 q x (by omega)))
  exact loop2 _ 0 _ (Nat.lt_succ_self _) (by omega) zOf.rf (fun q x y => by omega)

end
section
theorem arh_neg {ar : Int → Int} {h : Int} (hh : h < 0) : arh ar h = 0 := by unfold arh; rw [if_pos hh]
theorem arh_pos {ar : Int → Int} {h : Int} (hh : 0 ≤ h) : arh ar h = ar h := by unfold arh; rw [if_neg (by omega)]
end
section
/-! ===== classes of nodes ===== -/
def UN1 (J : zJ) (c m : Int) (rk : Int → Nat) (k : Int) : Prop := ((0 ≤ J 177 k ∧ J 177 k < c) ∧ (J 177 k = k ∨ rk (J 177 k) < rk k)) ∧ (J 178 k = -1 ∨ (0 ≤ J 178 k ∧ J 178 k < c ∧ J 178 k % 400 < m)) ∧ (k % 400 < m → J 177 k % 400 < m ∧ (J 178 k = -1 → 0 ≤ J 179 k ∧ J 179 k < 8))
def UF (J : zJ) (c m : Int) : Prop := (c = 400 ∨ c = 800) ∧ ∃ rk : Int → Nat, ∀ k, 0 ≤ k → k < c → UN1 J c m rk k
/-- how many nodes of a kind there are -/
def cnt (p : Int → Bool) : Nat → Nat
  | 0 => 0
  | k + 1 => cnt p k + if p (k : Int) then 1 else 0
theorem cnt_le {p q : Int → Bool} : ∀ (n : Nat), (∀ k : Int, 0 ≤ k → k < n → q k = true → p k = true) → cnt q n ≤ cnt p n
  | 0, _ => Nat.le_refl _
  | n + 1, h => by
    have h1 := cnt_le n (fun k a b => h k a (by omega))
    have h2 := h n (by omega) (by omega)
    show cnt q n + _ ≤ cnt p n + _
    by_cases hq : q (n : Int) = true
    · rw [if_pos hq, if_pos (h2 hq)]
      omega
    · rw [if_neg hq]
      omega
theorem cnt_lt {p q : Int → Bool} : ∀ (n : Nat), (∀ k : Int, 0 ≤ k → k < n → q k = true → p k = true) → (∃ k : Int, (0 ≤ k ∧ k < n) ∧ p k = true ∧ q k = false) → cnt q n < cnt p n
  | 0, _, ⟨k, hk, _⟩ => by omega
  | n + 1, h, ⟨k, hk, hp, hq⟩ => by
    have h2 := h n (by omega) (by omega)
    show cnt q n + _ < cnt p n + _
    by_cases e : k = n
    · subst e
      have h1 := cnt_le n (fun k a b => h k a (by omega))
      rw [if_pos hp, if_neg (by rw [hq]; decide)]
      omega
    · have h1 := cnt_lt n (fun k a b => h k a (by omega)) ⟨k, by omega, hp, hq⟩
      by_cases hq2 : q (n : Int) = true
      · rw [if_pos hq2, if_pos (h2 hq2)]
        omega
      · rw [if_neg hq2]
        omega
theorem cnt_n {p : Int → Bool} : ∀ n : Nat, cnt p n ≤ n
  | 0 => Nat.le_refl _
  | n + 1 => by
    have := cnt_n (p := p) n
    show cnt p n + _ ≤ n + 1
    split <;> omega
def rc (J : zJ) : Nat := cnt (fun k => decide (J 177 k = k)) 800
def wc (J : zJ) : Nat := cnt (fun k => decide (¬ J 180 k = 1 ∧ ¬ J 180 k = 2)) 800
theorem UF.join {J : zJ} {c m a b v w : Int} (h : UF J c m) (ha : (0 ≤ a ∧ a < c) ∧ a % 400 < m ∧ J 177 a = a) (hb : (0 ≤ b ∧ b < c) ∧ b % 400 < m ∧ J 177 b = b) (hab : ¬ a = b) (hv : v = -1 ∨ (0 ≤ v ∧ v < c ∧ v % 400 < m)) (hw : v = -1 → 0 ≤ w ∧ w < 8) : UF (zup (zup (zup J 177 b a) 178 a v) 179 a w) c m := by
  obtain ⟨hc, rk, h⟩ := h
  refine ⟨hc, fun x => if x = a then 0 else rk x + 1, fun k p q => ?_⟩
  have e7 : zup (zup (zup J 177 b a) 178 a v) 179 a w 177 k = if k = b then a else J 177 k := rfl
  have e8 : zup (zup (zup J 177 b a) 178 a v) 179 a w 178 k = if k = a then v else J 178 k := rfl
  have e9 : zup (zup (zup J 177 b a) 178 a v) 179 a w 179 k = if k = a then w else J 179 k := rfl
  unfold UN1
  rw [e7, e8, e9]
  obtain ⟨⟨h1, h2⟩, h3, h4⟩ := h k p q
  refine ⟨?_, ?_, fun hk => ?_⟩
  · by_cases e : k = b
    · rw [if_pos e]
      refine ⟨ha.1, Or.inr ?_⟩
      show (if a = a then 0 else rk a + 1) < (if k = a then 0 else rk k + 1)
      rw [if_pos rfl, if_neg (by omega)]
      omega
    · rw [if_neg e]
      refine ⟨h1, h2.imp id (fun g => ?_)⟩
      have hka : ¬ k = a := fun e2 => by subst e2; rw [ha.2.2] at g; omega
      show (if J 177 k = a then 0 else rk (J 177 k) + 1) < (if k = a then 0 else rk k + 1)
      rw [if_neg hka]
      split <;> omega
  · split
    · exact hv
    · exact h3
  · refine ⟨?_, ?_⟩
    · split
      · exact ha.2.1
      · exact (h4 hk).1
    · split
      · exact hw
      · exact (h4 hk).2
theorem rc_join {J : zJ} {a b v w : Int} (hb : (0 ≤ b ∧ b < 800) ∧ J 177 b = b) (hab : ¬ a = b) : rc (zup (zup (zup J 177 b a) 178 a v) 179 a w) < rc J := by
  refine cnt_lt 800 (fun k p q g => ?_) ⟨b, hb.1, decide_eq_true hb.2, decide_eq_false ?_⟩
  · have g1 := of_decide_eq_true g
    have e7 : zup (zup (zup J 177 b a) 178 a v) 179 a w 177 k = if k = b then a else J 177 k := rfl
    rw [e7] at g1
    refine decide_eq_true ?_
    by_cases e : k = b
    · rw [e]; exact hb.2
    · rw [if_neg e] at g1; exact g1
  · have e7 : zup (zup (zup J 177 b a) 178 a v) 179 a w 177 b = if b = b then a else J 177 b := rfl
    rw [e7, if_pos rfl]
    exact hab
theorem UF.of {J' J : zJ} {c m : Int} (h : UF J c m) (e7 : J' 177 = J 177) (e8 : J' 178 = J 178) (e9 : J' 179 = J 179) : UF J' c m := by
  unfold UF UN1
  rw [e7, e8, e9]
  exact h
theorem UF.at {J : zJ} {c m k : Int} (h : UF J c m) (hk : 0 ≤ k ∧ k < c) : (0 ≤ J 177 k ∧ J 177 k < c) ∧ (J 178 k = -1 ∨ (0 ≤ J 178 k ∧ J 178 k < c ∧ J 178 k % 400 < m)) ∧ (k % 400 < m → J 177 k % 400 < m ∧ (J 178 k = -1 → 0 ≤ J 179 k ∧ J 179 k < 8)) := by
  obtain ⟨-, rk, h⟩ := h
  obtain ⟨⟨h1, -⟩, h3, h4⟩ := h k hk.1 hk.2
  exact ⟨h1, h3, h4⟩
set_option maxHeartbeats 4000000 in
set_option maxRecDepth 100000 in
theorem m_top {l : Launch} {G : tb_G} (hl : l.stackTraces = false) (n : Nat) (J : zJ) (x : Int) (hr_x : -2147483648 ≤ x ∧ x < 2147483648) (c m : Int) (hU : UF J c m) (hx : 0 ≤ x ∧ x < c) : tz_Ok l G M_X12_top 0 0 0 [.ref 164, zi x] n J (zqi (fun z J' => J = J' ∧ (0 ≤ z ∧ z < c) ∧ J 177 z = z ∧ (x % 400 < m → z % 400 < m))) zN := by
  refine tz_Ok.of hl (by decide +kernel) rfl (tb_c1 rfl) (Nat.le_of_ble_eq_true rfl) ?_
  show tz_At l G M_X12_top (tb_rm 0 0 0) none (tb_ZM G 0 0 (zQ n 0 (zqi (fun z J' => J = J' ∧ (0 ≤ z ∧ z < c) ∧ J 177 z = z ∧ (x % 400 < m → z % 400 < m)))) (zX n 0 zN)) 0 0 n J 0 [some (.ref 164), some (zi x), none] []
  obtain ⟨hc, rk, hu⟩ := hU
  refine tz_iload_n (pc := 0) dX12_top_0 rfl rfl ?_
  refine tz_istore_n (pc := 1) (L2 := [_, _, _]) dX12_top_1 rfl (by decide) rfl ?_
  have loop2 : ∀ (f9 : Nat) (k : Int), (rk k) < f9 → (0 ≤ k ∧ k < c) → (x % 400 < m → k % 400 < m) → tz_At l G M_X12_top (tb_rm 0 0 0) none (tb_ZM G 0 0 (zQ n 0 (zqi (fun z J' => J = J' ∧ (0 ≤ z ∧ z < c) ∧ J 177 z = z ∧ (x % 400 < m → z % 400 < m)))) (zX n 0 zN)) 0 0 n J 2 [some (.ref 164), some (zi x), some (zi k)] [] := by
    intro f9
    induction f9 with
    | zero => intro k hm9; exact absurd hm9 (Nat.not_lt_zero _)
    | succ f9 ih2 =>
      intro k hm2 hk hv
      obtain ⟨h1, h2, h3⟩ := hu k hk.1 hk.2
      refine tz_aload_n (pc := 2) dX12_top_2 rfl rfl ?_
      refine tz_fR (pc := 3) dX12_top_3 fl_X12_50 r_164_25 ?_
      refine tz_iload_n (pc := 6) dX12_top_6 rfl rfl ?_
      refine tz_aL (pc := 7) (z := k) (v := (J 177 k)) dX12_top_7 a_177 rfl (by omega) rfl (fun r_7 => ?_)
      refine tz_iload_n (pc := 8) dX12_top_8 rfl rfl ?_
      refine tz_icmp_eq (pc := 9) (tgt := 22) dX12_top_9 (by decide) (by omega) (by omega) (fun h_9 => ?_) (fun h_9 => ?_)
      · refine tz_iload_n (pc := 22) dX12_top_22 rfl rfl ?_
        exact tz_iret (pc := 23) (z := k) dX12_top_23 rfl (Nat.le_of_ble_eq_true rfl) (Nat.le_of_ble_eq_true rfl) ⟨Nat.le_refl _, Nat.le_add_right _ _⟩ ⟨_, rfl, (by omega), ⟨rfl, hk, by omega, hv⟩⟩
      · refine tz_aload_n (pc := 12) dX12_top_12 rfl rfl ?_
        refine tz_fR (pc := 13) dX12_top_13 fl_X12_50 r_164_25 ?_
        refine tz_iload_n (pc := 16) dX12_top_16 rfl rfl ?_
        refine tz_aL (pc := 17) (z := k) (v := (J 177 k)) dX12_top_17 a_177 rfl (by omega) rfl (fun r_17 => ?_)
        refine tz_istore_n (pc := 18) (L2 := [_, _, _]) dX12_top_18 rfl (by decide) rfl ?_
        refine tz_goto (pc := 19) (tgt := 2) dX12_top_19 (by decide) ?_
        exact ih2 _ (by have := h1.2.resolve_left (by omega); omega) h1.1 (fun q9 => (h3 (hv q9)).1)
  exact loop2 _ _ (Nat.lt_succ_self _) hx id

set_option maxHeartbeats 4000000 in
set_option maxRecDepth 100000 in
theorem m_argOf {l : Launch} {G : tb_G} (hl : l.stackTraces = false) (n : Nat) (J : zJ) (x : Int) (i : Int) (hr_x : -2147483648 ≤ x ∧ x < 2147483648) (hr_i : -2147483648 ≤ i ∧ i < 2147483648) (b r d s m : Int) (c : Int) (hM : MS J b r d s m) (hc : c = 400 ∨ c = 800) (hx : (0 ≤ x ∧ x < c) ∧ x % 400 < m) (hi : 0 ≤ i ∧ i < mar J b d (x % 400)) : tz_Ok l G M_X12_argumentOf 1 0 0 [.ref 164, zi x, zi i] n J (zqi (fun z J' => J = J' ∧ (0 ≤ z ∧ z < c) ∧ z % 400 < m)) zN := by
  refine tz_Ok.of hl (by decide +kernel) rfl (tb_c1 rfl) (Nat.le_of_ble_eq_true rfl) ?_
  show tz_At l G M_X12_argumentOf (tb_rm 1 0 0) none (tb_ZM G 0 0 (zQ n 0 (zqi (fun z J' => J = J' ∧ (0 ≤ z ∧ z < c) ∧ z % 400 < m))) (zX n 0 zN)) 0 0 n J 0 [some (.ref 164), some (zi x), some (zi i)] []
  obtain ⟨hM1, hM2, hM3, hM4, hM5, hM6⟩ := id hM
  have hT := hM.told
  have ha := hM.ar (t := x % 400) (by omega)
  have hg := hM.arg (t := x % 400) (i := i) (by omega) hi
  refine tz_iload_n (pc := 0) dX12_argumentOf_0 rfl rfl ?_
  refine tz_sipush (pc := 1) dX12_argumentOf_1 (by decide) ?_
  refine tz_idiv (pc := 4) (a := x) (b := 400) (v := (x / 400)) dX12_argumentOf_4 (by omega) (by omega) rfl ?_
  refine tz_sipush (pc := 5) dX12_argumentOf_5 (by decide) ?_
  refine tz_imul (pc := 8) (v := (x / 400) * 400) dX12_argumentOf_8 rfl ?_
  refine tz_aload_n (pc := 9) dX12_argumentOf_9 rfl rfl ?_
  refine tz_iload_n (pc := 10) dX12_argumentOf_10 rfl rfl ?_
  refine tz_sipush (pc := 11) dX12_argumentOf_11 (by decide) ?_
  refine tz_irem (pc := 14) (a := x) (b := 400) (v := (x % 400)) dX12_argumentOf_14 (by omega) (by omega) rfl ?_
  refine tz_iload_n (pc := 15) dX12_argumentOf_15 rfl rfl ?_
  refine tz_cV (pc := 16) (m_arg hl n _ _ _ (by omega) (by omega) b r d s m hM (by omega) (by omega)) vl_X12_88 dX12_argumentOf_16 o_164 rfl rfl (Nat.le_of_ble_eq_true rfl) ⟨(Nat.le_of_ble_eq_true rfl), (Nat.le_of_ble_eq_true rfl)⟩ rfl rfl (Nat.le_of_ble_eq_true rfl) (Nat.le_of_ble_eq_true rfl) (fun r9 J_16 hq9 => ?_)
  obtain ⟨z_16, rfl, hz_16, rfl, rfl⟩ := hq9
  refine tz_iadd (pc := 19) (v := ((x / 400) * 400) + (J 167 (3 * (b + (x % 400)) + i))) dX12_argumentOf_19 rfl ?_
  exact tz_iret (pc := 20) (z := (((x / 400) * 400) + (J 167 (3 * (b + (x % 400)) + i)))) dX12_argumentOf_20 rfl (Nat.le_of_ble_eq_true rfl) (Nat.le_of_ble_eq_true rfl) ⟨Nat.le_refl _, Nat.le_add_right _ _⟩ ⟨_, rfl, (by omega), ⟨rfl, by omega, by omega⟩⟩

theorem MS.cl {J' J : zJ} {b r d s m : Int} (h : MS J b r d s m) (f : zOf (zbut [164, 177, 178, 179, 180]) J' J) (g : ∀ k, ¬ k = 30 → J' 164 k = J 164 k) : MS J' b r d s m := h.of ⟨g _ (by decide), g _ (by decide), g _ (by decide)⟩ (by rw [f 165 rfl]) (f 166 rfl) (f 167 rfl) (f 168 rfl) (f 170 rfl)
theorem ini_s {J1 : zJ} {k m v8 v9 : Int} (h : ∀ q, 0 ≤ q → q < k → J1 177 q = q ∧ (J1 178 q = -1 ∨ (J1 178 q = q ∧ q % 400 < m)) ∧ (q % 400 < m → J1 178 q = -1 → 0 ≤ J1 179 q ∧ J1 179 q < 8)) (h8 : v8 = -1 ∨ (v8 = k ∧ k % 400 < m)) (h9 : k % 400 < m → v8 = -1 → 0 ≤ v9 ∧ v9 < 8) : ∀ q, 0 ≤ q → q < k + 1 → zup (zup (zup (zup J1 177 k k) 178 k v8) 179 k v9) 180 k 0 177 q = q ∧ (zup (zup (zup (zup J1 177 k k) 178 k v8) 179 k v9) 180 k 0 178 q = -1 ∨ (zup (zup (zup (zup J1 177 k k) 178 k v8) 179 k v9) 180 k 0 178 q = q ∧ q % 400 < m)) ∧ (q % 400 < m → zup (zup (zup (zup J1 177 k k) 178 k v8) 179 k v9) 180 k 0 178 q = -1 → 0 ≤ zup (zup (zup (zup J1 177 k k) 178 k v8) 179 k v9) 180 k 0 179 q ∧ zup (zup (zup (zup J1 177 k k) 178 k v8) 179 k v9) 180 k 0 179 q < 8) := by
  intro q a b
  have e7 : zup (zup (zup (zup J1 177 k k) 178 k v8) 179 k v9) 180 k 0 177 q = if q = k then k else J1 177 q := rfl
  have e8 : zup (zup (zup (zup J1 177 k k) 178 k v8) 179 k v9) 180 k 0 178 q = if q = k then v8 else J1 178 q := rfl
  have e9 : zup (zup (zup (zup J1 177 k k) 178 k v8) 179 k v9) 180 k 0 179 q = if q = k then v9 else J1 179 q := rfl
  rw [e7, e8, e9]
  by_cases e : q = k
  · subst e
    rw [if_pos rfl, if_pos rfl, if_pos rfl]
    exact ⟨rfl, h8, h9⟩
  · rw [if_neg e, if_neg e, if_neg e]
    exact h q a (by omega)
set_option maxHeartbeats 4000000 in
set_option maxRecDepth 100000 in
theorem m_begCl {l : Launch} {G : tb_G} (hl : l.stackTraces = false) (n : Nat) (J : zJ)   (b r d s m : Int) (hM : MS J b r d s m)  : tz_Ok l G M_X12_beginsClasses 2 0 0 [.ref 164] n J (zqv (fun J' => UF J' 800 m ∧ UF J' 400 m ∧ J' 164 30 = 0 ∧ zOf (zbut [164, 177, 178, 179, 180]) J' J ∧ ∀ k, ¬ k = 30 → J' 164 k = J 164 k)) zN := by
  refine tz_Ok.of hl (by decide +kernel) rfl (tb_c1 rfl) (Nat.le_of_ble_eq_true rfl) ?_
  show tz_At l G M_X12_beginsClasses (tb_rm 2 0 0) none (tb_ZM G 0 0 (zQ n 0 (zqv (fun J' => UF J' 800 m ∧ UF J' 400 m ∧ J' 164 30 = 0 ∧ zOf (zbut [164, 177, 178, 179, 180]) J' J ∧ ∀ k, ¬ k = 30 → J' 164 k = J 164 k))) (zX n 0 zN)) 0 0 n J 0 [some (.ref 164), none, none, none] []
  obtain ⟨hM1, hM2, hM3, hM4, hM5, hM6⟩ := id hM
  have hT := hM.told
  refine tz_iconst (pc := 0) dX12_beginsClasses_0 ?_
  refine tz_istore_n (pc := 1) (L2 := [_, _, _, _]) dX12_beginsClasses_1 rfl (by decide) rfl ?_
  have loop2 : ∀ (f9 : Nat) (k : Int) (d2 : Option Value) (d3 : Option Value) (J1 : zJ), ((800 - k).toNat) < f9 → (0 ≤ k ∧ k ≤ 800) → (zOf (zbut [164, 177, 178, 179, 180]) J1 J ∧ ∀ k, ¬ k = 30 → J1 164 k = J 164 k) → (∀ q, 0 ≤ q → q < k → J1 177 q = q ∧ (J1 178 q = -1 ∨ (J1 178 q = q ∧ q % 400 < m)) ∧ (q % 400 < m → J1 178 q = -1 → 0 ≤ J1 179 q ∧ J1 179 q < 8)) → tz_At l G M_X12_beginsClasses (tb_rm 2 0 0) none (tb_ZM G 0 0 (zQ n 0 (zqv (fun J' => UF J' 800 m ∧ UF J' 400 m ∧ J' 164 30 = 0 ∧ zOf (zbut [164, 177, 178, 179, 180]) J' J ∧ ∀ k, ¬ k = 30 → J' 164 k = J 164 k))) (zX n 0 zN)) 0 0 n J1 2 [some (.ref 164), some (zi k), d2, d3] [] := by
    intro f9
    induction f9 with
    | zero => intro k d2 d3 J1 hm9; exact absurd hm9 (Nat.not_lt_zero _)
    | succ f9 ih2 =>
      intro k d2 d3 J1 hm2 hk f1 h1
      refine tz_iload_n (pc := 2) dX12_beginsClasses_2 rfl rfl ?_
      refine tz_sipush (pc := 3) dX12_beginsClasses_3 (by decide) ?_
      refine tz_icmp_ge (pc := 6) (tgt := 100) dX12_beginsClasses_6 (by decide) (by omega) (by decide) (fun h_6 => ?_) (fun h_6 => ?_)
      · refine tz_aload_n (pc := 100) dX12_beginsClasses_100 rfl rfl ?_
        refine tz_iconst (pc := 101) dX12_beginsClasses_101 ?_
        refine tz_pZ (pc := 102) (kz := 30) dX12_beginsClasses_102 fl_X12_161 i_164_30 rfl rfl (Or.inl rfl) ?_
        exact tz_vret (pc := 105) dX12_beginsClasses_105 rfl (Nat.le_of_ble_eq_true rfl) (Nat.le_of_ble_eq_true rfl) ⟨Nat.le_refl _, Nat.le_add_right _ _⟩ ⟨rfl, ⟨⟨Or.inr rfl, fun _ => 0, fun q a c => by obtain ⟨i1, i2, i3⟩ := h1 q a (by omega); refine ⟨⟨by show 0 ≤ J1 177 q ∧ J1 177 q < 800; omega, Or.inl i1⟩, by show J1 178 q = -1 ∨ (0 ≤ J1 178 q ∧ J1 178 q < 800 ∧ J1 178 q % 400 < m); (rcases i2 with i2 | i2 <;> first | exact Or.inl i2 | (rw [i2.1]; exact Or.inr ⟨a, c, i2.2⟩)), fun hq => ⟨by show J1 177 q % 400 < m; rw [i1]; exact hq, i3 hq⟩⟩⟩, ⟨Or.inl rfl, fun _ => 0, fun q a c => by obtain ⟨i1, i2, i3⟩ := h1 q a (by omega); refine ⟨⟨by show 0 ≤ J1 177 q ∧ J1 177 q < 400; omega, Or.inl i1⟩, by show J1 178 q = -1 ∨ (0 ≤ J1 178 q ∧ J1 178 q < 400 ∧ J1 178 q % 400 < m); (rcases i2 with i2 | i2 <;> first | exact Or.inl i2 | (rw [i2.1]; exact Or.inr ⟨a, c, i2.2⟩)), fun hq => ⟨by show J1 177 q % 400 < m; rw [i1]; exact hq, i3 hq⟩⟩⟩, zup_at, zOf.up rfl f1.1, fun q hq => (zup_ne hq).trans (f1.2 q hq)⟩⟩
      · refine tz_iload_n (pc := 9) dX12_beginsClasses_9 rfl rfl ?_
        refine tz_sipush (pc := 10) dX12_beginsClasses_10 (by decide) ?_
        refine tz_irem (pc := 13) (a := k) (b := 400) (v := (k % 400)) dX12_beginsClasses_13 (by omega) (by omega) rfl ?_
        have hk9 : 0 ≤ k % 400 ∧ k % 400 < 400 := by omega
        refine tz_istore_n (pc := 14) (L2 := [_, _, _, _]) dX12_beginsClasses_14 rfl (by decide) rfl ?_
        refine tz_iload_n (pc := 15) dX12_beginsClasses_15 rfl rfl ?_
        refine tz_aload_n (pc := 16) dX12_beginsClasses_16 rfl rfl ?_
        refine tz_cV (pc := 17) (m_many hl n _ b r d s m (hM.cl f1.1 f1.2)) vl_X12_96 dX12_beginsClasses_17 o_164 rfl rfl (Nat.le_of_ble_eq_true rfl) ⟨(Nat.le_of_ble_eq_true rfl), (Nat.le_of_ble_eq_true rfl)⟩ rfl rfl (Nat.le_of_ble_eq_true rfl) (Nat.le_of_ble_eq_true rfl) (fun r9 J_17 hq9 => ?_)
        obtain ⟨z_17, rfl, hz_17, rfl, rfl⟩ := hq9
        refine tz_icmp_ge (pc := 20) (tgt := 27) dX12_beginsClasses_20 (by decide) (by omega) (by omega) (fun h_20 => ?_) (fun h_20 => ?_)
        · refine tz_iconst (pc := 27) dX12_beginsClasses_27 ?_
          refine tz_istore_n (pc := 28) (L2 := [_, _, _, _]) dX12_beginsClasses_28 rfl (by decide) rfl ?_
          refine tz_aload_n (pc := 29) dX12_beginsClasses_29 rfl rfl ?_
          refine tz_fR (pc := 30) dX12_beginsClasses_30 fl_X12_50 r_164_25 ?_
          refine tz_iload_n (pc := 33) dX12_beginsClasses_33 rfl rfl ?_
          refine tz_iload_n (pc := 34) dX12_beginsClasses_34 rfl rfl ?_
          refine tz_aS (pc := 35) (z := k) dX12_beginsClasses_35 a_177 rfl (by omega) (by omega) ?_
          refine tz_aload_n (pc := 36) dX12_beginsClasses_36 rfl rfl ?_
          refine tz_fR (pc := 37) dX12_beginsClasses_37 fl_X12_53 r_164_26 ?_
          refine tz_iload_n (pc := 40) dX12_beginsClasses_40 rfl rfl ?_
          refine tz_iload_n (pc := 41) dX12_beginsClasses_41 rfl rfl ?_
          refine tz_if_eqT (pc := 42) (tgt := 57) (by decide) dX12_beginsClasses_42 (by decide) (by decide) ?_
          refine tz_iconst (pc := 57) dX12_beginsClasses_57 ?_
          refine tz_aS (pc := 58) (z := k) dX12_beginsClasses_58 a_178 rfl (by omega) (by decide) ?_
          refine tz_aload_n (pc := 59) dX12_beginsClasses_59 rfl rfl ?_
          refine tz_fR (pc := 60) dX12_beginsClasses_60 fl_X12_56 r_164_27 ?_
          refine tz_iload_n (pc := 63) dX12_beginsClasses_63 rfl rfl ?_
          refine tz_iload_n (pc := 64) dX12_beginsClasses_64 rfl rfl ?_
          refine tz_if_eqT (pc := 65) (tgt := 84) (by decide) dX12_beginsClasses_65 (by decide) (by decide) ?_
          refine tz_bipush (pc := 84) dX12_beginsClasses_84 (by decide) ?_
          refine tz_aS (pc := 86) (z := k) dX12_beginsClasses_86 a_179 rfl (by omega) (by decide) ?_
          refine tz_aload_n (pc := 87) dX12_beginsClasses_87 rfl rfl ?_
          refine tz_fR (pc := 88) dX12_beginsClasses_88 fl_X12_59 r_164_28 ?_
          refine tz_iload_n (pc := 91) dX12_beginsClasses_91 rfl rfl ?_
          refine tz_iconst (pc := 92) dX12_beginsClasses_92 ?_
          refine tz_aS (pc := 93) (z := k) dX12_beginsClasses_93 a_180 rfl (by omega) (by decide) ?_
          refine tz_iinc (pc := 94) (z := k + 1) (L2 := [_, _, _, _]) dX12_beginsClasses_94 rfl (by omega) rfl ?_
          refine tz_goto (pc := 97) (tgt := 2) dX12_beginsClasses_97 (by decide) ?_
          exact ih2 (k + 1) _ _ _ (by omega) (by omega) ⟨zOf.up rfl (zOf.up rfl (zOf.up rfl (zOf.up rfl f1.1))), f1.2⟩ (ini_s h1 (by omega) (by omega))
        · refine tz_iconst (pc := 23) dX12_beginsClasses_23 ?_
          refine tz_goto (pc := 24) (tgt := 28) dX12_beginsClasses_24 (by decide) ?_
          refine tz_istore_n (pc := 28) (L2 := [_, _, _, _]) dX12_beginsClasses_28 rfl (by decide) rfl ?_
          refine tz_aload_n (pc := 29) dX12_beginsClasses_29 rfl rfl ?_
          refine tz_fR (pc := 30) dX12_beginsClasses_30 fl_X12_50 r_164_25 ?_
          refine tz_iload_n (pc := 33) dX12_beginsClasses_33 rfl rfl ?_
          refine tz_iload_n (pc := 34) dX12_beginsClasses_34 rfl rfl ?_
          refine tz_aS (pc := 35) (z := k) dX12_beginsClasses_35 a_177 rfl (by omega) (by omega) ?_
          refine tz_aload_n (pc := 36) dX12_beginsClasses_36 rfl rfl ?_
          refine tz_fR (pc := 37) dX12_beginsClasses_37 fl_X12_53 r_164_26 ?_
          refine tz_iload_n (pc := 40) dX12_beginsClasses_40 rfl rfl ?_
          refine tz_iload_n (pc := 41) dX12_beginsClasses_41 rfl rfl ?_
          refine tz_if_eqF (pc := 42) (tgt := 57) (by decide) dX12_beginsClasses_42 (by decide) (by decide) ?_
          refine tz_aload_n (pc := 45) dX12_beginsClasses_45 rfl rfl ?_
          refine tz_iload_n (pc := 46) dX12_beginsClasses_46 rfl rfl ?_
          have ha47 := hM.ar (t := k % 400) (by omega)
          refine tz_cV (pc := 47) (m_isVar hl n _ _ (by omega) b r d s m (hM.cl (zOf.up rfl f1.1) f1.2) (by omega)) vl_X12_78 dX12_beginsClasses_47 o_164 rfl rfl (Nat.le_of_ble_eq_true rfl) ⟨(Nat.le_of_ble_eq_true rfl), (Nat.le_of_ble_eq_true rfl)⟩ rfl rfl (Nat.le_of_ble_eq_true rfl) (Nat.le_of_ble_eq_true rfl) (fun r9 J_47 hq9 => ?_)
          obtain ⟨z_47, rfl, hz_47, rfl, hv_47⟩ := hq9
          have he_47 : ((zup J1 177 k k) : zJ) 166 = J 166 := (zOf.up rfl f1.1) 166 rfl
          rw [he_47] at hv_47
          have hw_47 : (z_47 = 1 ∧ J 166 (b + (k % 400)) < 0) ∨ (z_47 = 0 ∧ ¬ J 166 (b + (k % 400)) < 0) := by rw [← hv_47]; split <;> omega
          refine tz_if_ne (pc := 50) (tgt := 57) dX12_beginsClasses_50 (by decide) (by omega) (fun h_50 => ?_) (fun h_50 => ?_)
          · refine tz_iconst (pc := 57) dX12_beginsClasses_57 ?_
            refine tz_aS (pc := 58) (z := k) dX12_beginsClasses_58 a_178 rfl (by omega) (by decide) ?_
            refine tz_aload_n (pc := 59) dX12_beginsClasses_59 rfl rfl ?_
            refine tz_fR (pc := 60) dX12_beginsClasses_60 fl_X12_56 r_164_27 ?_
            refine tz_iload_n (pc := 63) dX12_beginsClasses_63 rfl rfl ?_
            refine tz_iload_n (pc := 64) dX12_beginsClasses_64 rfl rfl ?_
            refine tz_if_eqF (pc := 65) (tgt := 84) (by decide) dX12_beginsClasses_65 (by decide) (by decide) ?_
            refine tz_aload_n (pc := 68) dX12_beginsClasses_68 rfl rfl ?_
            refine tz_iload_n (pc := 69) dX12_beginsClasses_69 rfl rfl ?_
            have ha70 := hM.ar (t := k % 400) (by omega)
            refine tz_cV (pc := 70) (m_isVar hl n _ _ (by omega) b r d s m (hM.cl (zOf.up rfl (zOf.up rfl f1.1)) f1.2) (by omega)) vl_X12_78 dX12_beginsClasses_70 o_164 rfl rfl (Nat.le_of_ble_eq_true rfl) ⟨(Nat.le_of_ble_eq_true rfl), (Nat.le_of_ble_eq_true rfl)⟩ rfl rfl (Nat.le_of_ble_eq_true rfl) (Nat.le_of_ble_eq_true rfl) (fun r9 J_70 hq9 => ?_)
            obtain ⟨z_70, rfl, hz_70, rfl, hv_70⟩ := hq9
            have he_70 : ((zup (zup J1 177 k k) 178 k (-1)) : zJ) 166 = J 166 := (zOf.up rfl (zOf.up rfl f1.1)) 166 rfl
            rw [he_70] at hv_70
            have hw_70 : (z_70 = 1 ∧ J 166 (b + (k % 400)) < 0) ∨ (z_70 = 0 ∧ ¬ J 166 (b + (k % 400)) < 0) := by rw [← hv_70]; split <;> omega
            refine tz_if_eq (pc := 73) (tgt := 84) dX12_beginsClasses_73 (by decide) (by omega) (fun h_73 => ?_) (fun h_73 => ?_)
            · refine tz_bipush (pc := 84) dX12_beginsClasses_84 (by decide) ?_
              refine tz_aS (pc := 86) (z := k) dX12_beginsClasses_86 a_179 rfl (by omega) (by decide) ?_
              refine tz_aload_n (pc := 87) dX12_beginsClasses_87 rfl rfl ?_
              refine tz_fR (pc := 88) dX12_beginsClasses_88 fl_X12_59 r_164_28 ?_
              refine tz_iload_n (pc := 91) dX12_beginsClasses_91 rfl rfl ?_
              refine tz_iconst (pc := 92) dX12_beginsClasses_92 ?_
              refine tz_aS (pc := 93) (z := k) dX12_beginsClasses_93 a_180 rfl (by omega) (by decide) ?_
              refine tz_iinc (pc := 94) (z := k + 1) (L2 := [_, _, _, _]) dX12_beginsClasses_94 rfl (by omega) rfl ?_
              refine tz_goto (pc := 97) (tgt := 2) dX12_beginsClasses_97 (by decide) ?_
              exact ih2 (k + 1) _ _ _ (by omega) (by omega) ⟨zOf.up rfl (zOf.up rfl (zOf.up rfl (zOf.up rfl f1.1))), f1.2⟩ (ini_s h1 (by omega) (by omega))
            · refine tz_aload_n (pc := 76) dX12_beginsClasses_76 rfl rfl ?_
              refine tz_iload_n (pc := 77) dX12_beginsClasses_77 rfl rfl ?_
              refine tz_cV (pc := 78) (m_varOf hl n _ _ (by omega) b r d s m (hM.cl (zOf.up rfl (zOf.up rfl f1.1)) f1.2) (by omega)) vl_X12_123 dX12_beginsClasses_78 o_164 rfl rfl (Nat.le_of_ble_eq_true rfl) ⟨(Nat.le_of_ble_eq_true rfl), (Nat.le_of_ble_eq_true rfl)⟩ rfl rfl (Nat.le_of_ble_eq_true rfl) (Nat.le_of_ble_eq_true rfl) (fun r9 J_78 hq9 => ?_)
              obtain ⟨z_78, rfl, hz_78, rfl, hv_78⟩ := hq9
              have he_78 : ((zup (zup J1 177 k k) 178 k (-1)) : zJ) 166 = J 166 := (zOf.up rfl (zOf.up rfl f1.1)) 166 rfl
              rw [he_78] at hv_78
              refine tz_goto (pc := 81) (tgt := 86) dX12_beginsClasses_81 (by decide) ?_
              refine tz_aS (pc := 86) (z := k) dX12_beginsClasses_86 a_179 rfl (by omega) (by omega) ?_
              refine tz_aload_n (pc := 87) dX12_beginsClasses_87 rfl rfl ?_
              refine tz_fR (pc := 88) dX12_beginsClasses_88 fl_X12_59 r_164_28 ?_
              refine tz_iload_n (pc := 91) dX12_beginsClasses_91 rfl rfl ?_
              refine tz_iconst (pc := 92) dX12_beginsClasses_92 ?_
              refine tz_aS (pc := 93) (z := k) dX12_beginsClasses_93 a_180 rfl (by omega) (by decide) ?_
              refine tz_iinc (pc := 94) (z := k + 1) (L2 := [_, _, _, _]) dX12_beginsClasses_94 rfl (by omega) rfl ?_
              refine tz_goto (pc := 97) (tgt := 2) dX12_beginsClasses_97 (by decide) ?_
              exact ih2 (k + 1) _ _ _ (by omega) (by omega) ⟨zOf.up rfl (zOf.up rfl (zOf.up rfl (zOf.up rfl f1.1))), f1.2⟩ (ini_s h1 (by omega) (by omega))
          · refine tz_iload_n (pc := 53) dX12_beginsClasses_53 rfl rfl ?_
            refine tz_goto (pc := 54) (tgt := 58) dX12_beginsClasses_54 (by decide) ?_
            refine tz_aS (pc := 58) (z := k) dX12_beginsClasses_58 a_178 rfl (by omega) (by omega) ?_
            refine tz_aload_n (pc := 59) dX12_beginsClasses_59 rfl rfl ?_
            refine tz_fR (pc := 60) dX12_beginsClasses_60 fl_X12_56 r_164_27 ?_
            refine tz_iload_n (pc := 63) dX12_beginsClasses_63 rfl rfl ?_
            refine tz_iload_n (pc := 64) dX12_beginsClasses_64 rfl rfl ?_
            refine tz_if_eqF (pc := 65) (tgt := 84) (by decide) dX12_beginsClasses_65 (by decide) (by decide) ?_
            refine tz_aload_n (pc := 68) dX12_beginsClasses_68 rfl rfl ?_
            refine tz_iload_n (pc := 69) dX12_beginsClasses_69 rfl rfl ?_
            have ha70 := hM.ar (t := k % 400) (by omega)
            refine tz_cV (pc := 70) (m_isVar hl n _ _ (by omega) b r d s m (hM.cl (zOf.up rfl (zOf.up rfl f1.1)) f1.2) (by omega)) vl_X12_78 dX12_beginsClasses_70 o_164 rfl rfl (Nat.le_of_ble_eq_true rfl) ⟨(Nat.le_of_ble_eq_true rfl), (Nat.le_of_ble_eq_true rfl)⟩ rfl rfl (Nat.le_of_ble_eq_true rfl) (Nat.le_of_ble_eq_true rfl) (fun r9 J_70 hq9 => ?_)
            obtain ⟨z_70, rfl, hz_70, rfl, hv_70⟩ := hq9
            have he_70 : ((zup (zup J1 177 k k) 178 k k) : zJ) 166 = J 166 := (zOf.up rfl (zOf.up rfl f1.1)) 166 rfl
            rw [he_70] at hv_70
            have hw_70 : (z_70 = 1 ∧ J 166 (b + (k % 400)) < 0) ∨ (z_70 = 0 ∧ ¬ J 166 (b + (k % 400)) < 0) := by rw [← hv_70]; split <;> omega
            refine tz_if_eq (pc := 73) (tgt := 84) dX12_beginsClasses_73 (by decide) (by omega) (fun h_73 => ?_) (fun h_73 => ?_)
            · refine tz_bipush (pc := 84) dX12_beginsClasses_84 (by decide) ?_
              refine tz_aS (pc := 86) (z := k) dX12_beginsClasses_86 a_179 rfl (by omega) (by decide) ?_
              refine tz_aload_n (pc := 87) dX12_beginsClasses_87 rfl rfl ?_
              refine tz_fR (pc := 88) dX12_beginsClasses_88 fl_X12_59 r_164_28 ?_
              refine tz_iload_n (pc := 91) dX12_beginsClasses_91 rfl rfl ?_
              refine tz_iconst (pc := 92) dX12_beginsClasses_92 ?_
              refine tz_aS (pc := 93) (z := k) dX12_beginsClasses_93 a_180 rfl (by omega) (by decide) ?_
              refine tz_iinc (pc := 94) (z := k + 1) (L2 := [_, _, _, _]) dX12_beginsClasses_94 rfl (by omega) rfl ?_
              refine tz_goto (pc := 97) (tgt := 2) dX12_beginsClasses_97 (by decide) ?_
              exact ih2 (k + 1) _ _ _ (by omega) (by omega) ⟨zOf.up rfl (zOf.up rfl (zOf.up rfl (zOf.up rfl f1.1))), f1.2⟩ (ini_s h1 (by omega) (by omega))
            · refine tz_aload_n (pc := 76) dX12_beginsClasses_76 rfl rfl ?_
              refine tz_iload_n (pc := 77) dX12_beginsClasses_77 rfl rfl ?_
              refine tz_cV (pc := 78) (m_varOf hl n _ _ (by omega) b r d s m (hM.cl (zOf.up rfl (zOf.up rfl f1.1)) f1.2) (by omega)) vl_X12_123 dX12_beginsClasses_78 o_164 rfl rfl (Nat.le_of_ble_eq_true rfl) ⟨(Nat.le_of_ble_eq_true rfl), (Nat.le_of_ble_eq_true rfl)⟩ rfl rfl (Nat.le_of_ble_eq_true rfl) (Nat.le_of_ble_eq_true rfl) (fun r9 J_78 hq9 => ?_)
              obtain ⟨z_78, rfl, hz_78, rfl, hv_78⟩ := hq9
              have he_78 : ((zup (zup J1 177 k k) 178 k k) : zJ) 166 = J 166 := (zOf.up rfl (zOf.up rfl f1.1)) 166 rfl
              rw [he_78] at hv_78
              refine tz_goto (pc := 81) (tgt := 86) dX12_beginsClasses_81 (by decide) ?_
              refine tz_aS (pc := 86) (z := k) dX12_beginsClasses_86 a_179 rfl (by omega) (by omega) ?_
              refine tz_aload_n (pc := 87) dX12_beginsClasses_87 rfl rfl ?_
              refine tz_fR (pc := 88) dX12_beginsClasses_88 fl_X12_59 r_164_28 ?_
              refine tz_iload_n (pc := 91) dX12_beginsClasses_91 rfl rfl ?_
              refine tz_iconst (pc := 92) dX12_beginsClasses_92 ?_
              refine tz_aS (pc := 93) (z := k) dX12_beginsClasses_93 a_180 rfl (by omega) (by decide) ?_
              refine tz_iinc (pc := 94) (z := k + 1) (L2 := [_, _, _, _]) dX12_beginsClasses_94 rfl (by omega) rfl ?_
              refine tz_goto (pc := 97) (tgt := 2) dX12_beginsClasses_97 (by decide) ?_
              exact ih2 (k + 1) _ _ _ (by omega) (by omega) ⟨zOf.up rfl (zOf.up rfl (zOf.up rfl (zOf.up rfl f1.1))), f1.2⟩ (ini_s h1 (by omega) (by omega))
  exact loop2 _ 0 none none _ (Nat.lt_succ_self _) (by omega) ⟨zOf.rf, fun _ _ => rfl⟩ (fun q a b => by omega)

end
section
theorem zsel {f : Int → Int} {a : Int} : ∀ k, f k = if k = a then f a else f k := fun k => by
  split
  · next h => rw [h]
  · rfl
theorem UF.joinP {J J' : zJ} {c m a b v w : Int} (h : UF J c m) (ha : (0 ≤ a ∧ a < c) ∧ a % 400 < m ∧ J 177 a = a) (hb : (0 ≤ b ∧ b < c) ∧ b % 400 < m ∧ J 177 b = b) (hab : ¬ a = b) (hv : v = -1 ∨ (0 ≤ v ∧ v < c ∧ v % 400 < m)) (hw : v = -1 → 0 ≤ w ∧ w < 8) (e7 : ∀ k, J' 177 k = if k = b then a else J 177 k) (e8 : ∀ k, J' 178 k = if k = a then v else J 178 k) (e9 : ∀ k, J' 179 k = if k = a then w else J 179 k) : UF J' c m ∧ rc J' < rc J := by
  have hc := h.1
  refine ⟨(UF.join h ha hb hab hv hw).of (funext fun k => (e7 k).trans rfl) (funext fun k => (e8 k).trans rfl) (funext fun k => (e9 k).trans rfl), ?_⟩
  have h1 := rc_join (J := J) (a := a) (b := b) (v := v) (w := w) ⟨⟨hb.1.1, by omega⟩, hb.2.2⟩ hab
  have e : rc J' = rc (zup (zup (zup J 177 b a) 178 a v) 179 a w) := by
    unfold rc
    rw [show J' 177 = zup (zup (zup J 177 b a) 178 a v) 179 a w 177 from funext fun k => (e7 k).trans rfl]
  omega
theorem mar_cl {J' J : zJ} {b d t : Int} (f : zOf (zbut [164, 177, 178, 179, 180]) J' J) : mar J' b d t = mar J b d t := by
  unfold mar
  rw [f 166 rfl, f 170 rfl]
theorem UF.bd {J : zJ} {c m : Int} (h : UF J c m) : c = 400 ∨ c = 800 := h.1
set_option maxHeartbeats 4000000 in
set_option maxRecDepth 100000 in
theorem m_joinsR {l : Launch} {G : tb_G} (hl : l.stackTraces = false) (n : Nat) : ∀ (r9 : Nat) (J : zJ) (x : Int) (y : Int) (hr_x : -2147483648 ≤ x ∧ x < 2147483648) (hr_y : -2147483648 ≤ y ∧ y < 2147483648) (b r d s m : Int) (c : Int) (hM : MS J b r d s m) (hU : UF J c m) (hx : (0 ≤ x ∧ x < c) ∧ x % 400 < m) (hy : (0 ≤ y ∧ y < c) ∧ y % 400 < m), (rc J) < r9 → tz_Ok l G M_X12_joins (5 + 1 * r9) 0 0 [.ref 164, zi x, zi y] n J (zqv (fun J' => UF J' c m ∧ rc J' ≤ rc J ∧ zOf (zbut [164, 177, 178, 179, 180]) J' J ∧ ∀ k, ¬ k = 30 → J' 164 k = J 164 k)) zN := by
  intro r9
  induction r9 with
  | zero => intro J x y hr_x hr_y b r d s m c hM hU hx hy hm9; exact absurd hm9 (Nat.not_lt_zero _)
  | succ r9 ih =>
    intro J x y hr_x hr_y b r d s m c hM hU hx hy hm9
    refine tz_Ok.of hl (by decide +kernel) rfl (tb_c1 rfl) (Nat.le_of_ble_eq_true rfl) ?_
    show tz_At l G M_X12_joins (tb_rm (5 + 1 * (r9 + 1)) 0 0) none (tb_ZM G 0 0 (zQ n 0 (zqv (fun J' => UF J' c m ∧ rc J' ≤ rc J ∧ zOf (zbut [164, 177, 178, 179, 180]) J' J ∧ ∀ k, ¬ k = 30 → J' 164 k = J 164 k))) (zX n 0 zN)) 0 0 n J 0 [some (.ref 164), some (zi x), some (zi y), none, none, none, none, none] []
    obtain ⟨hM1, hM2, hM3, hM4, hM5, hM6⟩ := id hM
    have hT := hM.told
    have hc9 := hU.1
    refine tz_aload_n (pc := 0) dX12_joins_0 rfl rfl ?_
    refine tz_iload_n (pc := 1) dX12_joins_1 rfl rfl ?_
    refine tz_cV (pc := 2) (m_top hl n _ _ (by omega) c m hU (by omega)) vl_X12_164 dX12_joins_2 o_164 rfl rfl (Nat.le_of_ble_eq_true rfl) ⟨(show 0 + 1 ≤ 5 + 1 * (r9 + 1) by omega), (show 8 + (3 + 11) + 40 * (0) ≤ 40 * (5 + 1 * (r9 + 1)) by omega)⟩ rfl rfl (Nat.le_of_ble_eq_true rfl) (Nat.le_of_ble_eq_true rfl) (fun r9 J_2 hq9 => ?_)
    obtain ⟨z_2, rfl, hz_2, rfl, a_2, b_2, c_2⟩ := hq9
    refine tz_istore_n (pc := 5) (L2 := [_, _, _, _, _, _, _, _]) dX12_joins_5 rfl (by decide) rfl ?_
    refine tz_aload_n (pc := 6) dX12_joins_6 rfl rfl ?_
    refine tz_iload_n (pc := 7) dX12_joins_7 rfl rfl ?_
    refine tz_cV (pc := 8) (m_top hl n _ _ (by omega) c m hU (by omega)) vl_X12_164 dX12_joins_8 o_164 rfl rfl (Nat.le_of_ble_eq_true rfl) ⟨(show 0 + 1 ≤ 5 + 1 * (r9 + 1) by omega), (show 8 + (3 + 11) + 40 * (0) ≤ 40 * (5 + 1 * (r9 + 1)) by omega)⟩ rfl rfl (Nat.le_of_ble_eq_true rfl) (Nat.le_of_ble_eq_true rfl) (fun r9 J_8 hq9 => ?_)
    obtain ⟨z_8, rfl, hz_8, rfl, a_8, b_8, c_8⟩ := hq9
    refine tz_istore (pc := 11) (L2 := [_, _, _, _, _, _, _, _]) dX12_joins_11 (by decide) rfl ?_
    refine tz_iload_n (pc := 13) dX12_joins_13 rfl rfl ?_
    refine tz_iload (pc := 14) dX12_joins_14 rfl ?_
    refine tz_icmp_ne (pc := 16) (tgt := 20) dX12_joins_16 (by decide) (by omega) (by omega) (fun h_16 => ?_) (fun h_16 => ?_)
    · have ua := (hU.at a_2).2
      have ub := (hU.at a_8).2
      have va := c_2 hx.2
      have vb := c_8 hy.2
      refine tz_aload_n (pc := 20) dX12_joins_20 rfl rfl ?_
      refine tz_fR (pc := 21) dX12_joins_21 fl_X12_53 r_164_26 ?_
      refine tz_iload_n (pc := 24) dX12_joins_24 rfl rfl ?_
      refine tz_aL (pc := 25) (z := z_2) (v := (J 178 z_2)) dX12_joins_25 a_178 rfl (by omega) rfl (fun r_25 => ?_)
      refine tz_istore (pc := 26) (L2 := [_, _, _, _, _, _, _, _]) dX12_joins_26 (by decide) rfl ?_
      refine tz_aload_n (pc := 28) dX12_joins_28 rfl rfl ?_
      refine tz_fR (pc := 29) dX12_joins_29 fl_X12_53 r_164_26 ?_
      refine tz_iload (pc := 32) dX12_joins_32 rfl ?_
      refine tz_aL (pc := 34) (z := z_8) (v := (J 178 z_8)) dX12_joins_34 a_178 rfl (by omega) rfl (fun r_34 => ?_)
      refine tz_istore (pc := 35) (L2 := [_, _, _, _, _, _, _, _]) dX12_joins_35 (by decide) rfl ?_
      refine tz_aload_n (pc := 37) dX12_joins_37 rfl rfl ?_
      refine tz_fR (pc := 38) dX12_joins_38 fl_X12_50 r_164_25 ?_
      refine tz_iload (pc := 41) dX12_joins_41 rfl ?_
      refine tz_iload_n (pc := 43) dX12_joins_43 rfl rfl ?_
      refine tz_aS (pc := 44) (z := z_8) dX12_joins_44 a_177 rfl (by omega) (by omega) ?_
      refine tz_iload (pc := 45) dX12_joins_45 rfl ?_
      refine tz_iconst (pc := 47) dX12_joins_47 ?_
      refine tz_icmp_ne (pc := 48) (tgt := 59) dX12_joins_48 (by decide) (by omega) (by decide) (fun h_48 => ?_) (fun h_48 => ?_)
      · refine tz_aload_n (pc := 59) dX12_joins_59 rfl rfl ?_
        refine tz_fR (pc := 60) dX12_joins_60 fl_X12_56 r_164_27 ?_
        refine tz_iload (pc := 63) dX12_joins_63 rfl ?_
        refine tz_aL (pc := 65) (z := z_8) (v := (J 179 z_8)) dX12_joins_65 a_179 rfl (by omega) rfl (fun r_65 => ?_)
        refine tz_aload_n (pc := 66) dX12_joins_66 rfl rfl ?_
        refine tz_fR (pc := 67) dX12_joins_67 fl_X12_56 r_164_27 ?_
        refine tz_iload_n (pc := 70) dX12_joins_70 rfl rfl ?_
        refine tz_aL (pc := 71) (z := z_2) (v := (J 179 z_2)) dX12_joins_71 a_179 rfl (by omega) rfl (fun r_71 => ?_)
        refine tz_icmp_ge (pc := 72) (tgt := 88) dX12_joins_72 (by decide) (by omega) (by omega) (fun h_72 => ?_) (fun h_72 => ?_)
        · have hu := UF.joinP (J := J) (J' := (zup J 177 z_8 z_2)) (c := c) (m := m) (a := z_2) (b := z_8) (v := J 178 z_2) (w := J 179 z_2) hU ⟨a_2, c_2 hx.2, b_2⟩ ⟨a_8, c_8 hy.2, b_8⟩ (by omega) (by omega) (by omega) (fun _ => rfl) (zsel (f := J 178)) (zsel (f := J 179))
          refine tz_iload (pc := 88) dX12_joins_88 rfl ?_
          refine tz_iconst (pc := 90) dX12_joins_90 ?_
          refine tz_icmp_eq (pc := 91) (tgt := 100) dX12_joins_91 (by decide) (by omega) (by decide) (fun h_91 => ?_) (fun h_91 => ?_)
          · exact tz_vret (pc := 100) dX12_joins_100 rfl (Nat.le_of_ble_eq_true rfl) (Nat.le_of_ble_eq_true rfl) ⟨Nat.le_refl _, Nat.le_add_right _ _⟩ ⟨rfl, ⟨hu.1, Nat.le_of_lt hu.2, (zOf.up rfl zOf.rf), (fun _ _ => rfl)⟩⟩
          · refine tz_iload (pc := 94) dX12_joins_94 rfl ?_
            refine tz_iconst (pc := 96) dX12_joins_96 ?_
            refine tz_icmp_ne (pc := 97) (tgt := 101) dX12_joins_97 (by decide) (by omega) (by decide) (fun h_97 => ?_) (fun h_97 => ?_)
            · refine tz_aload_n (pc := 101) dX12_joins_101 rfl rfl ?_
              refine tz_iload (pc := 102) dX12_joins_102 rfl ?_
              refine tz_sipush (pc := 104) dX12_joins_104 (by decide) ?_
              refine tz_irem (pc := 107) (a := (J 178 z_2)) (b := 400) (v := ((J 178 z_2) % 400)) dX12_joins_107 (by omega) (by omega) rfl ?_
              refine tz_cV (pc := 108) (m_head hl n _ _ (by omega) b r d s m (hM.cl (zOf.up rfl zOf.rf) (fun _ _ => rfl)) (by omega)) vl_X12_74 dX12_joins_108 o_164 rfl rfl (Nat.le_of_ble_eq_true rfl) ⟨(show 0 + 1 ≤ 5 + 1 * (r9 + 1) by omega), (show 8 + (2 + 11) + 40 * (0) ≤ 40 * (5 + 1 * (r9 + 1)) by omega)⟩ rfl rfl (Nat.le_of_ble_eq_true rfl) (Nat.le_of_ble_eq_true rfl) (fun r9 J_108 hq9 => ?_)
              obtain ⟨z_108, rfl, hz_108, rfl, hv_108⟩ := hq9
              have he_108 : ((zup J 177 z_8 z_2) : zJ) 166 = J 166 := rfl
              rw [he_108] at hv_108
              refine tz_aload_n (pc := 111) dX12_joins_111 rfl rfl ?_
              refine tz_iload (pc := 112) dX12_joins_112 rfl ?_
              refine tz_sipush (pc := 114) dX12_joins_114 (by decide) ?_
              refine tz_irem (pc := 117) (a := (J 178 z_8)) (b := 400) (v := ((J 178 z_8) % 400)) dX12_joins_117 (by omega) (by omega) rfl ?_
              refine tz_cV (pc := 118) (m_head hl n _ _ (by omega) b r d s m (hM.cl (zOf.up rfl zOf.rf) (fun _ _ => rfl)) (by omega)) vl_X12_74 dX12_joins_118 o_164 rfl rfl (Nat.le_of_ble_eq_true rfl) ⟨(show 0 + 1 ≤ 5 + 1 * (r9 + 1) by omega), (show 8 + (2 + 11) + 40 * (0) ≤ 40 * (5 + 1 * (r9 + 1)) by omega)⟩ rfl rfl (Nat.le_of_ble_eq_true rfl) (Nat.le_of_ble_eq_true rfl) (fun r9 J_118 hq9 => ?_)
              obtain ⟨z_118, rfl, hz_118, rfl, hv_118⟩ := hq9
              have he_118 : ((zup J 177 z_8 z_2) : zJ) 166 = J 166 := rfl
              rw [he_118] at hv_118
              have ha121 := hM.ar (t := (J 178 z_2) % 400) (by omega)
              refine tz_icmp_eq (pc := 121) (tgt := 130) dX12_joins_121 (by decide) (by omega) (by omega) (fun h_121 => ?_) (fun h_121 => ?_)
              · refine tz_iconst (pc := 130) dX12_joins_130 ?_
                refine tz_istore (pc := 131) (L2 := [_, _, _, _, _, _, _, _]) dX12_joins_131 (by decide) rfl ?_
                have loop133 : ∀ (f9 : Nat) (k : Int) (J1 : zJ), ((3 - k).toNat) < f9 → (0 ≤ k ∧ k ≤ 3) → (UF J1 c m) → (rc J1 < rc J) → (zOf (zbut [164, 177, 178, 179, 180]) J1 J ∧ ∀ k, ¬ k = 30 → J1 164 k = J 164 k) → tz_At l G M_X12_joins (tb_rm (5 + 1 * (r9 + 1)) 0 0) none (tb_ZM G 0 0 (zQ n 0 (zqv (fun J' => UF J' c m ∧ rc J' ≤ rc J ∧ zOf (zbut [164, 177, 178, 179, 180]) J' J ∧ ∀ k, ¬ k = 30 → J' 164 k = J 164 k))) (zX n 0 zN)) 0 0 n J1 133 [some (.ref 164), some (zi x), some (zi y), some (zi z_2), some (zi z_8), some (zi (J 178 z_2)), some (zi (J 178 z_8)), some (zi k)] [] := by
                  intro f9
                  induction f9 with
                  | zero => intro k J1 hm9; exact absurd hm9 (Nat.not_lt_zero _)
                  | succ f9 ih133 =>
                    intro k J1 hm133 hk hU1 hr1 f_J1
                    have e9 := MS.hd8 (J := J) (b := b) (d := d) (t := (J 178 z_2) % 400) (u := (J 178 z_8) % 400) (by omega)
                    have hA := hM.ar (t := (J 178 z_2) % 400) (by omega)
                    refine tz_iload (pc := 133) dX12_joins_133 rfl ?_
                    refine tz_aload_n (pc := 135) dX12_joins_135 rfl rfl ?_
                    refine tz_iload (pc := 136) dX12_joins_136 rfl ?_
                    refine tz_sipush (pc := 138) dX12_joins_138 (by decide) ?_
                    refine tz_irem (pc := 141) (a := (J 178 z_2)) (b := 400) (v := ((J 178 z_2) % 400)) dX12_joins_141 (by omega) (by omega) rfl ?_
                    refine tz_cV (pc := 142) (m_arity hl n _ _ (by omega) b r d s m (hM.cl f_J1.1 f_J1.2) (by omega)) vl_X12_111 dX12_joins_142 o_164 rfl rfl (Nat.le_of_ble_eq_true rfl) ⟨(show 2 + 1 ≤ 5 + 1 * (r9 + 1) by omega), (show 8 + (2 + 11) + 40 * (2) ≤ 40 * (5 + 1 * (r9 + 1)) by omega)⟩ rfl rfl (Nat.le_of_ble_eq_true rfl) (Nat.le_of_ble_eq_true rfl) (fun r9 J_142 hq9 => ?_)
                    obtain ⟨z_142, rfl, hz_142, rfl, hv_142⟩ := hq9
                    rw [mar_cl (J := J) f_J1.1] at hv_142
                    refine tz_icmp_ge (pc := 145) (tgt := 174) dX12_joins_145 (by decide) (by omega) (by omega) (fun h_145 => ?_) (fun h_145 => ?_)
                    · exact tz_vret (pc := 174) dX12_joins_174 rfl (Nat.le_of_ble_eq_true rfl) (Nat.le_of_ble_eq_true rfl) ⟨Nat.le_refl _, Nat.le_add_right _ _⟩ ⟨rfl, ⟨hU1, by omega, f_J1⟩⟩
                    · refine tz_aload_n (pc := 148) dX12_joins_148 rfl rfl ?_
                      refine tz_aload_n (pc := 149) dX12_joins_149 rfl rfl ?_
                      refine tz_iload (pc := 150) dX12_joins_150 rfl ?_
                      refine tz_iload (pc := 152) dX12_joins_152 rfl ?_
                      refine tz_cV (pc := 154) (m_argOf hl n _ _ _ (by omega) (by omega) b r d s m c (hM.cl f_J1.1 f_J1.2) hU.1 (by omega) (by rw [mar_cl (J := J) f_J1.1]; omega)) vl_X12_167 dX12_joins_154 o_164 rfl rfl (Nat.le_of_ble_eq_true rfl) ⟨(show 1 + 1 ≤ 5 + 1 * (r9 + 1) by omega), (show 8 + (3 + 11) + 40 * (1) ≤ 40 * (5 + 1 * (r9 + 1)) by omega)⟩ rfl rfl (Nat.le_of_ble_eq_true rfl) (Nat.le_of_ble_eq_true rfl) (fun r9 J_154 hq9 => ?_)
                      obtain ⟨z_154, rfl, hz_154, rfl, hg_154, hh_154⟩ := hq9
                      refine tz_aload_n (pc := 157) dX12_joins_157 rfl rfl ?_
                      refine tz_iload (pc := 158) dX12_joins_158 rfl ?_
                      refine tz_iload (pc := 160) dX12_joins_160 rfl ?_
                      refine tz_cV (pc := 162) (m_argOf hl n _ _ _ (by omega) (by omega) b r d s m c (hM.cl f_J1.1 f_J1.2) hU.1 (by omega) (by rw [mar_cl (J := J) f_J1.1]; omega)) vl_X12_167 dX12_joins_162 o_164 rfl rfl (Nat.le_of_ble_eq_true rfl) ⟨(show 1 + 1 ≤ 5 + 1 * (r9 + 1) by omega), (show 8 + (3 + 11) + 40 * (1) ≤ 40 * (5 + 1 * (r9 + 1)) by omega)⟩ rfl rfl (Nat.le_of_ble_eq_true rfl) (Nat.le_of_ble_eq_true rfl) (fun r9 J_162 hq9 => ?_)
                      obtain ⟨z_162, rfl, hz_162, rfl, hg_162, hh_162⟩ := hq9
                      refine tz_cV (pc := 165) (ih _ _ _ (by omega) (by omega) b r d s m c (hM.cl f_J1.1 f_J1.2) hU1 ⟨hg_154, hh_154⟩ ⟨hg_162, hh_162⟩ (by omega)) vl_X12_170 dX12_joins_165 o_164 rfl rfl (Nat.le_of_ble_eq_true rfl) ⟨(show (5 + 1 * r9) + 1 ≤ 5 + 1 * (r9 + 1) by omega), (show 8 + (8 + 11) + 40 * ((5 + 1 * r9)) ≤ 40 * (5 + 1 * (r9 + 1)) by omega)⟩ rfl rfl (Nat.le_of_ble_eq_true rfl) (Nat.le_of_ble_eq_true rfl) (fun r9 J_165 hq9 => ?_)
                      obtain ⟨rfl, u_2, r_2, g_2, k_2⟩ := hq9
                      refine tz_iinc (pc := 168) (z := k + 1) (L2 := [_, _, _, _, _, _, _, _]) dX12_joins_168 rfl (by omega) rfl ?_
                      refine tz_goto (pc := 171) (tgt := 133) dX12_joins_171 (by decide) ?_
                      exact ih133 (k + 1) _ (by omega) (by omega) u_2 (by omega) ⟨g_2.tr f_J1.1, fun k hk => (k_2 k hk).trans (f_J1.2 k hk)⟩
                exact loop133 _ 0 _ (Nat.lt_succ_self _) (by omega) hu.1 hu.2 ⟨(zOf.up rfl zOf.rf), (fun _ _ => rfl)⟩
              · refine tz_aload_n (pc := 124) dX12_joins_124 rfl rfl ?_
                refine tz_iconst (pc := 125) dX12_joins_125 ?_
                refine tz_pZ (pc := 126) (kz := 30) dX12_joins_126 fl_X12_161 i_164_30 rfl rfl (Or.inr rfl) ?_
                exact tz_vret (pc := 129) dX12_joins_129 rfl (Nat.le_of_ble_eq_true rfl) (Nat.le_of_ble_eq_true rfl) ⟨Nat.le_refl _, Nat.le_add_right _ _⟩ ⟨rfl, ⟨hu.1.of rfl rfl rfl, Nat.le_of_lt hu.2, (zOf.up rfl (zOf.up rfl zOf.rf)), (fun k hk => (zup_ne hk).trans ((fun _ _ => rfl) k hk))⟩⟩
            · exact tz_vret (pc := 100) dX12_joins_100 rfl (Nat.le_of_ble_eq_true rfl) (Nat.le_of_ble_eq_true rfl) ⟨Nat.le_refl _, Nat.le_add_right _ _⟩ ⟨rfl, ⟨hu.1, Nat.le_of_lt hu.2, (zOf.up rfl zOf.rf), (fun _ _ => rfl)⟩⟩
        · refine tz_aload_n (pc := 75) dX12_joins_75 rfl rfl ?_
          refine tz_fR (pc := 76) dX12_joins_76 fl_X12_56 r_164_27 ?_
          refine tz_iload_n (pc := 79) dX12_joins_79 rfl rfl ?_
          refine tz_aload_n (pc := 80) dX12_joins_80 rfl rfl ?_
          refine tz_fR (pc := 81) dX12_joins_81 fl_X12_56 r_164_27 ?_
          refine tz_iload (pc := 84) dX12_joins_84 rfl ?_
          refine tz_aL (pc := 86) (z := z_8) (v := (J 179 z_8)) dX12_joins_86 a_179 rfl (by omega) rfl (fun r_86 => ?_)
          refine tz_aS (pc := 87) (z := z_2) dX12_joins_87 a_179 rfl (by omega) (by omega) ?_
          have hu := UF.joinP (J := J) (J' := (zup (zup J 177 z_8 z_2) 179 z_2 (J 179 z_8))) (c := c) (m := m) (a := z_2) (b := z_8) (v := J 178 z_2) (w := J 179 z_8) hU ⟨a_2, c_2 hx.2, b_2⟩ ⟨a_8, c_8 hy.2, b_8⟩ (by omega) (by omega) (by omega) (fun _ => rfl) (zsel (f := J 178)) (fun _ => rfl)
          refine tz_iload (pc := 88) dX12_joins_88 rfl ?_
          refine tz_iconst (pc := 90) dX12_joins_90 ?_
          refine tz_icmp_eq (pc := 91) (tgt := 100) dX12_joins_91 (by decide) (by omega) (by decide) (fun h_91 => ?_) (fun h_91 => ?_)
          · exact tz_vret (pc := 100) dX12_joins_100 rfl (Nat.le_of_ble_eq_true rfl) (Nat.le_of_ble_eq_true rfl) ⟨Nat.le_refl _, Nat.le_add_right _ _⟩ ⟨rfl, ⟨hu.1, Nat.le_of_lt hu.2, (zOf.up rfl (zOf.up rfl zOf.rf)), (fun _ _ => rfl)⟩⟩
          · refine tz_iload (pc := 94) dX12_joins_94 rfl ?_
            refine tz_iconst (pc := 96) dX12_joins_96 ?_
            refine tz_icmp_ne (pc := 97) (tgt := 101) dX12_joins_97 (by decide) (by omega) (by decide) (fun h_97 => ?_) (fun h_97 => ?_)
            · refine tz_aload_n (pc := 101) dX12_joins_101 rfl rfl ?_
              refine tz_iload (pc := 102) dX12_joins_102 rfl ?_
              refine tz_sipush (pc := 104) dX12_joins_104 (by decide) ?_
              refine tz_irem (pc := 107) (a := (J 178 z_2)) (b := 400) (v := ((J 178 z_2) % 400)) dX12_joins_107 (by omega) (by omega) rfl ?_
              refine tz_cV (pc := 108) (m_head hl n _ _ (by omega) b r d s m (hM.cl (zOf.up rfl (zOf.up rfl zOf.rf)) (fun _ _ => rfl)) (by omega)) vl_X12_74 dX12_joins_108 o_164 rfl rfl (Nat.le_of_ble_eq_true rfl) ⟨(show 0 + 1 ≤ 5 + 1 * (r9 + 1) by omega), (show 8 + (2 + 11) + 40 * (0) ≤ 40 * (5 + 1 * (r9 + 1)) by omega)⟩ rfl rfl (Nat.le_of_ble_eq_true rfl) (Nat.le_of_ble_eq_true rfl) (fun r9 J_108 hq9 => ?_)
              obtain ⟨z_108, rfl, hz_108, rfl, hv_108⟩ := hq9
              have he_108 : ((zup (zup J 177 z_8 z_2) 179 z_2 (J 179 z_8)) : zJ) 166 = J 166 := rfl
              rw [he_108] at hv_108
              refine tz_aload_n (pc := 111) dX12_joins_111 rfl rfl ?_
              refine tz_iload (pc := 112) dX12_joins_112 rfl ?_
              refine tz_sipush (pc := 114) dX12_joins_114 (by decide) ?_
              refine tz_irem (pc := 117) (a := (J 178 z_8)) (b := 400) (v := ((J 178 z_8) % 400)) dX12_joins_117 (by omega) (by omega) rfl ?_
              refine tz_cV (pc := 118) (m_head hl n _ _ (by omega) b r d s m (hM.cl (zOf.up rfl (zOf.up rfl zOf.rf)) (fun _ _ => rfl)) (by omega)) vl_X12_74 dX12_joins_118 o_164 rfl rfl (Nat.le_of_ble_eq_true rfl) ⟨(show 0 + 1 ≤ 5 + 1 * (r9 + 1) by omega), (show 8 + (2 + 11) + 40 * (0) ≤ 40 * (5 + 1 * (r9 + 1)) by omega)⟩ rfl rfl (Nat.le_of_ble_eq_true rfl) (Nat.le_of_ble_eq_true rfl) (fun r9 J_118 hq9 => ?_)
              obtain ⟨z_118, rfl, hz_118, rfl, hv_118⟩ := hq9
              have he_118 : ((zup (zup J 177 z_8 z_2) 179 z_2 (J 179 z_8)) : zJ) 166 = J 166 := rfl
              rw [he_118] at hv_118
              have ha121 := hM.ar (t := (J 178 z_2) % 400) (by omega)
              refine tz_icmp_eq (pc := 121) (tgt := 130) dX12_joins_121 (by decide) (by omega) (by omega) (fun h_121 => ?_) (fun h_121 => ?_)
              · refine tz_iconst (pc := 130) dX12_joins_130 ?_
                refine tz_istore (pc := 131) (L2 := [_, _, _, _, _, _, _, _]) dX12_joins_131 (by decide) rfl ?_
                have loop133 : ∀ (f9 : Nat) (k : Int) (J1 : zJ), ((3 - k).toNat) < f9 → (0 ≤ k ∧ k ≤ 3) → (UF J1 c m) → (rc J1 < rc J) → (zOf (zbut [164, 177, 178, 179, 180]) J1 J ∧ ∀ k, ¬ k = 30 → J1 164 k = J 164 k) → tz_At l G M_X12_joins (tb_rm (5 + 1 * (r9 + 1)) 0 0) none (tb_ZM G 0 0 (zQ n 0 (zqv (fun J' => UF J' c m ∧ rc J' ≤ rc J ∧ zOf (zbut [164, 177, 178, 179, 180]) J' J ∧ ∀ k, ¬ k = 30 → J' 164 k = J 164 k))) (zX n 0 zN)) 0 0 n J1 133 [some (.ref 164), some (zi x), some (zi y), some (zi z_2), some (zi z_8), some (zi (J 178 z_2)), some (zi (J 178 z_8)), some (zi k)] [] := by
                  intro f9
                  induction f9 with
                  | zero => intro k J1 hm9; exact absurd hm9 (Nat.not_lt_zero _)
                  | succ f9 ih133 =>
                    intro k J1 hm133 hk hU1 hr1 f_J1
                    have e9 := MS.hd8 (J := J) (b := b) (d := d) (t := (J 178 z_2) % 400) (u := (J 178 z_8) % 400) (by omega)
                    have hA := hM.ar (t := (J 178 z_2) % 400) (by omega)
                    refine tz_iload (pc := 133) dX12_joins_133 rfl ?_
                    refine tz_aload_n (pc := 135) dX12_joins_135 rfl rfl ?_
                    refine tz_iload (pc := 136) dX12_joins_136 rfl ?_
                    refine tz_sipush (pc := 138) dX12_joins_138 (by decide) ?_
                    refine tz_irem (pc := 141) (a := (J 178 z_2)) (b := 400) (v := ((J 178 z_2) % 400)) dX12_joins_141 (by omega) (by omega) rfl ?_
                    refine tz_cV (pc := 142) (m_arity hl n _ _ (by omega) b r d s m (hM.cl f_J1.1 f_J1.2) (by omega)) vl_X12_111 dX12_joins_142 o_164 rfl rfl (Nat.le_of_ble_eq_true rfl) ⟨(show 2 + 1 ≤ 5 + 1 * (r9 + 1) by omega), (show 8 + (2 + 11) + 40 * (2) ≤ 40 * (5 + 1 * (r9 + 1)) by omega)⟩ rfl rfl (Nat.le_of_ble_eq_true rfl) (Nat.le_of_ble_eq_true rfl) (fun r9 J_142 hq9 => ?_)
                    obtain ⟨z_142, rfl, hz_142, rfl, hv_142⟩ := hq9
                    rw [mar_cl (J := J) f_J1.1] at hv_142
                    refine tz_icmp_ge (pc := 145) (tgt := 174) dX12_joins_145 (by decide) (by omega) (by omega) (fun h_145 => ?_) (fun h_145 => ?_)
                    · exact tz_vret (pc := 174) dX12_joins_174 rfl (Nat.le_of_ble_eq_true rfl) (Nat.le_of_ble_eq_true rfl) ⟨Nat.le_refl _, Nat.le_add_right _ _⟩ ⟨rfl, ⟨hU1, by omega, f_J1⟩⟩
                    · refine tz_aload_n (pc := 148) dX12_joins_148 rfl rfl ?_
                      refine tz_aload_n (pc := 149) dX12_joins_149 rfl rfl ?_
                      refine tz_iload (pc := 150) dX12_joins_150 rfl ?_
                      refine tz_iload (pc := 152) dX12_joins_152 rfl ?_
                      refine tz_cV (pc := 154) (m_argOf hl n _ _ _ (by omega) (by omega) b r d s m c (hM.cl f_J1.1 f_J1.2) hU.1 (by omega) (by rw [mar_cl (J := J) f_J1.1]; omega)) vl_X12_167 dX12_joins_154 o_164 rfl rfl (Nat.le_of_ble_eq_true rfl) ⟨(show 1 + 1 ≤ 5 + 1 * (r9 + 1) by omega), (show 8 + (3 + 11) + 40 * (1) ≤ 40 * (5 + 1 * (r9 + 1)) by omega)⟩ rfl rfl (Nat.le_of_ble_eq_true rfl) (Nat.le_of_ble_eq_true rfl) (fun r9 J_154 hq9 => ?_)
                      obtain ⟨z_154, rfl, hz_154, rfl, hg_154, hh_154⟩ := hq9
                      refine tz_aload_n (pc := 157) dX12_joins_157 rfl rfl ?_
                      refine tz_iload (pc := 158) dX12_joins_158 rfl ?_
                      refine tz_iload (pc := 160) dX12_joins_160 rfl ?_
                      refine tz_cV (pc := 162) (m_argOf hl n _ _ _ (by omega) (by omega) b r d s m c (hM.cl f_J1.1 f_J1.2) hU.1 (by omega) (by rw [mar_cl (J := J) f_J1.1]; omega)) vl_X12_167 dX12_joins_162 o_164 rfl rfl (Nat.le_of_ble_eq_true rfl) ⟨(show 1 + 1 ≤ 5 + 1 * (r9 + 1) by omega), (show 8 + (3 + 11) + 40 * (1) ≤ 40 * (5 + 1 * (r9 + 1)) by omega)⟩ rfl rfl (Nat.le_of_ble_eq_true rfl) (Nat.le_of_ble_eq_true rfl) (fun r9 J_162 hq9 => ?_)
                      obtain ⟨z_162, rfl, hz_162, rfl, hg_162, hh_162⟩ := hq9
                      refine tz_cV (pc := 165) (ih _ _ _ (by omega) (by omega) b r d s m c (hM.cl f_J1.1 f_J1.2) hU1 ⟨hg_154, hh_154⟩ ⟨hg_162, hh_162⟩ (by omega)) vl_X12_170 dX12_joins_165 o_164 rfl rfl (Nat.le_of_ble_eq_true rfl) ⟨(show (5 + 1 * r9) + 1 ≤ 5 + 1 * (r9 + 1) by omega), (show 8 + (8 + 11) + 40 * ((5 + 1 * r9)) ≤ 40 * (5 + 1 * (r9 + 1)) by omega)⟩ rfl rfl (Nat.le_of_ble_eq_true rfl) (Nat.le_of_ble_eq_true rfl) (fun r9 J_165 hq9 => ?_)
                      obtain ⟨rfl, u_2, r_2, g_2, k_2⟩ := hq9
                      refine tz_iinc (pc := 168) (z := k + 1) (L2 := [_, _, _, _, _, _, _, _]) dX12_joins_168 rfl (by omega) rfl ?_
                      refine tz_goto (pc := 171) (tgt := 133) dX12_joins_171 (by decide) ?_
                      exact ih133 (k + 1) _ (by omega) (by omega) u_2 (by omega) ⟨g_2.tr f_J1.1, fun k hk => (k_2 k hk).trans (f_J1.2 k hk)⟩
                exact loop133 _ 0 _ (Nat.lt_succ_self _) (by omega) hu.1 hu.2 ⟨(zOf.up rfl (zOf.up rfl zOf.rf)), (fun _ _ => rfl)⟩
              · refine tz_aload_n (pc := 124) dX12_joins_124 rfl rfl ?_
                refine tz_iconst (pc := 125) dX12_joins_125 ?_
                refine tz_pZ (pc := 126) (kz := 30) dX12_joins_126 fl_X12_161 i_164_30 rfl rfl (Or.inr rfl) ?_
                exact tz_vret (pc := 129) dX12_joins_129 rfl (Nat.le_of_ble_eq_true rfl) (Nat.le_of_ble_eq_true rfl) ⟨Nat.le_refl _, Nat.le_add_right _ _⟩ ⟨rfl, ⟨hu.1.of rfl rfl rfl, Nat.le_of_lt hu.2, (zOf.up rfl (zOf.up rfl (zOf.up rfl zOf.rf))), (fun k hk => (zup_ne hk).trans ((fun _ _ => rfl) k hk))⟩⟩
            · exact tz_vret (pc := 100) dX12_joins_100 rfl (Nat.le_of_ble_eq_true rfl) (Nat.le_of_ble_eq_true rfl) ⟨Nat.le_refl _, Nat.le_add_right _ _⟩ ⟨rfl, ⟨hu.1, Nat.le_of_lt hu.2, (zOf.up rfl (zOf.up rfl zOf.rf)), (fun _ _ => rfl)⟩⟩
      · refine tz_aload_n (pc := 51) dX12_joins_51 rfl rfl ?_
        refine tz_fR (pc := 52) dX12_joins_52 fl_X12_53 r_164_26 ?_
        refine tz_iload_n (pc := 55) dX12_joins_55 rfl rfl ?_
        refine tz_iload (pc := 56) dX12_joins_56 rfl ?_
        refine tz_aS (pc := 58) (z := z_2) dX12_joins_58 a_178 rfl (by omega) (by omega) ?_
        refine tz_aload_n (pc := 59) dX12_joins_59 rfl rfl ?_
        refine tz_fR (pc := 60) dX12_joins_60 fl_X12_56 r_164_27 ?_
        refine tz_iload (pc := 63) dX12_joins_63 rfl ?_
        refine tz_aL (pc := 65) (z := z_8) (v := (J 179 z_8)) dX12_joins_65 a_179 rfl (by omega) rfl (fun r_65 => ?_)
        refine tz_aload_n (pc := 66) dX12_joins_66 rfl rfl ?_
        refine tz_fR (pc := 67) dX12_joins_67 fl_X12_56 r_164_27 ?_
        refine tz_iload_n (pc := 70) dX12_joins_70 rfl rfl ?_
        refine tz_aL (pc := 71) (z := z_2) (v := (J 179 z_2)) dX12_joins_71 a_179 rfl (by omega) rfl (fun r_71 => ?_)
        refine tz_icmp_ge (pc := 72) (tgt := 88) dX12_joins_72 (by decide) (by omega) (by omega) (fun h_72 => ?_) (fun h_72 => ?_)
        · have hu := UF.joinP (J := J) (J' := (zup (zup J 177 z_8 z_2) 178 z_2 (J 178 z_8))) (c := c) (m := m) (a := z_2) (b := z_8) (v := J 178 z_8) (w := J 179 z_2) hU ⟨a_2, c_2 hx.2, b_2⟩ ⟨a_8, c_8 hy.2, b_8⟩ (by omega) (by omega) (by omega) (fun _ => rfl) (fun _ => rfl) (zsel (f := J 179))
          refine tz_iload (pc := 88) dX12_joins_88 rfl ?_
          refine tz_iconst (pc := 90) dX12_joins_90 ?_
          refine tz_icmp_eq (pc := 91) (tgt := 100) dX12_joins_91 (by decide) (by omega) (by decide) (fun h_91 => ?_) (fun h_91 => ?_)
          · exact tz_vret (pc := 100) dX12_joins_100 rfl (Nat.le_of_ble_eq_true rfl) (Nat.le_of_ble_eq_true rfl) ⟨Nat.le_refl _, Nat.le_add_right _ _⟩ ⟨rfl, ⟨hu.1, Nat.le_of_lt hu.2, (zOf.up rfl (zOf.up rfl zOf.rf)), (fun _ _ => rfl)⟩⟩
          · refine tz_iload (pc := 94) dX12_joins_94 rfl ?_
            refine tz_iconst (pc := 96) dX12_joins_96 ?_
            refine tz_icmp_ne (pc := 97) (tgt := 101) dX12_joins_97 (by decide) (by omega) (by decide) (fun h_97 => ?_) (fun h_97 => ?_)
            · refine tz_aload_n (pc := 101) dX12_joins_101 rfl rfl ?_
              refine tz_iload (pc := 102) dX12_joins_102 rfl ?_
              refine tz_sipush (pc := 104) dX12_joins_104 (by decide) ?_
              refine tz_irem (pc := 107) (a := (J 178 z_2)) (b := 400) (v := ((J 178 z_2) % 400)) dX12_joins_107 (by omega) (by omega) rfl ?_
              refine tz_cV (pc := 108) (m_head hl n _ _ (by omega) b r d s m (hM.cl (zOf.up rfl (zOf.up rfl zOf.rf)) (fun _ _ => rfl)) (by omega)) vl_X12_74 dX12_joins_108 o_164 rfl rfl (Nat.le_of_ble_eq_true rfl) ⟨(show 0 + 1 ≤ 5 + 1 * (r9 + 1) by omega), (show 8 + (2 + 11) + 40 * (0) ≤ 40 * (5 + 1 * (r9 + 1)) by omega)⟩ rfl rfl (Nat.le_of_ble_eq_true rfl) (Nat.le_of_ble_eq_true rfl) (fun r9 J_108 hq9 => ?_)
              obtain ⟨z_108, rfl, hz_108, rfl, hv_108⟩ := hq9
              have he_108 : ((zup (zup J 177 z_8 z_2) 178 z_2 (J 178 z_8)) : zJ) 166 = J 166 := rfl
              rw [he_108] at hv_108
              refine tz_aload_n (pc := 111) dX12_joins_111 rfl rfl ?_
              refine tz_iload (pc := 112) dX12_joins_112 rfl ?_
              refine tz_sipush (pc := 114) dX12_joins_114 (by decide) ?_
              refine tz_irem (pc := 117) (a := (J 178 z_8)) (b := 400) (v := ((J 178 z_8) % 400)) dX12_joins_117 (by omega) (by omega) rfl ?_
              refine tz_cV (pc := 118) (m_head hl n _ _ (by omega) b r d s m (hM.cl (zOf.up rfl (zOf.up rfl zOf.rf)) (fun _ _ => rfl)) (by omega)) vl_X12_74 dX12_joins_118 o_164 rfl rfl (Nat.le_of_ble_eq_true rfl) ⟨(show 0 + 1 ≤ 5 + 1 * (r9 + 1) by omega), (show 8 + (2 + 11) + 40 * (0) ≤ 40 * (5 + 1 * (r9 + 1)) by omega)⟩ rfl rfl (Nat.le_of_ble_eq_true rfl) (Nat.le_of_ble_eq_true rfl) (fun r9 J_118 hq9 => ?_)
              obtain ⟨z_118, rfl, hz_118, rfl, hv_118⟩ := hq9
              have he_118 : ((zup (zup J 177 z_8 z_2) 178 z_2 (J 178 z_8)) : zJ) 166 = J 166 := rfl
              rw [he_118] at hv_118
              have ha121 := hM.ar (t := (J 178 z_2) % 400) (by omega)
              refine tz_icmp_eq (pc := 121) (tgt := 130) dX12_joins_121 (by decide) (by omega) (by omega) (fun h_121 => ?_) (fun h_121 => ?_)
              · refine tz_iconst (pc := 130) dX12_joins_130 ?_
                refine tz_istore (pc := 131) (L2 := [_, _, _, _, _, _, _, _]) dX12_joins_131 (by decide) rfl ?_
                have loop133 : ∀ (f9 : Nat) (k : Int) (J1 : zJ), ((3 - k).toNat) < f9 → (0 ≤ k ∧ k ≤ 3) → (UF J1 c m) → (rc J1 < rc J) → (zOf (zbut [164, 177, 178, 179, 180]) J1 J ∧ ∀ k, ¬ k = 30 → J1 164 k = J 164 k) → tz_At l G M_X12_joins (tb_rm (5 + 1 * (r9 + 1)) 0 0) none (tb_ZM G 0 0 (zQ n 0 (zqv (fun J' => UF J' c m ∧ rc J' ≤ rc J ∧ zOf (zbut [164, 177, 178, 179, 180]) J' J ∧ ∀ k, ¬ k = 30 → J' 164 k = J 164 k))) (zX n 0 zN)) 0 0 n J1 133 [some (.ref 164), some (zi x), some (zi y), some (zi z_2), some (zi z_8), some (zi (J 178 z_2)), some (zi (J 178 z_8)), some (zi k)] [] := by
                  intro f9
                  induction f9 with
                  | zero => intro k J1 hm9; exact absurd hm9 (Nat.not_lt_zero _)
                  | succ f9 ih133 =>
                    intro k J1 hm133 hk hU1 hr1 f_J1
                    have e9 := MS.hd8 (J := J) (b := b) (d := d) (t := (J 178 z_2) % 400) (u := (J 178 z_8) % 400) (by omega)
                    have hA := hM.ar (t := (J 178 z_2) % 400) (by omega)
                    refine tz_iload (pc := 133) dX12_joins_133 rfl ?_
                    refine tz_aload_n (pc := 135) dX12_joins_135 rfl rfl ?_
                    refine tz_iload (pc := 136) dX12_joins_136 rfl ?_
                    refine tz_sipush (pc := 138) dX12_joins_138 (by decide) ?_
                    refine tz_irem (pc := 141) (a := (J 178 z_2)) (b := 400) (v := ((J 178 z_2) % 400)) dX12_joins_141 (by omega) (by omega) rfl ?_
                    refine tz_cV (pc := 142) (m_arity hl n _ _ (by omega) b r d s m (hM.cl f_J1.1 f_J1.2) (by omega)) vl_X12_111 dX12_joins_142 o_164 rfl rfl (Nat.le_of_ble_eq_true rfl) ⟨(show 2 + 1 ≤ 5 + 1 * (r9 + 1) by omega), (show 8 + (2 + 11) + 40 * (2) ≤ 40 * (5 + 1 * (r9 + 1)) by omega)⟩ rfl rfl (Nat.le_of_ble_eq_true rfl) (Nat.le_of_ble_eq_true rfl) (fun r9 J_142 hq9 => ?_)
                    obtain ⟨z_142, rfl, hz_142, rfl, hv_142⟩ := hq9
                    rw [mar_cl (J := J) f_J1.1] at hv_142
                    refine tz_icmp_ge (pc := 145) (tgt := 174) dX12_joins_145 (by decide) (by omega) (by omega) (fun h_145 => ?_) (fun h_145 => ?_)
                    · exact tz_vret (pc := 174) dX12_joins_174 rfl (Nat.le_of_ble_eq_true rfl) (Nat.le_of_ble_eq_true rfl) ⟨Nat.le_refl _, Nat.le_add_right _ _⟩ ⟨rfl, ⟨hU1, by omega, f_J1⟩⟩
                    · refine tz_aload_n (pc := 148) dX12_joins_148 rfl rfl ?_
                      refine tz_aload_n (pc := 149) dX12_joins_149 rfl rfl ?_
                      refine tz_iload (pc := 150) dX12_joins_150 rfl ?_
                      refine tz_iload (pc := 152) dX12_joins_152 rfl ?_
                      refine tz_cV (pc := 154) (m_argOf hl n _ _ _ (by omega) (by omega) b r d s m c (hM.cl f_J1.1 f_J1.2) hU.1 (by omega) (by rw [mar_cl (J := J) f_J1.1]; omega)) vl_X12_167 dX12_joins_154 o_164 rfl rfl (Nat.le_of_ble_eq_true rfl) ⟨(show 1 + 1 ≤ 5 + 1 * (r9 + 1) by omega), (show 8 + (3 + 11) + 40 * (1) ≤ 40 * (5 + 1 * (r9 + 1)) by omega)⟩ rfl rfl (Nat.le_of_ble_eq_true rfl) (Nat.le_of_ble_eq_true rfl) (fun r9 J_154 hq9 => ?_)
                      obtain ⟨z_154, rfl, hz_154, rfl, hg_154, hh_154⟩ := hq9
                      refine tz_aload_n (pc := 157) dX12_joins_157 rfl rfl ?_
                      refine tz_iload (pc := 158) dX12_joins_158 rfl ?_
                      refine tz_iload (pc := 160) dX12_joins_160 rfl ?_
                      refine tz_cV (pc := 162) (m_argOf hl n _ _ _ (by omega) (by omega) b r d s m c (hM.cl f_J1.1 f_J1.2) hU.1 (by omega) (by rw [mar_cl (J := J) f_J1.1]; omega)) vl_X12_167 dX12_joins_162 o_164 rfl rfl (Nat.le_of_ble_eq_true rfl) ⟨(show 1 + 1 ≤ 5 + 1 * (r9 + 1) by omega), (show 8 + (3 + 11) + 40 * (1) ≤ 40 * (5 + 1 * (r9 + 1)) by omega)⟩ rfl rfl (Nat.le_of_ble_eq_true rfl) (Nat.le_of_ble_eq_true rfl) (fun r9 J_162 hq9 => ?_)
                      obtain ⟨z_162, rfl, hz_162, rfl, hg_162, hh_162⟩ := hq9
                      refine tz_cV (pc := 165) (ih _ _ _ (by omega) (by omega) b r d s m c (hM.cl f_J1.1 f_J1.2) hU1 ⟨hg_154, hh_154⟩ ⟨hg_162, hh_162⟩ (by omega)) vl_X12_170 dX12_joins_165 o_164 rfl rfl (Nat.le_of_ble_eq_true rfl) ⟨(show (5 + 1 * r9) + 1 ≤ 5 + 1 * (r9 + 1) by omega), (show 8 + (8 + 11) + 40 * ((5 + 1 * r9)) ≤ 40 * (5 + 1 * (r9 + 1)) by omega)⟩ rfl rfl (Nat.le_of_ble_eq_true rfl) (Nat.le_of_ble_eq_true rfl) (fun r9 J_165 hq9 => ?_)
                      obtain ⟨rfl, u_2, r_2, g_2, k_2⟩ := hq9
                      refine tz_iinc (pc := 168) (z := k + 1) (L2 := [_, _, _, _, _, _, _, _]) dX12_joins_168 rfl (by omega) rfl ?_
                      refine tz_goto (pc := 171) (tgt := 133) dX12_joins_171 (by decide) ?_
                      exact ih133 (k + 1) _ (by omega) (by omega) u_2 (by omega) ⟨g_2.tr f_J1.1, fun k hk => (k_2 k hk).trans (f_J1.2 k hk)⟩
                exact loop133 _ 0 _ (Nat.lt_succ_self _) (by omega) hu.1 hu.2 ⟨(zOf.up rfl (zOf.up rfl zOf.rf)), (fun _ _ => rfl)⟩
              · refine tz_aload_n (pc := 124) dX12_joins_124 rfl rfl ?_
                refine tz_iconst (pc := 125) dX12_joins_125 ?_
                refine tz_pZ (pc := 126) (kz := 30) dX12_joins_126 fl_X12_161 i_164_30 rfl rfl (Or.inr rfl) ?_
                exact tz_vret (pc := 129) dX12_joins_129 rfl (Nat.le_of_ble_eq_true rfl) (Nat.le_of_ble_eq_true rfl) ⟨Nat.le_refl _, Nat.le_add_right _ _⟩ ⟨rfl, ⟨hu.1.of rfl rfl rfl, Nat.le_of_lt hu.2, (zOf.up rfl (zOf.up rfl (zOf.up rfl zOf.rf))), (fun k hk => (zup_ne hk).trans ((fun _ _ => rfl) k hk))⟩⟩
            · exact tz_vret (pc := 100) dX12_joins_100 rfl (Nat.le_of_ble_eq_true rfl) (Nat.le_of_ble_eq_true rfl) ⟨Nat.le_refl _, Nat.le_add_right _ _⟩ ⟨rfl, ⟨hu.1, Nat.le_of_lt hu.2, (zOf.up rfl (zOf.up rfl zOf.rf)), (fun _ _ => rfl)⟩⟩
        · refine tz_aload_n (pc := 75) dX12_joins_75 rfl rfl ?_
          refine tz_fR (pc := 76) dX12_joins_76 fl_X12_56 r_164_27 ?_
          refine tz_iload_n (pc := 79) dX12_joins_79 rfl rfl ?_
          refine tz_aload_n (pc := 80) dX12_joins_80 rfl rfl ?_
          refine tz_fR (pc := 81) dX12_joins_81 fl_X12_56 r_164_27 ?_
          refine tz_iload (pc := 84) dX12_joins_84 rfl ?_
          refine tz_aL (pc := 86) (z := z_8) (v := (J 179 z_8)) dX12_joins_86 a_179 rfl (by omega) rfl (fun r_86 => ?_)
          refine tz_aS (pc := 87) (z := z_2) dX12_joins_87 a_179 rfl (by omega) (by omega) ?_
          have hu := UF.joinP (J := J) (J' := (zup (zup (zup J 177 z_8 z_2) 178 z_2 (J 178 z_8)) 179 z_2 (J 179 z_8))) (c := c) (m := m) (a := z_2) (b := z_8) (v := J 178 z_8) (w := J 179 z_8) hU ⟨a_2, c_2 hx.2, b_2⟩ ⟨a_8, c_8 hy.2, b_8⟩ (by omega) (by omega) (by omega) (fun _ => rfl) (fun _ => rfl) (fun _ => rfl)
          refine tz_iload (pc := 88) dX12_joins_88 rfl ?_
          refine tz_iconst (pc := 90) dX12_joins_90 ?_
          refine tz_icmp_eq (pc := 91) (tgt := 100) dX12_joins_91 (by decide) (by omega) (by decide) (fun h_91 => ?_) (fun h_91 => ?_)
          · exact tz_vret (pc := 100) dX12_joins_100 rfl (Nat.le_of_ble_eq_true rfl) (Nat.le_of_ble_eq_true rfl) ⟨Nat.le_refl _, Nat.le_add_right _ _⟩ ⟨rfl, ⟨hu.1, Nat.le_of_lt hu.2, (zOf.up rfl (zOf.up rfl (zOf.up rfl zOf.rf))), (fun _ _ => rfl)⟩⟩
          · refine tz_iload (pc := 94) dX12_joins_94 rfl ?_
            refine tz_iconst (pc := 96) dX12_joins_96 ?_
            refine tz_icmp_ne (pc := 97) (tgt := 101) dX12_joins_97 (by decide) (by omega) (by decide) (fun h_97 => ?_) (fun h_97 => ?_)
            · refine tz_aload_n (pc := 101) dX12_joins_101 rfl rfl ?_
              refine tz_iload (pc := 102) dX12_joins_102 rfl ?_
              refine tz_sipush (pc := 104) dX12_joins_104 (by decide) ?_
              refine tz_irem (pc := 107) (a := (J 178 z_2)) (b := 400) (v := ((J 178 z_2) % 400)) dX12_joins_107 (by omega) (by omega) rfl ?_
              refine tz_cV (pc := 108) (m_head hl n _ _ (by omega) b r d s m (hM.cl (zOf.up rfl (zOf.up rfl (zOf.up rfl zOf.rf))) (fun _ _ => rfl)) (by omega)) vl_X12_74 dX12_joins_108 o_164 rfl rfl (Nat.le_of_ble_eq_true rfl) ⟨(show 0 + 1 ≤ 5 + 1 * (r9 + 1) by omega), (show 8 + (2 + 11) + 40 * (0) ≤ 40 * (5 + 1 * (r9 + 1)) by omega)⟩ rfl rfl (Nat.le_of_ble_eq_true rfl) (Nat.le_of_ble_eq_true rfl) (fun r9 J_108 hq9 => ?_)
              obtain ⟨z_108, rfl, hz_108, rfl, hv_108⟩ := hq9
              have he_108 : ((zup (zup (zup J 177 z_8 z_2) 178 z_2 (J 178 z_8)) 179 z_2 (J 179 z_8)) : zJ) 166 = J 166 := rfl
              rw [he_108] at hv_108
              refine tz_aload_n (pc := 111) dX12_joins_111 rfl rfl ?_
              refine tz_iload (pc := 112) dX12_joins_112 rfl ?_
              refine tz_sipush (pc := 114) dX12_joins_114 (by decide) ?_
              refine tz_irem (pc := 117) (a := (J 178 z_8)) (b := 400) (v := ((J 178 z_8) % 400)) dX12_joins_117 (by omega) (by omega) rfl ?_
              refine tz_cV (pc := 118) (m_head hl n _ _ (by omega) b r d s m (hM.cl (zOf.up rfl (zOf.up rfl (zOf.up rfl zOf.rf))) (fun _ _ => rfl)) (by omega)) vl_X12_74 dX12_joins_118 o_164 rfl rfl (Nat.le_of_ble_eq_true rfl) ⟨(show 0 + 1 ≤ 5 + 1 * (r9 + 1) by omega), (show 8 + (2 + 11) + 40 * (0) ≤ 40 * (5 + 1 * (r9 + 1)) by omega)⟩ rfl rfl (Nat.le_of_ble_eq_true rfl) (Nat.le_of_ble_eq_true rfl) (fun r9 J_118 hq9 => ?_)
              obtain ⟨z_118, rfl, hz_118, rfl, hv_118⟩ := hq9
              have he_118 : ((zup (zup (zup J 177 z_8 z_2) 178 z_2 (J 178 z_8)) 179 z_2 (J 179 z_8)) : zJ) 166 = J 166 := rfl
              rw [he_118] at hv_118
              have ha121 := hM.ar (t := (J 178 z_2) % 400) (by omega)
              refine tz_icmp_eq (pc := 121) (tgt := 130) dX12_joins_121 (by decide) (by omega) (by omega) (fun h_121 => ?_) (fun h_121 => ?_)
              · refine tz_iconst (pc := 130) dX12_joins_130 ?_
                refine tz_istore (pc := 131) (L2 := [_, _, _, _, _, _, _, _]) dX12_joins_131 (by decide) rfl ?_
                have loop133 : ∀ (f9 : Nat) (k : Int) (J1 : zJ), ((3 - k).toNat) < f9 → (0 ≤ k ∧ k ≤ 3) → (UF J1 c m) → (rc J1 < rc J) → (zOf (zbut [164, 177, 178, 179, 180]) J1 J ∧ ∀ k, ¬ k = 30 → J1 164 k = J 164 k) → tz_At l G M_X12_joins (tb_rm (5 + 1 * (r9 + 1)) 0 0) none (tb_ZM G 0 0 (zQ n 0 (zqv (fun J' => UF J' c m ∧ rc J' ≤ rc J ∧ zOf (zbut [164, 177, 178, 179, 180]) J' J ∧ ∀ k, ¬ k = 30 → J' 164 k = J 164 k))) (zX n 0 zN)) 0 0 n J1 133 [some (.ref 164), some (zi x), some (zi y), some (zi z_2), some (zi z_8), some (zi (J 178 z_2)), some (zi (J 178 z_8)), some (zi k)] [] := by
                  intro f9
                  induction f9 with
                  | zero => intro k J1 hm9; exact absurd hm9 (Nat.not_lt_zero _)
                  | succ f9 ih133 =>
                    intro k J1 hm133 hk hU1 hr1 f_J1
                    have e9 := MS.hd8 (J := J) (b := b) (d := d) (t := (J 178 z_2) % 400) (u := (J 178 z_8) % 400) (by omega)
                    have hA := hM.ar (t := (J 178 z_2) % 400) (by omega)
                    refine tz_iload (pc := 133) dX12_joins_133 rfl ?_
                    refine tz_aload_n (pc := 135) dX12_joins_135 rfl rfl ?_
                    refine tz_iload (pc := 136) dX12_joins_136 rfl ?_
                    refine tz_sipush (pc := 138) dX12_joins_138 (by decide) ?_
                    refine tz_irem (pc := 141) (a := (J 178 z_2)) (b := 400) (v := ((J 178 z_2) % 400)) dX12_joins_141 (by omega) (by omega) rfl ?_
                    refine tz_cV (pc := 142) (m_arity hl n _ _ (by omega) b r d s m (hM.cl f_J1.1 f_J1.2) (by omega)) vl_X12_111 dX12_joins_142 o_164 rfl rfl (Nat.le_of_ble_eq_true rfl) ⟨(show 2 + 1 ≤ 5 + 1 * (r9 + 1) by omega), (show 8 + (2 + 11) + 40 * (2) ≤ 40 * (5 + 1 * (r9 + 1)) by omega)⟩ rfl rfl (Nat.le_of_ble_eq_true rfl) (Nat.le_of_ble_eq_true rfl) (fun r9 J_142 hq9 => ?_)
                    obtain ⟨z_142, rfl, hz_142, rfl, hv_142⟩ := hq9
                    rw [mar_cl (J := J) f_J1.1] at hv_142
                    refine tz_icmp_ge (pc := 145) (tgt := 174) dX12_joins_145 (by decide) (by omega) (by omega) (fun h_145 => ?_) (fun h_145 => ?_)
                    · exact tz_vret (pc := 174) dX12_joins_174 rfl (Nat.le_of_ble_eq_true rfl) (Nat.le_of_ble_eq_true rfl) ⟨Nat.le_refl _, Nat.le_add_right _ _⟩ ⟨rfl, ⟨hU1, by omega, f_J1⟩⟩
                    · refine tz_aload_n (pc := 148) dX12_joins_148 rfl rfl ?_
                      refine tz_aload_n (pc := 149) dX12_joins_149 rfl rfl ?_
                      refine tz_iload (pc := 150) dX12_joins_150 rfl ?_
                      refine tz_iload (pc := 152) dX12_joins_152 rfl ?_
                      refine tz_cV (pc := 154) (m_argOf hl n _ _ _ (by omega) (by omega) b r d s m c (hM.cl f_J1.1 f_J1.2) hU.1 (by omega) (by rw [mar_cl (J := J) f_J1.1]; omega)) vl_X12_167 dX12_joins_154 o_164 rfl rfl (Nat.le_of_ble_eq_true rfl) ⟨(show 1 + 1 ≤ 5 + 1 * (r9 + 1) by omega), (show 8 + (3 + 11) + 40 * (1) ≤ 40 * (5 + 1 * (r9 + 1)) by omega)⟩ rfl rfl (Nat.le_of_ble_eq_true rfl) (Nat.le_of_ble_eq_true rfl) (fun r9 J_154 hq9 => ?_)
                      obtain ⟨z_154, rfl, hz_154, rfl, hg_154, hh_154⟩ := hq9
                      refine tz_aload_n (pc := 157) dX12_joins_157 rfl rfl ?_
                      refine tz_iload (pc := 158) dX12_joins_158 rfl ?_
                      refine tz_iload (pc := 160) dX12_joins_160 rfl ?_
                      refine tz_cV (pc := 162) (m_argOf hl n _ _ _ (by omega) (by omega) b r d s m c (hM.cl f_J1.1 f_J1.2) hU.1 (by omega) (by rw [mar_cl (J := J) f_J1.1]; omega)) vl_X12_167 dX12_joins_162 o_164 rfl rfl (Nat.le_of_ble_eq_true rfl) ⟨(show 1 + 1 ≤ 5 + 1 * (r9 + 1) by omega), (show 8 + (3 + 11) + 40 * (1) ≤ 40 * (5 + 1 * (r9 + 1)) by omega)⟩ rfl rfl (Nat.le_of_ble_eq_true rfl) (Nat.le_of_ble_eq_true rfl) (fun r9 J_162 hq9 => ?_)
                      obtain ⟨z_162, rfl, hz_162, rfl, hg_162, hh_162⟩ := hq9
                      refine tz_cV (pc := 165) (ih _ _ _ (by omega) (by omega) b r d s m c (hM.cl f_J1.1 f_J1.2) hU1 ⟨hg_154, hh_154⟩ ⟨hg_162, hh_162⟩ (by omega)) vl_X12_170 dX12_joins_165 o_164 rfl rfl (Nat.le_of_ble_eq_true rfl) ⟨(show (5 + 1 * r9) + 1 ≤ 5 + 1 * (r9 + 1) by omega), (show 8 + (8 + 11) + 40 * ((5 + 1 * r9)) ≤ 40 * (5 + 1 * (r9 + 1)) by omega)⟩ rfl rfl (Nat.le_of_ble_eq_true rfl) (Nat.le_of_ble_eq_true rfl) (fun r9 J_165 hq9 => ?_)
                      obtain ⟨rfl, u_2, r_2, g_2, k_2⟩ := hq9
                      refine tz_iinc (pc := 168) (z := k + 1) (L2 := [_, _, _, _, _, _, _, _]) dX12_joins_168 rfl (by omega) rfl ?_
                      refine tz_goto (pc := 171) (tgt := 133) dX12_joins_171 (by decide) ?_
                      exact ih133 (k + 1) _ (by omega) (by omega) u_2 (by omega) ⟨g_2.tr f_J1.1, fun k hk => (k_2 k hk).trans (f_J1.2 k hk)⟩
                exact loop133 _ 0 _ (Nat.lt_succ_self _) (by omega) hu.1 hu.2 ⟨(zOf.up rfl (zOf.up rfl (zOf.up rfl zOf.rf))), (fun _ _ => rfl)⟩
              · refine tz_aload_n (pc := 124) dX12_joins_124 rfl rfl ?_
                refine tz_iconst (pc := 125) dX12_joins_125 ?_
                refine tz_pZ (pc := 126) (kz := 30) dX12_joins_126 fl_X12_161 i_164_30 rfl rfl (Or.inr rfl) ?_
                exact tz_vret (pc := 129) dX12_joins_129 rfl (Nat.le_of_ble_eq_true rfl) (Nat.le_of_ble_eq_true rfl) ⟨Nat.le_refl _, Nat.le_add_right _ _⟩ ⟨rfl, ⟨hu.1.of rfl rfl rfl, Nat.le_of_lt hu.2, (zOf.up rfl (zOf.up rfl (zOf.up rfl (zOf.up rfl zOf.rf)))), (fun k hk => (zup_ne hk).trans ((fun _ _ => rfl) k hk))⟩⟩
            · exact tz_vret (pc := 100) dX12_joins_100 rfl (Nat.le_of_ble_eq_true rfl) (Nat.le_of_ble_eq_true rfl) ⟨Nat.le_refl _, Nat.le_add_right _ _⟩ ⟨rfl, ⟨hu.1, Nat.le_of_lt hu.2, (zOf.up rfl (zOf.up rfl (zOf.up rfl zOf.rf))), (fun _ _ => rfl)⟩⟩
    · exact tz_vret (pc := 19) dX12_joins_19 rfl (Nat.le_of_ble_eq_true rfl) (Nat.le_of_ble_eq_true rfl) ⟨Nat.le_refl _, Nat.le_add_right _ _⟩ ⟨rfl, ⟨hU, Nat.le_refl _, zOf.rf, fun _ _ => rfl⟩⟩

theorem m_joins {l : Launch} {G : tb_G} (hl : l.stackTraces = false) (n : Nat) (J : zJ) (x y : Int) (hr_x : -2147483648 ≤ x ∧ x < 2147483648) (hr_y : -2147483648 ≤ y ∧ y < 2147483648) (b r d s m : Int) (c : Int) (hM : MS J b r d s m) (hU : UF J c m) (hx : (0 ≤ x ∧ x < c) ∧ x % 400 < m) (hy : (0 ≤ y ∧ y < c) ∧ y % 400 < m) : tz_Ok l G M_X12_joins 806 0 0 [.ref 164, zi x, zi y] n J (zqv (fun J' => UF J' c m ∧ rc J' ≤ rc J ∧ zOf (zbut [164, 177, 178, 179, 180]) J' J ∧ ∀ k, ¬ k = 30 → J' 164 k = J 164 k)) zN := m_joinsR hl n 801 J x y hr_x hr_y b r d s m c hM hU hx hy (by have := cnt_n (p := fun k => decide (J 177 k = k)) 800; unfold rc; omega)
theorem wc_up {J : zJ} {a v : Int} (hv : v = 1 ∨ v = 2) : wc (zup J 180 a v) ≤ wc J := by
  refine cnt_le 800 (fun k p q g => ?_)
  have g1 := of_decide_eq_true g
  have e7 : zup J 180 a v 180 k = if k = a then v else J 180 k := rfl
  rw [e7] at g1
  by_cases e : k = a
  · rw [if_pos e] at g1; omega
  · rw [if_neg e] at g1; exact decide_eq_true g1
theorem wc_up1 {J : zJ} {a v : Int} (hv : v = 1 ∨ v = 2) (ha : 0 ≤ a ∧ a < 800) (h : ¬ J 180 a = 1 ∧ ¬ J 180 a = 2) : wc (zup J 180 a v) < wc J := by
  refine cnt_lt 800 (fun k p q g => ?_) ⟨a, ha, decide_eq_true h, decide_eq_false ?_⟩
  · have g1 := of_decide_eq_true g
    have e7 : zup J 180 a v 180 k = if k = a then v else J 180 k := rfl
    rw [e7] at g1
    by_cases e : k = a
    · rw [if_pos e] at g1; omega
    · rw [if_neg e] at g1; exact decide_eq_true g1
  · have e7 : zup J 180 a v 180 a = if a = a then v else J 180 a := rfl
    rw [e7, if_pos rfl]
    omega
theorem MS.c180 {J' J : zJ} {b r d s m : Int} (h : MS J b r d s m) (f : zOf (zbut [180]) J' J) : MS J' b r d s m := h.of (by rw [f 164 rfl]; exact ⟨rfl, rfl, rfl⟩) (by rw [f 165 rfl]) (f 166 rfl) (f 167 rfl) (f 168 rfl) (f 170 rfl)
theorem UF.c180 {J' J : zJ} {c m : Int} (h : UF J c m) (f : zOf (zbut [180]) J' J) : UF J' c m := h.of (f 177 rfl) (f 178 rfl) (f 179 rfl)
theorem mar_180 {J' J : zJ} {b d t : Int} (f : zOf (zbut [180]) J' J) : mar J' b d t = mar J b d t := by
  unfold mar
  rw [f 166 rfl, f 170 rfl]
set_option maxHeartbeats 4000000 in
set_option maxRecDepth 100000 in
theorem m_turnsR {l : Launch} {G : tb_G} (hl : l.stackTraces = false) (n : Nat) : ∀ (r9 : Nat) (J : zJ) (x : Int) (hr_x : -2147483648 ≤ x ∧ x < 2147483648) (b r d s m : Int) (c : Int) (hM : MS J b r d s m) (hU : UF J c m) (hx : (0 ≤ x ∧ x < c) ∧ x % 400 < m), (wc J) < r9 → tz_Ok l G M_X12_turns (5 + 1 * r9) 0 0 [.ref 164, zi x] n J (zqi (fun z J' => wc J' ≤ wc J ∧ zOf (zbut [180]) J' J)) zN := by
  intro r9
  induction r9 with
  | zero => intro J x hr_x b r d s m c hM hU hx hm9; exact absurd hm9 (Nat.not_lt_zero _)
  | succ r9 ih =>
    intro J x hr_x b r d s m c hM hU hx hm9
    refine tz_Ok.of hl (by decide +kernel) rfl (tb_c1 rfl) (Nat.le_of_ble_eq_true rfl) ?_
    show tz_At l G M_X12_turns (tb_rm (5 + 1 * (r9 + 1)) 0 0) none (tb_ZM G 0 0 (zQ n 0 (zqi (fun z J' => wc J' ≤ wc J ∧ zOf (zbut [180]) J' J))) (zX n 0 zN)) 0 0 n J 0 [some (.ref 164), some (zi x), none, none] []
    obtain ⟨hM1, hM2, hM3, hM4, hM5, hM6⟩ := id hM
    have hT := hM.told
    have hc9 := hU.1
    refine tz_aload_n (pc := 0) dX12_turns_0 rfl rfl ?_
    refine tz_iload_n (pc := 1) dX12_turns_1 rfl rfl ?_
    refine tz_cV (pc := 2) (m_top hl n _ _ (by omega) c m hU (by omega)) vl_X12_164 dX12_turns_2 o_164 rfl rfl (Nat.le_of_ble_eq_true rfl) ⟨(show 0 + 1 ≤ 5 + 1 * (r9 + 1) by omega), (show 8 + (3 + 11) + 40 * (0) ≤ 40 * (5 + 1 * (r9 + 1)) by omega)⟩ rfl rfl (Nat.le_of_ble_eq_true rfl) (Nat.le_of_ble_eq_true rfl) (fun r9 J_2 hq9 => ?_)
    obtain ⟨z_2, rfl, hz_2, rfl, a_2, b_2, c_2⟩ := hq9
    refine tz_istore_n (pc := 5) (L2 := [_, _, _, _]) dX12_turns_5 rfl (by decide) rfl ?_
    have ua := (hU.at a_2).2
    have va := c_2 hx.2
    refine tz_aload_n (pc := 6) dX12_turns_6 rfl rfl ?_
    refine tz_fR (pc := 7) dX12_turns_7 fl_X12_59 r_164_28 ?_
    refine tz_iload_n (pc := 10) dX12_turns_10 rfl rfl ?_
    refine tz_aL (pc := 11) (z := z_2) (v := (J 180 z_2)) dX12_turns_11 a_180 rfl (by omega) rfl (fun r_11 => ?_)
    refine tz_iconst (pc := 12) dX12_turns_12 ?_
    refine tz_icmp_eq (pc := 13) (tgt := 26) dX12_turns_13 (by decide) (by omega) (by decide) (fun h_13 => ?_) (fun h_13 => ?_)
    · refine tz_iconst (pc := 26) dX12_turns_26 ?_
      exact tz_zret (pc := 27) (z := 0) dX12_turns_27 rfl (Or.inl rfl) (Nat.le_of_ble_eq_true rfl) (Nat.le_of_ble_eq_true rfl) ⟨Nat.le_refl _, Nat.le_add_right _ _⟩ ⟨_, rfl, (by decide), ⟨Nat.le_refl _, zOf.rf⟩⟩
    · refine tz_aload_n (pc := 16) dX12_turns_16 rfl rfl ?_
      refine tz_fR (pc := 17) dX12_turns_17 fl_X12_53 r_164_26 ?_
      refine tz_iload_n (pc := 20) dX12_turns_20 rfl rfl ?_
      refine tz_aL (pc := 21) (z := z_2) (v := (J 178 z_2)) dX12_turns_21 a_178 rfl (by omega) rfl (fun r_21 => ?_)
      refine tz_iconst (pc := 22) dX12_turns_22 ?_
      refine tz_icmp_ne (pc := 23) (tgt := 28) dX12_turns_23 (by decide) (by omega) (by decide) (fun h_23 => ?_) (fun h_23 => ?_)
      · refine tz_aload_n (pc := 28) dX12_turns_28 rfl rfl ?_
        refine tz_fR (pc := 29) dX12_turns_29 fl_X12_59 r_164_28 ?_
        refine tz_iload_n (pc := 32) dX12_turns_32 rfl rfl ?_
        refine tz_aL (pc := 33) (z := z_2) (v := (J 180 z_2)) dX12_turns_33 a_180 rfl (by omega) rfl (fun r_33 => ?_)
        refine tz_iconst (pc := 34) dX12_turns_34 ?_
        refine tz_icmp_ne (pc := 35) (tgt := 40) dX12_turns_35 (by decide) (by omega) (by decide) (fun h_35 => ?_) (fun h_35 => ?_)
        · refine tz_aload_n (pc := 40) dX12_turns_40 rfl rfl ?_
          refine tz_fR (pc := 41) dX12_turns_41 fl_X12_59 r_164_28 ?_
          refine tz_iload_n (pc := 44) dX12_turns_44 rfl rfl ?_
          refine tz_iconst (pc := 45) dX12_turns_45 ?_
          refine tz_aS (pc := 46) (z := z_2) dX12_turns_46 a_180 rfl (by omega) (by decide) ?_
          have hw47 := wc_up1 (J := J) (a := z_2) (v := 1) (Or.inl rfl) (by omega) (by omega)
          refine tz_iconst (pc := 47) dX12_turns_47 ?_
          refine tz_istore_n (pc := 48) (L2 := [_, _, _, _]) dX12_turns_48 rfl (by decide) rfl ?_
          have loop49 : ∀ (f9 : Nat) (k : Int) (J1 : zJ), ((3 - k).toNat) < f9 → (0 ≤ k ∧ k ≤ 3) → (wc J1 < wc J) → (zOf (zbut [180]) J1 J) → tz_At l G M_X12_turns (tb_rm (5 + 1 * (r9 + 1)) 0 0) none (tb_ZM G 0 0 (zQ n 0 (zqi (fun z J' => wc J' ≤ wc J ∧ zOf (zbut [180]) J' J))) (zX n 0 zN)) 0 0 n J1 49 [some (.ref 164), some (zi x), some (zi z_2), some (zi k)] [] := by
            intro f9
            induction f9 with
            | zero => intro k J1 hm9; exact absurd hm9 (Nat.not_lt_zero _)
            | succ f9 ih49 =>
              intro k J1 hm49 hk hw1 f1
              have hA := hM.ar (t := (J 178 z_2) % 400) (by omega)
              refine tz_iload_n (pc := 49) dX12_turns_49 rfl rfl ?_
              refine tz_aload_n (pc := 50) dX12_turns_50 rfl rfl ?_
              refine tz_aload_n (pc := 51) dX12_turns_51 rfl rfl ?_
              refine tz_fR (pc := 52) dX12_turns_52 fl_X12_53 r_164_26 ?_
              refine tz_iload_n (pc := 55) dX12_turns_55 rfl rfl ?_
              refine tz_aL (pc := 56) (z := z_2) (v := (J 178 z_2)) dX12_turns_56 a_178 rfl (by omega) (Eq.trans (congrFun (f1 178 rfl) z_2) rfl) (fun r_56 => ?_)
              refine tz_sipush (pc := 57) dX12_turns_57 (by decide) ?_
              refine tz_irem (pc := 60) (a := (J 178 z_2)) (b := 400) (v := ((J 178 z_2) % 400)) dX12_turns_60 (by omega) (by omega) rfl ?_
              refine tz_cV (pc := 61) (m_arity hl n _ _ (by omega) b r d s m (hM.c180 f1) (by omega)) vl_X12_111 dX12_turns_61 o_164 rfl rfl (Nat.le_of_ble_eq_true rfl) ⟨(show 2 + 1 ≤ 5 + 1 * (r9 + 1) by omega), (show 8 + (2 + 11) + 40 * (2) ≤ 40 * (5 + 1 * (r9 + 1)) by omega)⟩ rfl rfl (Nat.le_of_ble_eq_true rfl) (Nat.le_of_ble_eq_true rfl) (fun r9 J_61 hq9 => ?_)
              obtain ⟨za, rfl, hz_61, rfl, hv⟩ := hq9
              rw [mar_180 (J := J) f1] at hv
              refine tz_icmp_ge (pc := 64) (tgt := 93) dX12_turns_64 (by decide) (by omega) (by omega) (fun h_64 => ?_) (fun h_64 => ?_)
              · refine tz_aload_n (pc := 93) dX12_turns_93 rfl rfl ?_
                refine tz_fR (pc := 94) dX12_turns_94 fl_X12_59 r_164_28 ?_
                refine tz_iload_n (pc := 97) dX12_turns_97 rfl rfl ?_
                refine tz_iconst (pc := 98) dX12_turns_98 ?_
                refine tz_aS (pc := 99) (z := z_2) dX12_turns_99 a_180 rfl (by omega) (by decide) ?_
                refine tz_iconst (pc := 100) dX12_turns_100 ?_
                exact tz_zret (pc := 101) (z := 0) dX12_turns_101 rfl (Or.inl rfl) (Nat.le_of_ble_eq_true rfl) (Nat.le_of_ble_eq_true rfl) ⟨Nat.le_refl _, Nat.le_add_right _ _⟩ ⟨_, rfl, (by decide), ⟨by have := wc_up (J := J1) (a := z_2) (v := 2) (Or.inr rfl); omega, zOf.up rfl f1⟩⟩
              · refine tz_aload_n (pc := 67) dX12_turns_67 rfl rfl ?_
                refine tz_aload_n (pc := 68) dX12_turns_68 rfl rfl ?_
                refine tz_aload_n (pc := 69) dX12_turns_69 rfl rfl ?_
                refine tz_fR (pc := 70) dX12_turns_70 fl_X12_53 r_164_26 ?_
                refine tz_iload_n (pc := 73) dX12_turns_73 rfl rfl ?_
                refine tz_aL (pc := 74) (z := z_2) (v := (J 178 z_2)) dX12_turns_74 a_178 rfl (by omega) (Eq.trans (congrFun (f1 178 rfl) z_2) rfl) (fun r_74 => ?_)
                refine tz_iload_n (pc := 75) dX12_turns_75 rfl rfl ?_
                refine tz_cV (pc := 76) (m_argOf hl n _ _ _ (by omega) (by omega) b r d s m c (hM.c180 f1) hU.1 (by omega) (by rw [mar_180 (J := J) f1]; omega)) vl_X12_167 dX12_turns_76 o_164 rfl rfl (Nat.le_of_ble_eq_true rfl) ⟨(show 1 + 1 ≤ 5 + 1 * (r9 + 1) by omega), (show 8 + (3 + 11) + 40 * (1) ≤ 40 * (5 + 1 * (r9 + 1)) by omega)⟩ rfl rfl (Nat.le_of_ble_eq_true rfl) (Nat.le_of_ble_eq_true rfl) (fun r9 J_76 hq9 => ?_)
                obtain ⟨zg, rfl, hz_76, rfl, hg, hh⟩ := hq9
                refine tz_cV (pc := 79) (ih _ _ (by omega) b r d s m c (hM.c180 f1) (hU.c180 f1) ⟨hg, hh⟩ (by omega)) vl_X12_174 dX12_turns_79 o_164 rfl rfl (Nat.le_of_ble_eq_true rfl) ⟨(show (5 + 1 * r9) + 1 ≤ 5 + 1 * (r9 + 1) by omega), (show 8 + (4 + 11) + 40 * ((5 + 1 * r9)) ≤ 40 * (5 + 1 * (r9 + 1)) by omega)⟩ rfl rfl (Nat.le_of_ble_eq_true rfl) (Nat.le_of_ble_eq_true rfl) (fun r9 J_79 hq9 => ?_)
                obtain ⟨z_79, rfl, hz_79, w2, f2⟩ := hq9
                refine tz_if_eq (pc := 82) (tgt := 87) dX12_turns_82 (by decide) (by omega) (fun h_82 => ?_) (fun h_82 => ?_)
                · refine tz_iinc (pc := 87) (z := k + 1) (L2 := [_, _, _, _]) dX12_turns_87 rfl (by omega) rfl ?_
                  refine tz_goto (pc := 90) (tgt := 49) dX12_turns_90 (by decide) ?_
                  exact ih49 (k + 1) _ (by omega) (by omega) (by omega) (f2.tr f1)
                · refine tz_iconst (pc := 85) dX12_turns_85 ?_
                  exact tz_zret (pc := 86) (z := 1) dX12_turns_86 rfl (Or.inr rfl) (Nat.le_of_ble_eq_true rfl) (Nat.le_of_ble_eq_true rfl) ⟨Nat.le_refl _, Nat.le_add_right _ _⟩ ⟨_, rfl, (by decide), ⟨by omega, f2.tr f1⟩⟩
          exact loop49 _ 0 _ (Nat.lt_succ_self _) (by omega) hw47 (zOf.up rfl zOf.rf)
        · refine tz_iconst (pc := 38) dX12_turns_38 ?_
          exact tz_zret (pc := 39) (z := 1) dX12_turns_39 rfl (Or.inr rfl) (Nat.le_of_ble_eq_true rfl) (Nat.le_of_ble_eq_true rfl) ⟨Nat.le_refl _, Nat.le_add_right _ _⟩ ⟨_, rfl, (by decide), ⟨Nat.le_refl _, zOf.rf⟩⟩
      · refine tz_iconst (pc := 26) dX12_turns_26 ?_
        exact tz_zret (pc := 27) (z := 0) dX12_turns_27 rfl (Or.inl rfl) (Nat.le_of_ble_eq_true rfl) (Nat.le_of_ble_eq_true rfl) ⟨Nat.le_refl _, Nat.le_add_right _ _⟩ ⟨_, rfl, (by decide), ⟨Nat.le_refl _, zOf.rf⟩⟩

theorem m_turns {l : Launch} {G : tb_G} (hl : l.stackTraces = false) (n : Nat) (J : zJ) (x : Int) (hr_x : -2147483648 ≤ x ∧ x < 2147483648) (b r d s m : Int) (c : Int) (hM : MS J b r d s m) (hU : UF J c m) (hx : (0 ≤ x ∧ x < c) ∧ x % 400 < m) : tz_Ok l G M_X12_turns 806 0 0 [.ref 164, zi x] n J (zqi (fun z J' => wc J' ≤ wc J ∧ zOf (zbut [180]) J' J)) zN := m_turnsR hl n 801 J x hr_x b r d s m c hM hU hx (by have := cnt_n (p := fun k => decide (¬ J 180 k = 1 ∧ ¬ J 180 k = 2)) 800; unfold wc; omega)
set_option maxHeartbeats 4000000 in
set_option maxRecDepth 100000 in
theorem m_unifies {l : Launch} {G : tb_G} (hl : l.stackTraces = false) (n : Nat) (J : zJ) (x : Int) (y : Int) (hr_x : -2147483648 ≤ x ∧ x < 2147483648) (hr_y : -2147483648 ≤ y ∧ y < 2147483648) (b r d s m : Int) (c : Int) (hM : MS J b r d s m) (hc : c = 400 ∨ c = 800) (hx : (0 ≤ x ∧ x < c) ∧ x % 400 < m) (hy : (0 ≤ y ∧ y < c) ∧ y % 400 < m) : tz_Ok l G M_X12_unifies 807 0 0 [.ref 164, zi x, zi y] n J (zqi (fun z J' => UF J' c m ∧ (0 ≤ z ∧ z ≤ 2) ∧ zOf (zbut [164, 177, 178, 179, 180]) J' J ∧ ∀ k, ¬ k = 30 → J' 164 k = J 164 k)) zN := by
  refine tz_Ok.of hl (by decide +kernel) rfl (tb_c1 rfl) (Nat.le_of_ble_eq_true rfl) ?_
  show tz_At l G M_X12_unifies (tb_rm 807 0 0) none (tb_ZM G 0 0 (zQ n 0 (zqi (fun z J' => UF J' c m ∧ (0 ≤ z ∧ z ≤ 2) ∧ zOf (zbut [164, 177, 178, 179, 180]) J' J ∧ ∀ k, ¬ k = 30 → J' 164 k = J 164 k))) (zX n 0 zN)) 0 0 n J 0 [some (.ref 164), some (zi x), some (zi y)] []
  obtain ⟨hM1, hM2, hM3, hM4, hM5, hM6⟩ := id hM
  have hT := hM.told
  refine tz_aload_n (pc := 0) dX12_unifies_0 rfl rfl ?_
  refine tz_cV (pc := 1) (m_begCl hl n _ b r d s m hM) vl_X12_177 dX12_unifies_1 o_164 rfl rfl (Nat.le_of_ble_eq_true rfl) ⟨(Nat.le_of_ble_eq_true rfl), (Nat.le_of_ble_eq_true rfl)⟩ rfl rfl (Nat.le_of_ble_eq_true rfl) (Nat.le_of_ble_eq_true rfl) (fun r9 J_1 hq9 => ?_)
  obtain ⟨rfl, u8, u4, -, f_1, g_1⟩ := hq9
  have f_1 := And.intro f_1 g_1
  have hU : UF J_1 c m := by rcases hc with e | e <;> (subst e; assumption)
  refine tz_aload_n (pc := 4) dX12_unifies_4 rfl rfl ?_
  refine tz_iload_n (pc := 5) dX12_unifies_5 rfl rfl ?_
  refine tz_iload_n (pc := 6) dX12_unifies_6 rfl rfl ?_
  refine tz_cV (pc := 7) (m_joins hl n _ _ _ (by omega) (by omega) b r d s m c (hM.cl f_1.1 f_1.2) hU hx hy) vl_X12_170 dX12_unifies_7 o_164 rfl rfl (Nat.le_of_ble_eq_true rfl) ⟨(Nat.le_of_ble_eq_true rfl), (Nat.le_of_ble_eq_true rfl)⟩ rfl rfl (Nat.le_of_ble_eq_true rfl) (Nat.le_of_ble_eq_true rfl) (fun r9 J_7 hq9 => ?_)
  obtain ⟨rfl, u7, -, f_7, g_7⟩ := hq9
  have f_7 : zOf (zbut [164, 177, 178, 179, 180]) J_7 J ∧ ∀ k, ¬ k = 30 → J_7 164 k = J 164 k := ⟨f_7.tr f_1.1, fun k hk => (g_7 k hk).trans (f_1.2 k hk)⟩
  refine tz_aload_n (pc := 10) dX12_unifies_10 rfl rfl ?_
  refine tz_fI (pc := 11) (kz := 30) (v := (J_7 164 30)) dX12_unifies_11 fl_X12_161 i_164_30 rfl rfl (fun r_11 => ?_)
  refine tz_if_eq (pc := 14) (tgt := 21) dX12_unifies_14 (by decide) (by omega) (fun h_14 => ?_) (fun h_14 => ?_)
  · refine tz_aload_n (pc := 21) dX12_unifies_21 rfl rfl ?_
    refine tz_iload_n (pc := 22) dX12_unifies_22 rfl rfl ?_
    refine tz_cV (pc := 23) (m_turns hl n _ _ (by omega) b r d s m c (hM.cl f_7.1 f_7.2) u7 hx) vl_X12_174 dX12_unifies_23 o_164 rfl rfl (Nat.le_of_ble_eq_true rfl) ⟨(Nat.le_of_ble_eq_true rfl), (Nat.le_of_ble_eq_true rfl)⟩ rfl rfl (Nat.le_of_ble_eq_true rfl) (Nat.le_of_ble_eq_true rfl) (fun r9 J_23 hq9 => ?_)
    obtain ⟨z_23, rfl, hz_23, -, t_23⟩ := hq9
    have f_23 : zOf (zbut [164, 177, 178, 179, 180]) J_23 J ∧ ∀ k, ¬ k = 30 → J_23 164 k = J 164 k := ⟨(t_23.mono (zbut_sub (fun c hc => by simp at hc ⊢; omega))).tr f_7.1, fun k hk => (congrFun (t_23 164 rfl) k).trans (f_7.2 k hk)⟩
    have u23 : UF J_23 c m := u7.c180 t_23
    refine tz_if_ne (pc := 26) (tgt := 37) dX12_unifies_26 (by decide) (by omega) (fun h_26 => ?_) (fun h_26 => ?_)
    · refine tz_iconst (pc := 37) dX12_unifies_37 ?_
      refine tz_goto (pc := 38) (tgt := 42) dX12_unifies_38 (by decide) ?_
      exact tz_iret (pc := 42) (z := 2) dX12_unifies_42 rfl (Nat.le_of_ble_eq_true rfl) (Nat.le_of_ble_eq_true rfl) ⟨Nat.le_refl _, Nat.le_add_right _ _⟩ ⟨_, rfl, (by decide), ⟨u23, by omega, f_23⟩⟩
    · refine tz_aload_n (pc := 29) dX12_unifies_29 rfl rfl ?_
      refine tz_iload_n (pc := 30) dX12_unifies_30 rfl rfl ?_
      refine tz_cV (pc := 31) (m_turns hl n _ _ (by omega) b r d s m c (hM.cl f_23.1 f_23.2) u23 hy) vl_X12_174 dX12_unifies_31 o_164 rfl rfl (Nat.le_of_ble_eq_true rfl) ⟨(Nat.le_of_ble_eq_true rfl), (Nat.le_of_ble_eq_true rfl)⟩ rfl rfl (Nat.le_of_ble_eq_true rfl) (Nat.le_of_ble_eq_true rfl) (fun r9 J_31 hq9 => ?_)
      obtain ⟨z_31, rfl, hz_31, -, t_31⟩ := hq9
      have f_31 : zOf (zbut [164, 177, 178, 179, 180]) J_31 J ∧ ∀ k, ¬ k = 30 → J_31 164 k = J 164 k := ⟨(t_31.mono (zbut_sub (fun c hc => by simp at hc ⊢; omega))).tr f_23.1, fun k hk => (congrFun (t_31 164 rfl) k).trans (f_23.2 k hk)⟩
      have u31 : UF J_31 c m := u23.c180 t_31
      refine tz_if_eq (pc := 34) (tgt := 41) dX12_unifies_34 (by decide) (by omega) (fun h_34 => ?_) (fun h_34 => ?_)
      · refine tz_iconst (pc := 41) dX12_unifies_41 ?_
        exact tz_iret (pc := 42) (z := 1) dX12_unifies_42 rfl (Nat.le_of_ble_eq_true rfl) (Nat.le_of_ble_eq_true rfl) ⟨Nat.le_refl _, Nat.le_add_right _ _⟩ ⟨_, rfl, (by decide), ⟨u31, by omega, f_31⟩⟩
      · refine tz_iconst (pc := 37) dX12_unifies_37 ?_
        refine tz_goto (pc := 38) (tgt := 42) dX12_unifies_38 (by decide) ?_
        exact tz_iret (pc := 42) (z := 2) dX12_unifies_42 rfl (Nat.le_of_ble_eq_true rfl) (Nat.le_of_ble_eq_true rfl) ⟨Nat.le_refl _, Nat.le_add_right _ _⟩ ⟨_, rfl, (by decide), ⟨u31, by omega, f_31⟩⟩
  · refine tz_iconst (pc := 17) dX12_unifies_17 ?_
    refine tz_goto (pc := 18) (tgt := 42) dX12_unifies_18 (by decide) ?_
    exact tz_iret (pc := 42) (z := 0) dX12_unifies_42 rfl (Nat.le_of_ble_eq_true rfl) (Nat.le_of_ble_eq_true rfl) ⟨Nat.le_refl _, Nat.le_add_right _ _⟩ ⟨_, rfl, (by decide), ⟨u7, by omega, f_7⟩⟩

end
section
set_option maxHeartbeats 4000000 in
set_option maxRecDepth 100000 in
theorem m_canBe {l : Launch} {G : tb_G} (hl : l.stackTraces = false) (n : Nat) (J : zJ) (x : Int) (y : Int) (hr_x : -2147483648 ≤ x ∧ x < 2147483648) (hr_y : -2147483648 ≤ y ∧ y < 2147483648) (b r d s m : Int) (hM : MS J b r d s m) (hx : 0 ≤ x ∧ x < m) (hy : 0 ≤ y ∧ y < m) : tz_Ok l G M_X12_canBeAlike 808 0 0 [.ref 164, zi x, zi y] n J (zqi (fun z J' => (z = 0 ∨ z = 1) ∧ zOf (zbut [164, 177, 178, 179, 180]) J' J ∧ ∀ k, ¬ k = 30 → J' 164 k = J 164 k)) zN := by
  refine tz_Ok.of hl (by decide +kernel) rfl (tb_c1 rfl) (Nat.le_of_ble_eq_true rfl) ?_
  show tz_At l G M_X12_canBeAlike (tb_rm 808 0 0) none (tb_ZM G 0 0 (zQ n 0 (zqi (fun z J' => (z = 0 ∨ z = 1) ∧ zOf (zbut [164, 177, 178, 179, 180]) J' J ∧ ∀ k, ¬ k = 30 → J' 164 k = J 164 k))) (zX n 0 zN)) 0 0 n J 0 [some (.ref 164), some (zi x), some (zi y)] []
  obtain ⟨hM1, hM2, hM3, hM4, hM5, hM6⟩ := id hM
  have hT := hM.told
  refine tz_aload_n (pc := 0) dX12_canBeAlike_0 rfl rfl ?_
  refine tz_iload_n (pc := 1) dX12_canBeAlike_1 rfl rfl ?_
  refine tz_sipush (pc := 2) dX12_canBeAlike_2 (by decide) ?_
  refine tz_iload_n (pc := 5) dX12_canBeAlike_5 rfl rfl ?_
  refine tz_iadd (pc := 6) (v := 400 + y) dX12_canBeAlike_6 rfl ?_
  refine tz_cV (pc := 7) (m_unifies hl n _ _ _ (by omega) (by omega) b r d s m 800 hM (Or.inr rfl) (by omega) (by omega)) vl_X12_189 dX12_canBeAlike_7 o_164 rfl rfl (Nat.le_of_ble_eq_true rfl) ⟨(Nat.le_of_ble_eq_true rfl), (Nat.le_of_ble_eq_true rfl)⟩ rfl rfl (Nat.le_of_ble_eq_true rfl) (Nat.le_of_ble_eq_true rfl) (fun r9 J_7 hq9 => ?_)
  obtain ⟨z_7, rfl, hz_7, -, -, g1, g2⟩ := hq9
  refine tz_iconst (pc := 10) dX12_canBeAlike_10 ?_
  refine tz_icmp_ne (pc := 11) (tgt := 18) dX12_canBeAlike_11 (by decide) (by omega) (by decide) (fun h_11 => ?_) (fun h_11 => ?_)
  · refine tz_iconst (pc := 18) dX12_canBeAlike_18 ?_
    exact tz_zret (pc := 19) (z := 0) dX12_canBeAlike_19 rfl (Or.inl rfl) (Nat.le_of_ble_eq_true rfl) (Nat.le_of_ble_eq_true rfl) ⟨Nat.le_refl _, Nat.le_add_right _ _⟩ ⟨_, rfl, (by decide), ⟨by omega, g1, g2⟩⟩
  · refine tz_iconst (pc := 14) dX12_canBeAlike_14 ?_
    refine tz_goto (pc := 15) (tgt := 19) dX12_canBeAlike_15 (by decide) ?_
    exact tz_zret (pc := 19) (z := 1) dX12_canBeAlike_19 rfl (Or.inr rfl) (Nat.le_of_ble_eq_true rfl) (Nat.le_of_ble_eq_true rfl) ⟨Nat.le_refl _, Nat.le_add_right _ _⟩ ⟨_, rfl, (by decide), ⟨by omega, g1, g2⟩⟩

theorem MG.deep {J1 J : zJ} {b r d s m : Int} (h : MS J b r d s m) (f : zOf (zbut [164]) J1 J ∧ ∀ k, ¬ k = 21 → J1 164 k = J 164 k) (hz : J1 164 21 = 0 → J 164 21 = 0) : MG [] [] (fun _ => false) J1 J b r d s m m :=
  ⟨⟨h.of ⟨f.2 _ (by decide), f.2 _ (by decide), f.2 _ (by decide)⟩ (by rw [f.1 165 rfl]) (f.1 166 rfl) (f.1 167 rfl) (f.1 168 rfl) (f.1 170 rfl), Int.le_refl _⟩, fun t _ _ => ⟨⟨by rw [f.1 166 rfl], by rw [f.1 168 rfl]⟩, fun i _ _ => by rw [f.1 167 rfl]⟩, ⟨⟨fun k _ => ⟨by rw [f.1 166 rfl], by rw [f.1 168 rfl]⟩, fun k _ => by rw [f.1 167 rfl]⟩, fun k _ _ => by rw [f.1 165 rfl], fun k hk => f.2 k (fun e => by subst e; simp at hk), f.1.mono (zbut_sub (fun c hc => by simp at hc ⊢; omega))⟩, hz⟩
theorem UF.mg {X : List Nat} {F : List Int} {rp : Int → Bool} {J' J : zJ} {b r d s m m' c m0 : Int} (h : UF J c m0) (g : MG X F rp J' J b r d s m m') (hX : X.contains 177 = false ∧ X.contains 178 = false ∧ X.contains 179 = false) : UF J' c m0 := by
  have fx : ∀ c, ¬ c = 164 → ¬ c = 165 → ¬ c = 166 → ¬ c = 167 → ¬ c = 168 → X.contains c = false → J' c = J c := fun c a1 a2 a3 a4 a5 a6 => g.2.2.1.2.2.2 c (by
    simp only [zbut, List.contains_cons, Bool.or_eq_true, Bool.not_eq_true', Bool.or_eq_false_iff, beq_eq_false_iff_ne]
    exact ⟨a1, a2, a3, a4, a5, a6⟩)
  exact h.of (fx 177 (by decide) (by decide) (by decide) (by decide) (by decide) hX.1) (fx 178 (by decide) (by decide) (by decide) (by decide) (by decide) hX.2.1) (fx 179 (by decide) (by decide) (by decide) (by decide) (by decide) hX.2.2)
def rB : Int → Bool := fun k => decide (1 ≤ k ∧ k ≤ 8)
theorem MG.rb {X : List Nat} {F : List Int} {J' J : zJ} {b r d s m m' k v : Int} (g : MG X F rB J' J b r d s m m') (hk : 1 ≤ k ∧ k ≤ 8) : MG X F rB (zup J' 165 k v) J b r d s m m' := by
  have hr := g.1.1.1
  unfold mode at hr
  have e5 : ∀ q, ¬ q = k → zup J' 165 k v 165 q = J' 165 q := fun q hq => zup_ne hq
  refine ⟨⟨g.1.1.of ⟨rfl, rfl, rfl⟩ (e5 r (by omega)) rfl rfl rfl rfl, g.1.2⟩, g.2.1, ⟨g.2.2.1.1, fun q a c => ?_, g.2.2.1.2.2.1, fun c hc => ?_⟩, g.2.2.2⟩
  · rw [e5 q (fun e => by subst e; unfold rB at c; exact of_decide_eq_false c hk)]
    exact g.2.2.1.2.1 q a c
  · rw [← g.2.2.1.2.2.2 c hc]
    refine zup_nc (fun e => ?_)
    subst e
    simp [zbut] at hc
theorem MG.tr9 {J3 J2 J1 J : zJ} {b r d s m m1 m2 : Int} (g1 : MG [] [] rB J1 J b r d s m m1) (g2 : MG [] [] rB J2 J b r d s m m1) (g : MG [] [] (fun _ => false) J3 J2 b r d s m1 m2) : MG [] [] rB J3 J b r d s m m2 := g2.tr (g.mono (fun _ h => h) (fun _ h => h) (fun _ _ => rfl))
theorem bs_s1 {J1 : zJ} {k m1 : Int} (h : J1 164 21 = 0 → ∀ v, 1 ≤ v → v < 1 + k → 0 ≤ J1 165 v ∧ J1 165 v ≤ m1) (hk : 0 ≤ k) (hm : 0 ≤ m1) : zup J1 165 (1 + k) 0 164 21 = 0 → ∀ v, 1 ≤ v → v < 1 + (k + 1) → 0 ≤ zup J1 165 (1 + k) 0 165 v ∧ zup J1 165 (1 + k) 0 165 v ≤ m1 := fun q v a c => by
  have q1 : J1 164 21 = 0 := q
  have e : zup J1 165 (1 + k) 0 165 v = if v = 1 + k then 0 else J1 165 v := rfl
  rw [e]
  split
  · omega
  · exact h q1 v a (by omega)
theorem bs_s2 {J3 J1 : zJ} {b r d s k m1 m2 z : Int} (h : J1 164 21 = 0 → ∀ v, 1 ≤ v → v < 1 + k → 0 ≤ J1 165 v ∧ J1 165 v ≤ m1) (g : MG [] [] (fun _ => false) J3 (zup J1 165 (1 + k) 0) b r d s m1 m2) (hz : J3 164 21 = 0 → 0 ≤ z ∧ z < m2) (hk : 0 ≤ k ∧ k < 8) : zup J3 165 (1 + k) (zw (1 + z)) 164 21 = 0 → ∀ v, 1 ≤ v → v < 1 + (k + 1) → 0 ≤ zup J3 165 (1 + k) (zw (1 + z)) 165 v ∧ zup J3 165 (1 + k) (zw (1 + z)) 165 v ≤ m2 := fun q v a c => by
  have q3 : J3 164 21 = 0 := q
  have q1 : J1 164 21 = 0 := g.2.2.2 q3
  have hm := g.1.2
  have ht := g.1.1.told
  have hr := g.1.1.1
  unfold mode at hr
  have e : zup J3 165 (1 + k) (zw (1 + z)) 165 v = if v = 1 + k then zw (1 + z) else J3 165 v := rfl
  rw [e]
  have z1 := hz q3
  split
  · rw [zw_eq (by omega)]
    omega
  · next hv =>
    have e1 : J3 165 v = J1 165 v := by
      by_cases er : v = r
      · omega
      · rw [g.2.2.1.2.1 v er rfl]
        exact zup_ne hv
    rw [e1]
    have := h q1 v a (by omega)
    omega
end
section
/-! ===== bits ===== -/
def bt (a v : Int) : Prop := zand (zshr a v) 1 = 1
theorem i1_01 (x : Int32) : x &&& 1 = 0 ∨ x &&& 1 = 1 := by
  have h := z_and x.toInt (m := 1) 1 (by decide) (by decide)
  unfold zand at h
  rw [Int32.ofInt_toInt, show Int32.ofInt 1 = 1 from rfl] at h
  have h2 : (x &&& 1).toInt = 0 ∨ (x &&& 1).toInt = 1 := by omega
  exact h2.imp (fun q => Int32.toInt_inj.1 (q.trans rfl)) (fun q => Int32.toInt_inj.1 (q.trans rfl))
theorem i1_or (x y : Int32) : (x ||| y) &&& 1 = (x &&& 1) ||| (y &&& 1) := by
  refine Int32.toBitVec_inj.1 (BitVec.eq_of_getLsbD_eq (fun i hi => ?_))
  simp only [Int32.toBitVec_and, Int32.toBitVec_or, BitVec.getLsbD_and, BitVec.getLsbD_or]
  exact Bool.and_or_distrib_right _ _ _
theorem i1_and (x y : Int32) : (x &&& y) &&& 1 = (x &&& 1) &&& (y &&& 1) := by
  rw [Int32.and_assoc, Int32.and_assoc, ← Int32.and_assoc 1 y 1, Int32.and_comm 1 y, Int32.and_assoc y, Int32.and_self]
theorem bt_iff {a v : Int} : bt a v ↔ (Int32.ofInt a >>> (Int32.ofInt v &&& 31)) &&& 1 = 1 := by
  unfold bt zand zshr
  rw [Int32.ofInt_toInt, show Int32.ofInt 1 = 1 from rfl]
  exact ⟨fun q => Int32.toInt_inj.1 (q.trans rfl), fun q => by rw [q]; rfl⟩
theorem bt_or {a b v : Int} : bt (zor a b) v ↔ bt a v ∨ bt b v := by
  rw [bt_iff, bt_iff, bt_iff]
  unfold zor
  rw [Int32.ofInt_toInt, Int32.shiftRight_or, i1_or]
  rcases i1_01 (Int32.ofInt a >>> (Int32.ofInt v &&& 31)) with h1 | h1 <;> rcases i1_01 (Int32.ofInt b >>> (Int32.ofInt v &&& 31)) with h2 | h2 <;> rw [h1, h2] <;> decide
theorem bt_and3 {a b c v : Int} (ha : bt a v) (hb : bt b v) (hc : bt c v) : zand (zand (zand (zshr a v) (zshr b v)) (zshr c v)) 1 = 1 := by
  have h1 := bt_iff.1 ha
  have h2 := bt_iff.1 hb
  have h3 := bt_iff.1 hc
  unfold zand zshr
  simp only [Int32.ofInt_toInt]
  rw [show Int32.ofInt 1 = 1 from rfl, i1_and, i1_and, h1, h2, h3]
  rfl
theorem bt_shl {v : Int} (h : 0 ≤ v ∧ v < 8) : bt (zshl 1 v) v := by
  have h1 : v = 0 ∨ v = 1 ∨ v = 2 ∨ v = 3 ∨ v = 4 ∨ v = 5 ∨ v = 6 ∨ v = 7 := by omega
  rcases h1 with h1 | h1 | h1 | h1 | h1 | h1 | h1 | h1 <;> (subst h1; unfold bt; decide)
/-! ===== what variables a term tells ===== -/
def occ (J : zJ) (b d : Int) : Nat → Int → Int → Prop
  | 0, _, _ => False
  | k + 1, t, v => (J 166 (b + t) < 0 ∧ v = -1 - J 166 (b + t)) ∨ ∃ i, (0 ≤ i ∧ i < mar J b d t) ∧ occ J b d k (J 167 (3 * (b + t) + i)) v
def Occ (J : zJ) (b d t v : Int) : Prop := ∃ k, occ J b d k t v
theorem Occ.v {J : zJ} {b d t : Int} (h : J 166 (b + t) < 0) : Occ J b d t (-1 - J 166 (b + t)) := ⟨1, Or.inl ⟨h, rfl⟩⟩
theorem Occ.a {J : zJ} {b d t i v : Int} (hi : 0 ≤ i ∧ i < mar J b d t) : Occ J b d (J 167 (3 * (b + t) + i)) v → Occ J b d t v := fun ⟨k, h⟩ => ⟨k + 1, Or.inr ⟨i, hi, h⟩⟩
theorem occ_rg {J : zJ} {b r d s m : Int} (h : MS J b r d s m) : ∀ (k : Nat) {t v : Int}, occ J b d k t v → (0 ≤ t ∧ t < m) → 0 ≤ v ∧ v < 8
  | 0, _, _, o, _ => o.elim
  | k + 1, t, v, o, ht => by
    rcases o with ⟨o1, o2⟩ | ⟨i, hi, o⟩
    · have := (h.ar ht).2.1
      omega
    · have := (h.arg ht hi).1
      exact occ_rg h k o (by omega)
theorem Occ.rg {J : zJ} {b r d s m t v : Int} (h : MS J b r d s m) (o : Occ J b d t v) (ht : 0 ≤ t ∧ t < m) : 0 ≤ v ∧ v < 8 := o.elim fun k o => occ_rg h k o ht
end
section
/-! ===== rings ===== -/
def TP (f : Int → Int) (j : Int) : Prop := ∀ i v u, (0 ≤ i ∧ i < j) → (0 ≤ v ∧ v < 8) → (0 ≤ u ∧ u < 8) → bt (f v) i → bt (f i) u → bt (f v) u
def EX (f2 f1 : Int → Int) (j i : Int) : Prop := ∀ v u, (0 ≤ v ∧ v < 8) → (bt (f2 v) u ↔ bt (f1 v) u ∨ (v < i ∧ bt (f1 v) j ∧ bt (f1 j) u))
theorem EX.row {f2 f1 : Int → Int} {j i u : Int} (h : EX f2 f1 j i) (hj : 0 ≤ j ∧ j < 8) : bt (f2 j) u ↔ bt (f1 j) u := by
  rw [h j u hj]
  exact ⟨fun q => q.elim id (fun w => w.2.2), Or.inl⟩
theorem EX.me {f2 f1 : Int → Int} {j i u : Int} (h : EX f2 f1 j i) (hi : 0 ≤ i ∧ i < 8) : bt (f2 i) u ↔ bt (f1 i) u := by
  rw [h i u hi]
  exact ⟨fun q => q.elim id (fun w => by omega), Or.inl⟩
theorem EX.st {f3 f2 f1 : Int → Int} {j i : Int} (h : EX f2 f1 j i) (hj : 0 ≤ j ∧ j < 8) (hi : 0 ≤ i ∧ i < 8) (h3 : ∀ v, ¬ v = i → f3 v = f2 v) (hc : (bt (f2 i) j ∧ f3 i = zor (f2 i) (f2 j)) ∨ (¬ bt (f2 i) j ∧ f3 i = f2 i)) : EX f3 f1 j (i + 1) := fun v u hv => by
  by_cases e : v = i
  · subst e
    rcases hc with ⟨c1, c2⟩ | ⟨c1, c2⟩
    · rw [c2, bt_or, h.me hi, h.row hj]
      have c3 := (h.me hi).1 c1
      exact ⟨fun q => q.imp id (fun w => ⟨by omega, c3, w⟩), fun q => q.imp id (fun w => w.2.2)⟩
    · rw [c2, h.me hi]
      exact ⟨Or.inl, fun q => q.elim id (fun w => absurd ((h.me hi).2 w.2.1) c1)⟩
  · rw [h3 v e, h v u hv]
    exact ⟨fun q => q.imp id (fun w => ⟨by omega, w.2⟩), fun q => q.imp id (fun w => ⟨by omega, w.2⟩)⟩
theorem EX.z {f : Int → Int} {j : Int} : EX f f j 0 := fun v u hv => ⟨Or.inl, fun q => q.elim id (fun w => by omega)⟩
theorem EX.e {f2 f1 : Int → Int} {j : Int} (h : EX f2 f1 j 8) (hj : 0 ≤ j ∧ j < 8) (p : TP f1 j) : TP f2 (j + 1) := fun i v u hi hv hu a c => by
  have i8 : 0 ≤ i ∧ i < 8 := by omega
  have goal : bt (f1 v) u ∨ (bt (f1 v) j ∧ bt (f1 j) u) → bt (f2 v) u := fun q => (h v u hv).2 (q.imp id (fun w => ⟨hv.2, w⟩))
  have a1 := (h v i hv).1 a
  have c1 := (h i u i8).1 c
  by_cases e : i = j
  · subst e
    have c2 : bt (f1 i) u := c1.elim id (fun w => w.2.2)
    exact goal (Or.inr ⟨a1.elim id (fun w => w.2.1), c2⟩)
  · have i9 : 0 ≤ i ∧ i < j := by omega
    rcases a1 with a1 | ⟨-, a1, a2⟩
    · rcases c1 with c1 | ⟨-, c1, c2⟩
      · exact goal (Or.inl (p i v u i9 hv hu a1 c1))
      · exact goal (Or.inr ⟨p i v j i9 hv hj a1 c1, c2⟩)
    · rcases c1 with c1 | ⟨-, c1, c2⟩
      · exact goal (Or.inr ⟨a1, p i j u i9 hj hu a2 c1⟩)
      · exact goal (Or.inr ⟨a1, c2⟩)
theorem EX.mo {f2 f1 : Int → Int} {j i v u : Int} (h : EX f2 f1 j i) (hv : 0 ≤ v ∧ v < 8) (q : bt (f1 v) u) : bt (f2 v) u := (h v u hv).2 (Or.inl q)
def NB (J : zJ) (f : Int → Int) (b d k : Int) : Prop := ∀ v, 0 ≤ v → v < k → ¬ J 175 v = -1 → ∀ u, Occ J b d (J 175 v) u → bt (f v) u
def NR (J : zJ) (b d t : Int) : Prop := ∃ (rk : Int → Nat) (S : Int → Prop), (∀ v, rk v ≤ 8) ∧ (∀ v, Occ J b d t v → S v) ∧ ∀ v, (0 ≤ v ∧ v < 8) → S v → ¬ J 175 v = -1 → ∀ u, Occ J b d (J 175 v) u → S u ∧ (¬ J 175 u = -1 → rk u < rk v)
theorem nr_mk {J : zJ} {b r d s m t S0 S W : Int} {f : Int → Int} (hM : MS J b r d s m) (hy : gOK (J 175) m) (h1 : NB J f b d 8) (hW : ∀ v, 0 ≤ v → v < 8 → ¬ J 175 v = -1 → bt W v) (hp : TP f 8) (h0 : ∀ v, Occ J b d t v → bt S0 v) (hS : ∀ u, bt S0 u → bt S u) (hN : ∀ v u, 0 ≤ v → v < 8 → bt S0 v → bt (f v) u → bt S u) (hR : ∀ v, 0 ≤ v → v < 8 → ¬ (bt S v ∧ bt W v ∧ bt (f v) v)) : NR J b d t := by
  refine ⟨fun v => cnt (fun k => decide (zand (zshr (f v) k) 1 = 1)) 8, fun v => bt S0 v ∨ ∃ w, (0 ≤ w ∧ w < 8) ∧ bt S0 w ∧ bt (f w) v, fun v => cnt_n 8, fun v o => Or.inl (h0 v o), fun v hv sv bv u o => ?_⟩
  have hb := hy v hv.1 hv.2
  have hu := o.rg hM (by omega)
  have fu := h1 v hv.1 hv.2 bv u o
  have su : bt S0 u ∨ ∃ w, (0 ≤ w ∧ w < 8) ∧ bt S0 w ∧ bt (f w) u := by
    rcases sv with sv | ⟨w, hw, w1, w2⟩
    · exact Or.inr ⟨v, hv, sv, fu⟩
    · exact Or.inr ⟨w, hw, w1, hp v w u hv hw hu w2 fu⟩
  refine ⟨su, fun bu => ?_⟩
  have s1 : bt S u := by
    rcases su with su | ⟨w, hw, w1, w2⟩
    · exact hS u su
    · exact hN w u hw.1 hw.2 w1 w2
  have nu : ¬ bt (f u) u := fun q => hR u hu.1 hu.2 ⟨s1, hW u hu.1 hu.2 bu, q⟩
  refine cnt_lt 8 (fun k a c g => decide_eq_true ?_) ⟨u, hu, decide_eq_true fu, decide_eq_false nu⟩
  have g1 : zand (zshr (f u) k) 1 = 1 := of_decide_eq_true g
  exact hp u v k hu hv ⟨a, by omega⟩ fu g1
theorem nb_s {J J1 : zJ} {b d k z : Int} (h : NB J (J1 176) b d k) (hz : ¬ J 175 k = -1 → ∀ u, Occ J b d (J 175 k) u → bt z u) : NB J (zup J1 176 k z 176) b d (k + 1) := fun v a c q u o => by
  have e : zup J1 176 k z 176 v = if v = k then z else J1 176 v := rfl
  rw [e]
  by_cases hv : v = k
  · subst hv
    rw [if_pos rfl]
    exact hz q u o
  · rw [if_neg hv]
    exact h v a (by omega) q u o
theorem wb_s {J : zJ} {k w x : Int} (h : ∀ v, 0 ≤ v → v < k → ¬ J 175 v = -1 → bt w v) (hk : ¬ J 175 k = -1 → bt x k) : ∀ v, 0 ≤ v → v < k + 1 → ¬ J 175 v = -1 → bt (zor w x) v := fun v a c q => by
  by_cases hv : v = k
  · subst hv
    exact bt_or.2 (Or.inr (hk q))
  · exact bt_or.2 (Or.inl (h v a (by omega) q))
theorem sn_s {f : Int → Int} {s0 sS k x : Int} (h : ∀ v u, 0 ≤ v → v < k → bt s0 v → bt (f v) u → bt sS u) (hx : ∀ u, bt sS u → bt x u) (hk : ∀ u, bt s0 k → bt (f k) u → bt x u) : ∀ v u, 0 ≤ v → v < k + 1 → bt s0 v → bt (f v) u → bt x u := fun v u a c p q => by
  by_cases hv : v = k
  · subst hv
    exact hk u p q
  · exact hx u (h v u a (by omega) p q)
theorem rg_s {f : Int → Int} {sS w k : Int} (h : ∀ v, 0 ≤ v → v < k → ¬ (bt sS v ∧ bt w v ∧ bt (f v) v)) (hk : ¬ (bt sS k ∧ bt w k ∧ bt (f k) k)) : ∀ v, 0 ≤ v → v < k + 1 → ¬ (bt sS v ∧ bt w v ∧ bt (f v) v) := fun v a c => by
  by_cases hv : v = k
  · subst hv
    exact hk
  · exact h v a (by omega)
theorem MS.c176 {J' J : zJ} {b r d s m : Int} (h : MS J b r d s m) (f : zOf (zbut [176]) J' J) : MS J' b r d s m := h.c1 f (by decide)
theorem occ_cg {J' J : zJ} {b d : Int} (e6 : J' 166 = J 166) (e7 : J' 167 = J 167) (e0 : J' 170 = J 170) : ∀ (k : Nat) (t v : Int), occ J' b d k t v ↔ occ J b d k t v
  | 0, _, _ => Iff.rfl
  | k + 1, t, v => by
    have em : mar J' b d t = mar J b d t := by unfold mar; rw [e6, e0]
    unfold occ
    rw [e6, e7, em]
    exact or_congr Iff.rfl ⟨fun ⟨i, a, c⟩ => ⟨i, a, (occ_cg e6 e7 e0 k _ v).1 c⟩, fun ⟨i, a, c⟩ => ⟨i, a, (occ_cg e6 e7 e0 k _ v).2 c⟩⟩
theorem Occ.cg {J' J : zJ} {b d t v : Int} (f : zOf (zbut [176]) J' J) (o : Occ J b d t v) : Occ J' b d t v := o.elim fun k o => ⟨k, (occ_cg (f 166 rfl) (f 167 rfl) (f 170 rfl) k t v).2 o⟩
end
section
/-! ===== closing ===== -/
def OC (O : Int → Int → Prop) (J : zJ) (b d m0 : Int) : Prop := ∀ t, 0 ≤ t → t < m0 → (J 166 (b + t) < 0 → O t (-1 - J 166 (b + t))) ∧ ∀ i v, (0 ≤ i ∧ i < mar J b d t) → O (J 167 (3 * (b + t) + i)) v → O t v
def CR (O : Int → Int → Prop) (rk : Int → Nat) (S : Int → Prop) (J : zJ) (b d m0 : Int) : Prop := OC O J b d m0 ∧ gOK (J 175) m0 ∧ ∀ v, (0 ≤ v ∧ v < 8) → S v → ¬ J 175 v = -1 → ∀ u, O (J 175 v) u → S u ∧ (¬ J 175 u = -1 → rk u < rk v)
theorem CR.mg {O : Int → Int → Prop} {rk : Int → Nat} {S : Int → Prop} {J' J : zJ} {b r d s m m' m0 : Int} (h : CR O rk S J b d m0) (hm : m0 ≤ m) (g : MG [] [] (fun _ => false) J' J b r d s m m') : CR O rk S J' b d m0 := by
  have e5 : J' 175 = J 175 := g.2.2.1.2.2.2 175 rfl
  refine ⟨fun t a c => ?_, by rw [e5]; exact h.2.1, by rw [e5]; exact h.2.2⟩
  have h1 := h.1 t a c
  have hu := g.2.1 t a (by omega)
  have em := g.ar (t := t) ⟨a, by omega⟩ (g.2.2.1.2.2.2 170 rfl)
  rw [hu.1.1, em]
  refine ⟨h1.1, fun i v hi o => h1.2 i v hi ?_⟩
  have ha : mar J b d t ≤ 3 := by rw [← em]; exact (g.1.1.ar (t := t) ⟨a, by have := g.1.2; omega⟩).1.2
  rw [hu.2 i hi.1 (by omega)] at o
  exact o
end
section
/-! ===== memos ===== -/
def MR (f : Int → Int) (m : Int) : Prop := (0 ≤ f 9 ∧ f 9 ≤ 8) ∧ ∀ k, 0 ≤ k → k < f 9 → (0 ≤ f (10 + 2 * k) ∧ f (10 + 2 * k) < m) ∧ 0 ≤ f (10 + 2 * k + 1) ∧ f (10 + 2 * k + 1) < m
def MM (f : Int → Int) (m : Int) : Prop := (0 ≤ f 39 ∧ f 39 ≤ 9) ∧ (0 ≤ f 40 ∧ f 40 ≤ f 39) ∧ ∀ k, 0 ≤ k → k < 2 * f 40 → 0 ≤ f (41 + k) ∧ f (41 + k) < m
def MMf (J' J : zJ) : Prop := zOf (zbut [165]) J' J ∧ ∀ k, (k < 40 ∨ 59 ≤ k) → J' 165 k = J 165 k
theorem MMf.rf {J : zJ} : MMf J J := ⟨zOf.rf, fun _ _ => rfl⟩
theorem MMf.tr {J3 J2 J1 : zJ} (h : MMf J3 J2) (g : MMf J2 J1) : MMf J3 J1 := ⟨h.1.tr g.1, fun k q => (h.2 k q).trans (g.2 k q)⟩
theorem MMf.up {J' J : zJ} {k v : Int} (h : MMf J' J) (hk : 40 ≤ k ∧ k < 59) : MMf (zup J' 165 k v) J := ⟨zOf.up rfl h.1, fun q a => (zup_ne (by omega)).trans (h.2 q a)⟩
theorem MM.mono {f : Int → Int} {m m' : Int} (h : MM f m) (q : m ≤ m') : MM f m' := ⟨h.1, h.2.1, fun k a c => by have := h.2.2 k a c; omega⟩
theorem MR.mono {f : Int → Int} {m m' : Int} (h : MR f m) (q : m ≤ m') : MR f m' := ⟨h.1, fun k a c => by have := h.2 k a c; omega⟩
theorem MR.of {f' f : Int → Int} {m : Int} (h : MR f m) (e : ∀ k, 9 ≤ k → k < 26 → f' k = f k) : MR f' m := by
  unfold MR
  rw [e 9 (by decide) (by decide)]
  refine ⟨h.1, fun k a c => ?_⟩
  have h1 := h.1
  rw [e (10 + 2 * k) (by omega) (by omega), e (10 + 2 * k + 1) (by omega) (by omega)]
  exact h.2 k a c
theorem ml_s {J1 : zJ} {h j m c : Int} (h3 : ∀ k, 0 ≤ k → k < 2 * h → 0 ≤ J1 165 (41 + k) ∧ J1 165 (41 + k) < m) (hj : 0 ≤ j ∧ j + 2 < 2 * h) (hc : 0 ≤ c ∧ c < m) : ∀ k, 0 ≤ k → k < 2 * h → 0 ≤ zup J1 165 (41 + j) c 165 (41 + k) ∧ zup J1 165 (41 + j) c 165 (41 + k) < m := fun k a q => by
  have e : zup J1 165 (41 + j) c 165 (41 + k) = if 41 + k = 41 + j then c else J1 165 (41 + k) := rfl
  rw [e]
  split
  · exact hc
  · exact h3 k a q
set_option maxHeartbeats 4000000 in
set_option maxRecDepth 100000 in
theorem m_stopped {l : Launch} {G : tb_G} (hl : l.stackTraces = false) (n : Nat) (J : zJ)     : tz_Ok l G M_X12_isStopped 0 0 0 [.ref 164] n J (zqi (fun z J' => J = J' ∧ ((z = 0 ∧ J 164 21 = 0 ∧ J 164 34 ≤ 100) ∨ (z = 1 ∧ (¬ J 164 21 = 0 ∨ 100 < J 164 34))))) zN := by
  refine tz_Ok.of hl (by decide +kernel) rfl (tb_c1 rfl) (Nat.le_of_ble_eq_true rfl) ?_
  show tz_At l G M_X12_isStopped (tb_rm 0 0 0) none (tb_ZM G 0 0 (zQ n 0 (zqi (fun z J' => J = J' ∧ ((z = 0 ∧ J 164 21 = 0 ∧ J 164 34 ≤ 100) ∨ (z = 1 ∧ (¬ J 164 21 = 0 ∨ 100 < J 164 34)))))) (zX n 0 zN)) 0 0 n J 0 [some (.ref 164)] []
  refine tz_aload_n (pc := 0) dX12_isStopped_0 rfl rfl ?_
  refine tz_fI (pc := 1) (kz := 21) (v := (J 164 21)) dX12_isStopped_1 fl_X12_92 i_164_21 rfl rfl (fun r_1 => ?_)
  refine tz_if_ne (pc := 4) (tgt := 16) dX12_isStopped_4 (by decide) (by omega) (fun h_4 => ?_) (fun h_4 => ?_)
  · refine tz_iconst (pc := 16) dX12_isStopped_16 ?_
    refine tz_goto (pc := 17) (tgt := 21) dX12_isStopped_17 (by decide) ?_
    exact tz_zret (pc := 21) (z := 1) dX12_isStopped_21 rfl (Or.inr rfl) (Nat.le_of_ble_eq_true rfl) (Nat.le_of_ble_eq_true rfl) ⟨Nat.le_refl _, Nat.le_add_right _ _⟩ ⟨_, rfl, (by decide), ⟨rfl, by omega⟩⟩
  · refine tz_aload_n (pc := 7) dX12_isStopped_7 rfl rfl ?_
    refine tz_fI (pc := 8) (kz := 34) (v := (J 164 34)) dX12_isStopped_8 fl_X12_208 i_164_34 rfl rfl (fun r_8 => ?_)
    refine tz_bipush (pc := 11) dX12_isStopped_11 (by decide) ?_
    refine tz_icmp_le (pc := 13) (tgt := 20) dX12_isStopped_13 (by decide) (by omega) (by decide) (fun h_13 => ?_) (fun h_13 => ?_)
    · refine tz_iconst (pc := 20) dX12_isStopped_20 ?_
      exact tz_zret (pc := 21) (z := 0) dX12_isStopped_21 rfl (Or.inl rfl) (Nat.le_of_ble_eq_true rfl) (Nat.le_of_ble_eq_true rfl) ⟨Nat.le_refl _, Nat.le_add_right _ _⟩ ⟨_, rfl, (by decide), ⟨rfl, by omega⟩⟩
    · refine tz_iconst (pc := 16) dX12_isStopped_16 ?_
      refine tz_goto (pc := 17) (tgt := 21) dX12_isStopped_17 (by decide) ?_
      exact tz_zret (pc := 21) (z := 1) dX12_isStopped_21 rfl (Or.inr rfl) (Nat.le_of_ble_eq_true rfl) (Nat.le_of_ble_eq_true rfl) ⟨Nat.le_refl _, Nat.le_add_right _ _⟩ ⟨_, rfl, (by decide), ⟨rfl, by omega⟩⟩

end
section
/-! ===== normal forms ===== -/
def rM : Int → Bool := fun k => decide (40 ≤ k ∧ k ≤ 62)
def NZ (J : zJ) (b r d s m : Int) : Prop := MS J b r d s m ∧ MR (J 165) m ∧ MM (J 165) m ∧ 0 ≤ J 164 34 ∧ J 164 34 ≤ 101
def NP (J' J : zJ) (b r d s m m' : Int) : Prop := NZ J' b r d s m' ∧ MG [174] [34] rM J' J b r d s m m' ∧ J 164 34 ≤ J' 164 34
theorem NP.rf {J : zJ} {b r d s m : Int} (h : NZ J b r d s m) : NP J J b r d s m m := ⟨h, MG.rf h.1, Int.le_refl _⟩
theorem NP.tr {J3 J2 J1 : zJ} {b r d s m1 m2 m3 : Int} (g : NP J2 J1 b r d s m1 m2) (h : NP J3 J2 b r d s m2 m3) : NP J3 J1 b r d s m1 m3 := ⟨h.1, g.2.1.tr h.2.1, Int.le_trans g.2.2 h.2.2⟩
theorem MM.of {f' f : Int → Int} {m : Int} (h : MM f m) (e : ∀ k, 39 ≤ k → k < 59 → f' k = f k) : MM f' m := by
  unfold MM
  rw [e 39 (by decide) (by decide), e 40 (by decide) (by decide)]
  refine ⟨h.1, h.2.1, fun k a c => ?_⟩
  have h1 := h.1
  have h2 := h.2.1
  rw [e (41 + k) (by omega) (by omega)]
  exact h.2.2 k a c
theorem rM_r {b r d : Int} (h : mode b r d) : rM r = false := by
  unfold mode at h
  rcases h with h | h <;> (rw [h.2.1]; rfl)
theorem NP.off {J' J : zJ} {b r d s m : Int} (h : NZ J b r d s m) (h4 : ∀ k, ¬ k = 34 → J' 164 k = J 164 k) (h5 : ∀ k, (k < 40 ∨ 62 < k) → J' 165 k = J 165 k) (f : zOf (zbut [164, 165, 174]) J' J) (hm : MM (J' 165) m) (hs : J 164 34 ≤ J' 164 34 ∧ J' 164 34 ≤ 101) : NP J' J b r d s m m := by
  have g : MG [174] [34] rM J' J b r d s m m := (MG.rf h.1).off (fun k hk => h4 k (fun e => by subst e; simp at hk)) (fun k hk => h5 k (by have := of_decide_eq_false hk; omega)) f ⟨rfl, rfl, rfl, rfl⟩ (rM_r h.1.1) ⟨rfl, rfl, rfl, rfl⟩
  exact ⟨⟨g.1.1, h.2.1.of (fun k a c => h5 k (by omega)), hm, by have := h.2.2.2; omega, hs.2⟩, g, hs.1⟩
theorem NP.c174 {J' J : zJ} {b r d s m : Int} (h : NZ J b r d s m) (f : zOf (zbut [174]) J' J) : NP J' J b r d s m m := NP.off h (fun k _ => by rw [f 164 rfl]) (fun k _ => by rw [f 165 rfl]) (f.mono (zbut_sub (fun c hc => by simp at hc ⊢; omega))) (by rw [f 165 rfl]; exact h.2.2.1) (by rw [f 164 rfl]; exact ⟨Int.le_refl _, h.2.2.2.2⟩)
theorem NP.step {J : zJ} {b r d s m x y : Int} (h : NZ J b r d s m) (hx : x = J 164 34 + 1) (hs : J 164 34 ≤ 100) : NP (zup (zup J 164 34 x) 165 62 y) J b r d s m m := by
  have e4 : zup (zup J 164 34 x) 165 62 y 164 34 = x := by show zup J 164 34 x 164 34 = x; exact zup_at
  have e5 : ∀ k, ¬ k = 62 → zup (zup J 164 34 x) 165 62 y 165 k = J 165 k := fun k hk => (zup_ne hk).trans rfl
  refine NP.off h (fun k hk => ?_) (fun k hk => e5 k (by omega)) (zOf.up rfl (zOf.up rfl zOf.rf)) (h.2.2.1.of (fun k a c => e5 k (by omega))) ?_
  · show zup J 164 34 x 164 k = _
    exact zup_ne hk
  · rw [e4]
    omega
theorem NP.mmf {J' J : zJ} {b r d s m : Int} (h : NZ J b r d s m) (f : MMf J' J) (hm : MM (J' 165) m) : NP J' J b r d s m m := NP.off h (fun k _ => by rw [f.1 164 rfl]) (fun k hk => f.2 k (by omega)) (f.1.mono (zbut_sub (fun c hc => by simp at hc ⊢; omega))) hm (by rw [f.1 164 rfl]; exact ⟨Int.le_refl _, h.2.2.2.2⟩)
theorem NP.hit {J : zJ} {b r d s m y : Int} (h : NZ J b r d s m) : NP (zup J 165 61 y) J b r d s m m := by
  have e5 : ∀ k, ¬ k = 61 → zup J 165 61 y 165 k = J 165 k := fun k hk => zup_ne hk
  exact NP.off h (fun k _ => rfl) (fun k hk => e5 k (by omega)) (zOf.up rfl zOf.rf) (h.2.2.1.of (fun k a c => e5 k (by omega))) ⟨Int.le_refl _, h.2.2.2.2⟩
theorem NP.mg {J' J : zJ} {b r d s m m' : Int} (h : NZ J b r d s m) (g : MG [] [] (fun _ => false) J' J b r d s m m') : NP J' J b r d s m m' := by
  have hr := h.1.1
  unfold mode at hr
  have e5 : ∀ k, ¬ k = r → J' 165 k = J 165 k := fun k hk => g.2.2.1.2.1 k hk rfl
  have e4 : J' 164 34 = J 164 34 := g.2.2.1.2.2.1 34 rfl
  exact ⟨⟨g.1.1, (h.2.1.mono g.1.2).of (fun k a c => e5 k (by omega)), (h.2.2.1.mono g.1.2).of (fun k a c => e5 k (by omega)), by rw [e4]; exact h.2.2.2⟩, g.mono (fun _ q => by simp at q) (fun _ q => by simp at q) (fun _ _ => rfl), by rw [e4]; exact Int.le_refl _⟩
theorem NP.fu {J' J : zJ} {b r d s m m' : Int} (h : NP J' J b r d s m m') : (J' 164 21 = 0 → J 164 21 = 0) ∧ m ≤ m' ∧ (0 ≤ J' 164 34 ∧ J' 164 34 ≤ 101) ∧ J 164 34 ≤ J' 164 34 := ⟨h.2.1.2.2.2, h.2.1.1.2, h.1.2.2.2, h.2.2⟩
end
section
theorem mar_c1 {J' J : zJ} {b d t : Int} (f : zOf (zbut [174]) J' J) : mar J' b d t = mar J b d t := by
  unfold mar
  rw [f 166 rfl, f 170 rfl]
set_option maxHeartbeats 4000000 in
set_option maxRecDepth 100000 in
theorem m_settledR {l : Launch} {G : tb_G} (hl : l.stackTraces = false) (n : Nat) : ∀ (r9 : Nat) (J : zJ) (t : Int) (hr_t : -2147483648 ≤ t ∧ t < 2147483648) (b r d s m : Int) (hM : MS J b r d s m) (hR : MR (J 165) m) (ht : 0 ≤ t ∧ t < m), ((J 168 (b + t)).toNat) < r9 → tz_Ok l G M_X12_isSettled (12 + 1 * r9) 0 0 [.ref 164, zi t] n J (zqi (fun z J' => (z = 0 ∨ z = 1) ∧ zOf (zbut [174]) J' J)) zN := by
  intro r9
  induction r9 with
  | zero => intro J t hr_t b r d s m hM hR ht hm9; exact absurd hm9 (Nat.not_lt_zero _)
  | succ r9 ih =>
    intro J t hr_t b r d s m hM hR ht hm9
    refine tz_Ok.of hl (by decide +kernel) rfl (tb_c1 rfl) (Nat.le_of_ble_eq_true rfl) ?_
    show tz_At l G M_X12_isSettled (tb_rm (12 + 1 * (r9 + 1)) 0 0) none (tb_ZM G 0 0 (zQ n 0 (zqi (fun z J' => (z = 0 ∨ z = 1) ∧ zOf (zbut [174]) J' J))) (zX n 0 zN)) 0 0 n J 0 [some (.ref 164), some (zi t), none] []
    obtain ⟨hM1, hM2, hM3, hM4, hM5, hM6⟩ := id hM
    have hT := hM.told
    have ha := hM.ar ht
    have hR1 := hR.1
    refine tz_iconst (pc := 0) dX12_isSettled_0 ?_
    refine tz_istore_n (pc := 1) (L2 := [_, _, _]) dX12_isSettled_1 rfl (by decide) rfl ?_
    have loop2 : ∀ (f9 : Nat) (k : Int) (J1 : zJ), ((8 - k).toNat) < f9 → (0 ≤ k ∧ k ≤ 8) → (zOf (zbut [174]) J1 J) → tz_At l G M_X12_isSettled (tb_rm (12 + 1 * (r9 + 1)) 0 0) none (tb_ZM G 0 0 (zQ n 0 (zqi (fun z J' => (z = 0 ∨ z = 1) ∧ zOf (zbut [174]) J' J))) (zX n 0 zN)) 0 0 n J1 2 [some (.ref 164), some (zi t), some (zi k)] [] := by
      intro f9
      induction f9 with
      | zero => intro k J1 hm9; exact absurd hm9 (Nat.not_lt_zero _)
      | succ f9 ih2 =>
        intro k J1 hm2 hk f1
        refine tz_iload_n (pc := 2) dX12_isSettled_2 rfl rfl ?_
        refine tz_aload_n (pc := 3) dX12_isSettled_3 rfl rfl ?_
        refine tz_fR (pc := 4) dX12_isSettled_4 fl_X12_9 r_164_0 ?_
        refine tz_bipush (pc := 7) dX12_isSettled_7 (by decide) ?_
        refine tz_aL (pc := 9) (z := 9) (v := (J 165 9)) dX12_isSettled_9 a_165 rfl (by decide) (Eq.trans (congrFun (f1 165 rfl) 9) rfl) (fun r_9 => ?_)
        refine tz_icmp_ge (pc := 10) (tgt := 40) dX12_isSettled_10 (by decide) (by omega) (by omega) (fun h_10 => ?_) (fun h_10 => ?_)
        · refine tz_iconst (pc := 40) dX12_isSettled_40 ?_
          refine tz_istore_n (pc := 41) (L2 := [_, _, _]) dX12_isSettled_41 rfl (by decide) rfl ?_
          have loop42 : ∀ (f9 : Nat) (i : Int) (J3 : zJ), ((3 - i).toNat) < f9 → (0 ≤ i ∧ i ≤ 3) → (zOf (zbut [174]) J3 J) → tz_At l G M_X12_isSettled (tb_rm (12 + 1 * (r9 + 1)) 0 0) none (tb_ZM G 0 0 (zQ n 0 (zqi (fun z J' => (z = 0 ∨ z = 1) ∧ zOf (zbut [174]) J' J))) (zX n 0 zN)) 0 0 n J3 42 [some (.ref 164), some (zi t), some (zi i)] [] := by
            intro f9
            induction f9 with
            | zero => intro i J3 hm9; exact absurd hm9 (Nat.not_lt_zero _)
            | succ f9 ih42 =>
              intro i J3 hm42 hi f3
              refine tz_iload_n (pc := 42) dX12_isSettled_42 rfl rfl ?_
              refine tz_aload_n (pc := 43) dX12_isSettled_43 rfl rfl ?_
              refine tz_iload_n (pc := 44) dX12_isSettled_44 rfl rfl ?_
              refine tz_cV (pc := 45) (m_arity hl n _ _ (by omega) b r d s m (hM.c1 f3 (by decide)) ht) vl_X12_111 dX12_isSettled_45 o_164 rfl rfl (Nat.le_of_ble_eq_true rfl) ⟨(show 2 + 1 ≤ 12 + 1 * (r9 + 1) by omega), (show 8 + (2 + 11) + 40 * (2) ≤ 40 * (12 + 1 * (r9 + 1)) by omega)⟩ rfl rfl (Nat.le_of_ble_eq_true rfl) (Nat.le_of_ble_eq_true rfl) (fun r9 J_45 hq9 => ?_)
              obtain ⟨za, rfl, hz_45, rfl, hv⟩ := hq9
              rw [mar_c1 (J := J) f3] at hv
              refine tz_icmp_ge (pc := 48) (tgt := 72) dX12_isSettled_48 (by decide) (by omega) (by omega) (fun h_48 => ?_) (fun h_48 => ?_)
              · refine tz_iconst (pc := 72) dX12_isSettled_72 ?_
                exact tz_zret (pc := 73) (z := 1) dX12_isSettled_73 rfl (Or.inr rfl) (Nat.le_of_ble_eq_true rfl) (Nat.le_of_ble_eq_true rfl) ⟨Nat.le_refl _, Nat.le_add_right _ _⟩ ⟨_, rfl, (by decide), ⟨by omega, f3⟩⟩
              · refine tz_aload_n (pc := 51) dX12_isSettled_51 rfl rfl ?_
                refine tz_aload_n (pc := 52) dX12_isSettled_52 rfl rfl ?_
                refine tz_iload_n (pc := 53) dX12_isSettled_53 rfl rfl ?_
                refine tz_iload_n (pc := 54) dX12_isSettled_54 rfl rfl ?_
                have hA := hM.arg (t := t) (i := i) ht (by omega)
                refine tz_cV (pc := 55) (m_arg hl n _ _ _ (by omega) (by omega) b r d s m (hM.c1 f3 (by decide)) ht (by omega)) vl_X12_88 dX12_isSettled_55 o_164 rfl rfl (Nat.le_of_ble_eq_true rfl) ⟨(show 0 + 1 ≤ 12 + 1 * (r9 + 1) by omega), (show 8 + (3 + 11) + 40 * (0) ≤ 40 * (12 + 1 * (r9 + 1)) by omega)⟩ rfl rfl (Nat.le_of_ble_eq_true rfl) (Nat.le_of_ble_eq_true rfl) (fun r9 J_55 hq9 => ?_)
                obtain ⟨zb, rfl, hz_55, rfl, hw⟩ := hq9
                rw [f3 167 rfl] at hw
                refine tz_cV (pc := 58) (ih _ _ (by omega) b r d s m (hM.c1 f3 (by decide)) (by rw [f3 165 rfl]; exact hR) (by omega) (by rw [f3 168 rfl, ← hw]; omega)) vl_X12_230 dX12_isSettled_58 o_164 rfl rfl (Nat.le_of_ble_eq_true rfl) ⟨(show (12 + 1 * r9) + 1 ≤ 12 + 1 * (r9 + 1) by omega), (show 8 + (3 + 11) + 40 * ((12 + 1 * r9)) ≤ 40 * (12 + 1 * (r9 + 1)) by omega)⟩ rfl rfl (Nat.le_of_ble_eq_true rfl) (Nat.le_of_ble_eq_true rfl) (fun r9 J_58 hq9 => ?_)
                obtain ⟨z_58, rfl, hz_58, b4, f4⟩ := hq9
                refine tz_if_ne (pc := 61) (tgt := 66) dX12_isSettled_61 (by decide) (by omega) (fun h_61 => ?_) (fun h_61 => ?_)
                · refine tz_iinc (pc := 66) (z := i + 1) (L2 := [_, _, _]) dX12_isSettled_66 rfl (by omega) rfl ?_
                  refine tz_goto (pc := 69) (tgt := 42) dX12_isSettled_69 (by decide) ?_
                  exact ih42 (i + 1) _ (by omega) (by omega) (f4.tr f3)
                · refine tz_iconst (pc := 64) dX12_isSettled_64 ?_
                  exact tz_zret (pc := 65) (z := 0) dX12_isSettled_65 rfl (Or.inl rfl) (Nat.le_of_ble_eq_true rfl) (Nat.le_of_ble_eq_true rfl) ⟨Nat.le_refl _, Nat.le_add_right _ _⟩ ⟨_, rfl, (by decide), ⟨by omega, f4.tr f3⟩⟩
          exact loop42 _ 0 _ (Nat.lt_succ_self _) (by omega) f1
        · refine tz_aload_n (pc := 13) dX12_isSettled_13 rfl rfl ?_
          refine tz_aload_n (pc := 14) dX12_isSettled_14 rfl rfl ?_
          refine tz_fR (pc := 15) dX12_isSettled_15 fl_X12_9 r_164_0 ?_
          refine tz_bipush (pc := 18) dX12_isSettled_18 (by decide) ?_
          refine tz_iconst (pc := 20) dX12_isSettled_20 ?_
          refine tz_iload_n (pc := 21) dX12_isSettled_21 rfl rfl ?_
          refine tz_imul (pc := 22) (v := 2 * k) dX12_isSettled_22 rfl ?_
          refine tz_iadd (pc := 23) (v := 10 + (2 * k)) dX12_isSettled_23 rfl ?_
          refine tz_aL (pc := 24) (z := (10 + (2 * k))) (v := (J 165 (10 + (2 * k)))) dX12_isSettled_24 a_165 rfl (by omega) (Eq.trans (congrFun (f1 165 rfl) (10 + (2 * k))) rfl) (fun r_24 => ?_)
          refine tz_iload_n (pc := 25) dX12_isSettled_25 rfl rfl ?_
          have hr9 := hR.2 k (by omega) (by omega)
          refine tz_cV (pc := 26) (m_doesMatch hl n _ _ _ (by omega) (by omega) b r d s m (hM.c1 f1 (by decide)) (by omega) ht) vl_X12_227 dX12_isSettled_26 o_164 rfl rfl (Nat.le_of_ble_eq_true rfl) ⟨(show 11 + 1 ≤ 12 + 1 * (r9 + 1) by omega), (show 8 + (4 + 11) + 40 * (11) ≤ 40 * (12 + 1 * (r9 + 1)) by omega)⟩ rfl rfl (Nat.le_of_ble_eq_true rfl) (Nat.le_of_ble_eq_true rfl) (fun r9 J_26 hq9 => ?_)
          obtain ⟨z_26, rfl, hz_26, b2, f2, g2⟩ := hq9
          refine tz_if_eq (pc := 29) (tgt := 34) dX12_isSettled_29 (by decide) (by omega) (fun h_29 => ?_) (fun h_29 => ?_)
          · refine tz_iinc (pc := 34) (z := k + 1) (L2 := [_, _, _]) dX12_isSettled_34 rfl (by omega) rfl ?_
            refine tz_goto (pc := 37) (tgt := 2) dX12_isSettled_37 (by decide) ?_
            exact ih2 (k + 1) _ (by omega) (by omega) (f2.tr f1)
          · refine tz_iconst (pc := 32) dX12_isSettled_32 ?_
            exact tz_zret (pc := 33) (z := 0) dX12_isSettled_33 rfl (Or.inl rfl) (Nat.le_of_ble_eq_true rfl) (Nat.le_of_ble_eq_true rfl) ⟨Nat.le_refl _, Nat.le_add_right _ _⟩ ⟨_, rfl, (by decide), ⟨by omega, f2.tr f1⟩⟩
    exact loop2 _ 0 _ (Nat.lt_succ_self _) (by omega) zOf.rf

theorem m_settled {l : Launch} {G : tb_G} (hl : l.stackTraces = false) (n : Nat) (J : zJ) (t : Int) (hr_t : -2147483648 ≤ t ∧ t < 2147483648) (b r d s m : Int) (hM : MS J b r d s m) (hR : MR (J 165) m) (ht : 0 ≤ t ∧ t < m) : tz_Ok l G M_X12_isSettled 19 0 0 [.ref 164, zi t] n J (zqi (fun z J' => (z = 0 ∨ z = 1) ∧ zOf (zbut [174]) J' J)) zN := m_settledR hl n 7 J t hr_t b r d s m hM hR ht (by have := (hM.ar ht).2.2.1; omega)
set_option maxHeartbeats 4000000 in
set_option maxRecDepth 100000 in
theorem m_entryOf {l : Launch} {G : tb_G} (hl : l.stackTraces = false) (n : Nat) (J : zJ) (t : Int) (hr_t : -2147483648 ≤ t ∧ t < 2147483648)  (h0 : 0 ≤ J 164 16 ∧ J 164 16 ≤ 126) (h1 : 0 ≤ J 165 (J 164 16 + 26) ∧ J 165 (J 164 16 + 26) ≤ 12) : tz_Ok l G M_X12_entryOf 0 0 0 [.ref 164, zi t] n J (zqi (fun z J' => J = J' ∧ (z = -1 ∨ (0 ≤ z ∧ z < J 165 (J 164 16 + 26))))) zN := by
  refine tz_Ok.of hl (by decide +kernel) rfl (tb_c1 rfl) (Nat.le_of_ble_eq_true rfl) ?_
  show tz_At l G M_X12_entryOf (tb_rm 0 0 0) none (tb_ZM G 0 0 (zQ n 0 (zqi (fun z J' => J = J' ∧ (z = -1 ∨ (0 ≤ z ∧ z < J 165 (J 164 16 + 26)))))) (zX n 0 zN)) 0 0 n J 0 [some (.ref 164), some (zi t), none] []
  refine tz_iconst (pc := 0) dX12_entryOf_0 ?_
  refine tz_istore_n (pc := 1) (L2 := [_, _, _]) dX12_entryOf_1 rfl (by decide) rfl ?_
  have loop2 : ∀ (f9 : Nat) (k : Int), ((12 - k).toNat) < f9 → (0 ≤ k ∧ k ≤ 12) → tz_At l G M_X12_entryOf (tb_rm 0 0 0) none (tb_ZM G 0 0 (zQ n 0 (zqi (fun z J' => J = J' ∧ (z = -1 ∨ (0 ≤ z ∧ z < J 165 (J 164 16 + 26)))))) (zX n 0 zN)) 0 0 n J 2 [some (.ref 164), some (zi t), some (zi k)] [] := by
    intro f9
    induction f9 with
    | zero => intro k hm9; exact absurd hm9 (Nat.not_lt_zero _)
    | succ f9 ih2 =>
      intro k hm2 hk
      refine tz_iload_n (pc := 2) dX12_entryOf_2 rfl rfl ?_
      refine tz_aload_n (pc := 3) dX12_entryOf_3 rfl rfl ?_
      refine tz_fR (pc := 4) dX12_entryOf_4 fl_X12_9 r_164_0 ?_
      refine tz_aload_n (pc := 7) dX12_entryOf_7 rfl rfl ?_
      refine tz_fI (pc := 8) (kz := 16) (v := (J 164 16)) dX12_entryOf_8 fl_X12_85 i_164_16 rfl rfl (fun r_8 => ?_)
      refine tz_bipush (pc := 11) dX12_entryOf_11 (by decide) ?_
      refine tz_iadd (pc := 13) (v := (J 164 16) + 26) dX12_entryOf_13 rfl ?_
      refine tz_aL (pc := 14) (z := ((J 164 16) + 26)) (v := (J 165 ((J 164 16) + 26))) dX12_entryOf_14 a_165 rfl (by omega) rfl (fun r_14 => ?_)
      refine tz_icmp_ge (pc := 15) (tgt := 44) dX12_entryOf_15 (by decide) (by omega) (by omega) (fun h_15 => ?_) (fun h_15 => ?_)
      · refine tz_iconst (pc := 44) dX12_entryOf_44 ?_
        exact tz_iret (pc := 45) (z := (-1)) dX12_entryOf_45 rfl (Nat.le_of_ble_eq_true rfl) (Nat.le_of_ble_eq_true rfl) ⟨Nat.le_refl _, Nat.le_add_right _ _⟩ ⟨_, rfl, (by decide), ⟨rfl, by omega⟩⟩
      · refine tz_aload_n (pc := 18) dX12_entryOf_18 rfl rfl ?_
        refine tz_fR (pc := 19) dX12_entryOf_19 fl_X12_9 r_164_0 ?_
        refine tz_aload_n (pc := 22) dX12_entryOf_22 rfl rfl ?_
        refine tz_fI (pc := 23) (kz := 16) (v := (J 164 16)) dX12_entryOf_23 fl_X12_85 i_164_16 rfl rfl (fun r_23 => ?_)
        refine tz_bipush (pc := 26) dX12_entryOf_26 (by decide) ?_
        refine tz_iadd (pc := 28) (v := (J 164 16) + 27) dX12_entryOf_28 rfl ?_
        refine tz_iload_n (pc := 29) dX12_entryOf_29 rfl rfl ?_
        refine tz_iadd (pc := 30) (v := ((J 164 16) + 27) + k) dX12_entryOf_30 rfl ?_
        refine tz_aL (pc := 31) (z := (((J 164 16) + 27) + k)) (v := (J 165 (((J 164 16) + 27) + k))) dX12_entryOf_31 a_165 rfl (by omega) rfl (fun r_31 => ?_)
        refine tz_iload_n (pc := 32) dX12_entryOf_32 rfl rfl ?_
        refine tz_icmp_ne (pc := 33) (tgt := 38) dX12_entryOf_33 (by decide) (by omega) (by omega) (fun h_33 => ?_) (fun h_33 => ?_)
        · refine tz_iinc (pc := 38) (z := k + 1) (L2 := [_, _, _]) dX12_entryOf_38 rfl (by omega) rfl ?_
          refine tz_goto (pc := 41) (tgt := 2) dX12_entryOf_41 (by decide) ?_
          exact ih2 (k + 1) (by omega) (by omega)
        · refine tz_iload_n (pc := 36) dX12_entryOf_36 rfl rfl ?_
          exact tz_iret (pc := 37) (z := k) dX12_entryOf_37 rfl (Nat.le_of_ble_eq_true rfl) (Nat.le_of_ble_eq_true rfl) ⟨Nat.le_refl _, Nat.le_add_right _ _⟩ ⟨_, rfl, (by omega), ⟨rfl, by omega⟩⟩
  exact loop2 _ 0 (Nat.lt_succ_self _) (by omega)

set_option maxHeartbeats 4000000 in
set_option maxRecDepth 100000 in
theorem m_uses {l : Launch} {G : tb_G} (hl : l.stackTraces = false) (n : Nat) (J : zJ) (t : Int) (hr_t : -2147483648 ≤ t ∧ t < 2147483648) (b r d s m : Int) (hM : MS J b r d s m)  : tz_Ok l G M_X12_usesOf 3 0 0 [.ref 164, zi t] n J (zqi (fun z J' => J = J' ∧ 0 ≤ z)) zN := by
  refine tz_Ok.of hl (by decide +kernel) rfl (tb_c1 rfl) (Nat.le_of_ble_eq_true rfl) ?_
  show tz_At l G M_X12_usesOf (tb_rm 3 0 0) none (tb_ZM G 0 0 (zQ n 0 (zqi (fun z J' => J = J' ∧ 0 ≤ z))) (zX n 0 zN)) 0 0 n J 0 [some (.ref 164), some (zi t), none, none, none, none] []
  obtain ⟨hM1, hM2, hM3, hM4, hM5, hM6⟩ := id hM
  have hT := hM.told
  refine tz_iconst (pc := 0) dX12_usesOf_0 ?_
  refine tz_istore_n (pc := 1) (L2 := [_, _, _, _, _, _]) dX12_usesOf_1 rfl (by decide) rfl ?_
  refine tz_iconst (pc := 2) dX12_usesOf_2 ?_
  refine tz_istore_n (pc := 3) (L2 := [_, _, _, _, _, _]) dX12_usesOf_3 rfl (by decide) rfl ?_
  have loop4 : ∀ (f9 : Nat) (q : Int) (k : Int) (d4 : Option Value) (d5 : Option Value), ((m - k).toNat) < f9 → (0 ≤ q ∧ q ≤ k) → (0 ≤ k ∧ k ≤ m) → tz_At l G M_X12_usesOf (tb_rm 3 0 0) none (tb_ZM G 0 0 (zQ n 0 (zqi (fun z J' => J = J' ∧ 0 ≤ z))) (zX n 0 zN)) 0 0 n J 4 [some (.ref 164), some (zi t), some (zi q), some (zi k), d4, d5] [] := by
    intro f9
    induction f9 with
    | zero => intro q k d4 d5 hm9; exact absurd hm9 (Nat.not_lt_zero _)
    | succ f9 ih4 =>
      intro q k d4 d5 hm4 hq hk
      refine tz_iload_n (pc := 4) dX12_usesOf_4 rfl rfl ?_
      refine tz_aload_n (pc := 5) dX12_usesOf_5 rfl rfl ?_
      refine tz_cV (pc := 6) (m_many hl n _ b r d s m hM) vl_X12_96 dX12_usesOf_6 o_164 rfl rfl (Nat.le_of_ble_eq_true rfl) ⟨(Nat.le_of_ble_eq_true rfl), (Nat.le_of_ble_eq_true rfl)⟩ rfl rfl (Nat.le_of_ble_eq_true rfl) (Nat.le_of_ble_eq_true rfl) (fun r9 J_6 hq9 => ?_)
      obtain ⟨z_6, rfl, hz_6, rfl, rfl⟩ := hq9
      refine tz_icmp_ge (pc := 9) (tgt := 76) dX12_usesOf_9 (by decide) (by omega) (by omega) (fun h_9 => ?_) (fun h_9 => ?_)
      · refine tz_iload_n (pc := 76) dX12_usesOf_76 rfl rfl ?_
        exact tz_iret (pc := 77) (z := q) dX12_usesOf_77 rfl (Nat.le_of_ble_eq_true rfl) (Nat.le_of_ble_eq_true rfl) ⟨Nat.le_refl _, Nat.le_add_right _ _⟩ ⟨_, rfl, (by omega), ⟨rfl, by omega⟩⟩
      · refine tz_iconst (pc := 12) dX12_usesOf_12 ?_
        refine tz_istore (pc := 13) (L2 := [_, _, _, _, _, _]) dX12_usesOf_13 (by decide) rfl ?_
        refine tz_iconst (pc := 15) dX12_usesOf_15 ?_
        refine tz_istore (pc := 16) (L2 := [_, _, _, _, _, _]) dX12_usesOf_16 (by decide) rfl ?_
        have loop18 : ∀ (f9 : Nat) (e : Int) (i : Int), ((3 - i).toNat) < f9 → (e = 0 ∨ e = 1) → (0 ≤ i ∧ i ≤ 3) → tz_At l G M_X12_usesOf (tb_rm 3 0 0) none (tb_ZM G 0 0 (zQ n 0 (zqi (fun z J' => J = J' ∧ 0 ≤ z))) (zX n 0 zN)) 0 0 n J 18 [some (.ref 164), some (zi t), some (zi q), some (zi k), some (zi e), some (zi i)] [] := by
          intro f9
          induction f9 with
          | zero => intro e i hm9; exact absurd hm9 (Nat.not_lt_zero _)
          | succ f9 ih18 =>
            intro e i hm18 he hi
            have ha9 := hM.ar (t := k) (by omega)
            refine tz_iload (pc := 18) dX12_usesOf_18 rfl ?_
            refine tz_aload_n (pc := 20) dX12_usesOf_20 rfl rfl ?_
            refine tz_iload_n (pc := 21) dX12_usesOf_21 rfl rfl ?_
            refine tz_cV (pc := 22) (m_arity hl n _ _ (by omega) b r d s m hM (by omega)) vl_X12_111 dX12_usesOf_22 o_164 rfl rfl (Nat.le_of_ble_eq_true rfl) ⟨(Nat.le_of_ble_eq_true rfl), (Nat.le_of_ble_eq_true rfl)⟩ rfl rfl (Nat.le_of_ble_eq_true rfl) (Nat.le_of_ble_eq_true rfl) (fun r9 J_22 hq9 => ?_)
            obtain ⟨z_22, rfl, hz_22, rfl, rfl⟩ := hq9
            refine tz_icmp_ge (pc := 25) (tgt := 57) dX12_usesOf_25 (by decide) (by omega) (by omega) (fun h_25 => ?_) (fun h_25 => ?_)
            · refine tz_iload_n (pc := 57) dX12_usesOf_57 rfl rfl ?_
              refine tz_iload (pc := 58) dX12_usesOf_58 rfl ?_
              refine tz_if_eq (pc := 60) (tgt := 67) dX12_usesOf_60 (by decide) (by omega) (fun h_60 => ?_) (fun h_60 => ?_)
              · refine tz_iconst (pc := 67) dX12_usesOf_67 ?_
                refine tz_iadd (pc := 68) (v := q + 0) dX12_usesOf_68 rfl ?_
                refine tz_istore_n (pc := 69) (L2 := [_, _, _, _, _, _]) dX12_usesOf_69 rfl (by decide) rfl ?_
                refine tz_iinc (pc := 70) (z := k + 1) (L2 := [_, _, _, _, _, _]) dX12_usesOf_70 rfl (by omega) rfl ?_
                refine tz_goto (pc := 73) (tgt := 4) dX12_usesOf_73 (by decide) ?_
                exact ih4 _ (k + 1) _ _ (by omega) (by omega) (by omega)
              · refine tz_iconst (pc := 63) dX12_usesOf_63 ?_
                refine tz_goto (pc := 64) (tgt := 68) dX12_usesOf_64 (by decide) ?_
                refine tz_iadd (pc := 68) (v := q + 1) dX12_usesOf_68 rfl ?_
                refine tz_istore_n (pc := 69) (L2 := [_, _, _, _, _, _]) dX12_usesOf_69 rfl (by decide) rfl ?_
                refine tz_iinc (pc := 70) (z := k + 1) (L2 := [_, _, _, _, _, _]) dX12_usesOf_70 rfl (by omega) rfl ?_
                refine tz_goto (pc := 73) (tgt := 4) dX12_usesOf_73 (by decide) ?_
                exact ih4 _ (k + 1) _ _ (by omega) (by omega) (by omega)
            · refine tz_iload (pc := 28) dX12_usesOf_28 rfl ?_
              refine tz_if_ne (pc := 30) (tgt := 44) dX12_usesOf_30 (by decide) (by omega) (fun h_30 => ?_) (fun h_30 => ?_)
              · refine tz_iconst (pc := 44) dX12_usesOf_44 ?_
                refine tz_goto (pc := 45) (tgt := 49) dX12_usesOf_45 (by decide) ?_
                refine tz_istore (pc := 49) (L2 := [_, _, _, _, _, _]) dX12_usesOf_49 (by decide) rfl ?_
                refine tz_iinc (pc := 51) (z := i + 1) (L2 := [_, _, _, _, _, _]) dX12_usesOf_51 rfl (by omega) rfl ?_
                refine tz_goto (pc := 54) (tgt := 18) dX12_usesOf_54 (by decide) ?_
                exact ih18 _ (i + 1) (by omega) (by omega) (by omega)
              · refine tz_aload_n (pc := 33) dX12_usesOf_33 rfl rfl ?_
                refine tz_iload_n (pc := 34) dX12_usesOf_34 rfl rfl ?_
                refine tz_iload (pc := 35) dX12_usesOf_35 rfl ?_
                refine tz_cV (pc := 37) (m_arg hl n _ _ _ (by omega) (by omega) b r d s m hM (by omega) (by omega)) vl_X12_88 dX12_usesOf_37 o_164 rfl rfl (Nat.le_of_ble_eq_true rfl) ⟨(Nat.le_of_ble_eq_true rfl), (Nat.le_of_ble_eq_true rfl)⟩ rfl rfl (Nat.le_of_ble_eq_true rfl) (Nat.le_of_ble_eq_true rfl) (fun r9 J_37 hq9 => ?_)
                obtain ⟨z_37, rfl, hz_37, rfl, rfl⟩ := hq9
                refine tz_iload_n (pc := 40) dX12_usesOf_40 rfl rfl ?_
                refine tz_icmp_ne (pc := 41) (tgt := 48) dX12_usesOf_41 (by decide) (by omega) (by omega) (fun h_41 => ?_) (fun h_41 => ?_)
                · refine tz_iconst (pc := 48) dX12_usesOf_48 ?_
                  refine tz_istore (pc := 49) (L2 := [_, _, _, _, _, _]) dX12_usesOf_49 (by decide) rfl ?_
                  refine tz_iinc (pc := 51) (z := i + 1) (L2 := [_, _, _, _, _, _]) dX12_usesOf_51 rfl (by omega) rfl ?_
                  refine tz_goto (pc := 54) (tgt := 18) dX12_usesOf_54 (by decide) ?_
                  exact ih18 _ (i + 1) (by omega) (by omega) (by omega)
                · refine tz_iconst (pc := 44) dX12_usesOf_44 ?_
                  refine tz_goto (pc := 45) (tgt := 49) dX12_usesOf_45 (by decide) ?_
                  refine tz_istore (pc := 49) (L2 := [_, _, _, _, _, _]) dX12_usesOf_49 (by decide) rfl ?_
                  refine tz_iinc (pc := 51) (z := i + 1) (L2 := [_, _, _, _, _, _]) dX12_usesOf_51 rfl (by omega) rfl ?_
                  refine tz_goto (pc := 54) (tgt := 18) dX12_usesOf_54 (by decide) ?_
                  exact ih18 _ (i + 1) (by omega) (by omega) (by omega)
        exact loop18 _ 0 0 (Nat.lt_succ_self _) (by omega) (by omega)
  exact loop4 _ 0 0 none none (Nat.lt_succ_self _) (by omega) (by omega)

end
section
theorem f171_up {J1 J : zJ} {x v : Int} (f : zOf (zbut [171]) J1 J ∧ ∀ k, ¬ k = x → J1 171 k = J 171 k) : zOf (zbut [171]) (zup J1 171 x v) J ∧ ∀ k, ¬ k = x → zup J1 171 x v 171 k = J 171 k := ⟨zOf.up rfl f.1, fun k hk => (zup_ne hk).trans (f.2 k hk)⟩
theorem f171_end {J1 J : zJ} {x : Int} (f : zOf (zbut [171]) J1 J ∧ ∀ k, ¬ k = x → J1 171 k = J 171 k) : J = zup J1 171 x (J 171 x) := by
  funext c
  by_cases e : c = 171
  · subst e
    funext k
    by_cases ek : k = x
    · subst ek
      exact zup_at.symm
    · rw [zup_ne ek]
      exact (f.2 k ek).symm
  · rw [zup_nc e]
    exact (f.1 c (by simp [zbut, e])).symm
set_option maxHeartbeats 4000000 in
set_option maxRecDepth 100000 in
theorem m_fits {l : Launch} {G : tb_G} (hl : l.stackTraces = false) (n : Nat) (J : zJ) (x : Int) (y : Int) (hr_x : -2147483648 ≤ x ∧ x < 2147483648) (hr_y : -2147483648 ≤ y ∧ y < 2147483648) (b r d s m : Int) (hM : MS J b r d s m) (hR : MR (J 165) m) (hx : 0 ≤ x ∧ x < 20) : tz_Ok l G M_X12_fits 20 0 0 [.ref 164, zi x, zi y] n J (zqi (fun z J' => J = J')) zN := by
  refine tz_Ok.of hl (by decide +kernel) rfl (tb_c1 rfl) (Nat.le_of_ble_eq_true rfl) ?_
  show tz_At l G M_X12_fits (tb_rm 20 0 0) none (tb_ZM G 0 0 (zQ n 0 (zqi (fun z J' => J = J'))) (zX n 0 zN)) 0 0 n J 0 [some (.ref 164), some (zi x), some (zi y), none, none, none, none, none, none] []
  obtain ⟨hM1, hM2, hM3, hM4, hM5, hM6⟩ := id hM
  have hT := hM.told
  have hR1 := hR.1
  refine tz_aload_n (pc := 0) dX12_fits_0 rfl rfl ?_
  refine tz_fR (pc := 1) dX12_fits_1 fl_X12_28 r_164_6 ?_
  refine tz_iload_n (pc := 4) dX12_fits_4 rfl rfl ?_
  refine tz_aL (pc := 5) (z := x) (v := (J 171 x)) dX12_fits_5 a_171 rfl (by omega) rfl (fun r_5 => ?_)
  refine tz_istore_n (pc := 6) (L2 := [_, _, _, _, _, _, _, _, _]) dX12_fits_6 rfl (by decide) rfl ?_
  refine tz_iconst (pc := 7) dX12_fits_7 ?_
  refine tz_istore (pc := 8) (L2 := [_, _, _, _, _, _, _, _, _]) dX12_fits_8 (by decide) rfl ?_
  refine tz_iconst (pc := 10) dX12_fits_10 ?_
  refine tz_istore (pc := 11) (L2 := [_, _, _, _, _, _, _, _, _]) dX12_fits_11 (by decide) rfl ?_
  refine tz_iconst (pc := 13) dX12_fits_13 ?_
  refine tz_istore (pc := 14) (L2 := [_, _, _, _, _, _, _, _, _]) dX12_fits_14 (by decide) rfl ?_
  have loop16 : ∀ (f9 : Nat) (q : Int) (e : Int) (w : Int) (d7 : Option Value) (d8 : Option Value) (J1 : zJ), ((10 - w).toNat) < f9 → (0 ≤ q ∧ q ≤ w) → (-1 ≤ e ∧ e ≤ 9) → (1 ≤ w ∧ w ≤ 10) → (zOf (zbut [171]) J1 J ∧ ∀ k, ¬ k = x → J1 171 k = J 171 k) → tz_At l G M_X12_fits (tb_rm 20 0 0) none (tb_ZM G 0 0 (zQ n 0 (zqi (fun z J' => J = J'))) (zX n 0 zN)) 0 0 n J1 16 [some (.ref 164), some (zi x), some (zi y), some (zi (J 171 x)), some (zi q), some (zi e), some (zi w), d7, d8] [] := by
    intro f9
    induction f9 with
    | zero => intro q e w d7 d8 J1 hm9; exact absurd hm9 (Nat.not_lt_zero _)
    | succ f9 ih16 =>
      intro q e w d7 d8 J1 hm16 hq he hw f1
      refine tz_iload (pc := 16) dX12_fits_16 rfl ?_
      refine tz_bipush (pc := 18) dX12_fits_18 (by decide) ?_
      refine tz_icmp_gt (pc := 20) (tgt := 118) dX12_fits_20 (by decide) (by omega) (by decide) (fun h_20 => ?_) (fun h_20 => ?_)
      · refine tz_aload_n (pc := 118) dX12_fits_118 rfl rfl ?_
        refine tz_fR (pc := 119) dX12_fits_119 fl_X12_28 r_164_6 ?_
        refine tz_iload_n (pc := 122) dX12_fits_122 rfl rfl ?_
        refine tz_iload_n (pc := 123) dX12_fits_123 rfl rfl ?_
        refine tz_aS (pc := 124) (z := x) dX12_fits_124 a_171 rfl (by omega) (by omega) ?_
        refine tz_iload_n (pc := 125) dX12_fits_125 rfl rfl ?_
        refine tz_if_eq (pc := 126) (tgt := 134) dX12_fits_126 (by decide) (by omega) (fun h_126 => ?_) (fun h_126 => ?_)
        · refine tz_iload (pc := 134) dX12_fits_134 rfl ?_
          exact tz_iret (pc := 136) (z := q) dX12_fits_136 rfl (Nat.le_of_ble_eq_true rfl) (Nat.le_of_ble_eq_true rfl) ⟨Nat.le_refl _, Nat.le_add_right _ _⟩ ⟨_, rfl, (by omega), (f171_end f1)⟩
        · refine tz_iload (pc := 129) dX12_fits_129 rfl ?_
          refine tz_goto (pc := 131) (tgt := 136) dX12_fits_131 (by decide) ?_
          exact tz_iret (pc := 136) (z := e) dX12_fits_136 rfl (Nat.le_of_ble_eq_true rfl) (Nat.le_of_ble_eq_true rfl) ⟨Nat.le_refl _, Nat.le_add_right _ _⟩ ⟨_, rfl, (by omega), (f171_end f1)⟩
      · refine tz_aload_n (pc := 23) dX12_fits_23 rfl rfl ?_
        refine tz_fR (pc := 24) dX12_fits_24 fl_X12_28 r_164_6 ?_
        refine tz_iload_n (pc := 27) dX12_fits_27 rfl rfl ?_
        refine tz_iload (pc := 28) dX12_fits_28 rfl ?_
        refine tz_aS (pc := 30) (z := x) dX12_fits_30 a_171 rfl (by omega) (by omega) ?_
        refine tz_iconst (pc := 31) dX12_fits_31 ?_
        refine tz_istore (pc := 32) (L2 := [_, _, _, _, _, _, _, _, _]) dX12_fits_32 (by decide) rfl ?_
        refine tz_iconst (pc := 34) dX12_fits_34 ?_
        refine tz_istore (pc := 35) (L2 := [_, _, _, _, _, _, _, _, _]) dX12_fits_35 (by decide) rfl ?_
        have loop37 : ∀ (f9 : Nat) (g : Int) (k : Int), ((8 - k).toNat) < f9 → (g = 0 ∨ g = 1) → (0 ≤ k ∧ k ≤ 8) → tz_At l G M_X12_fits (tb_rm 20 0 0) none (tb_ZM G 0 0 (zQ n 0 (zqi (fun z J' => J = J'))) (zX n 0 zN)) 0 0 n (zup J1 171 x w) 37 [some (.ref 164), some (zi x), some (zi y), some (zi (J 171 x)), some (zi q), some (zi e), some (zi w), some (zi g), some (zi k)] [] := by
          intro f9
          induction f9 with
          | zero => intro g k hm9; exact absurd hm9 (Nat.not_lt_zero _)
          | succ f9 ih37 =>
            intro g k hm37 hg hk
            refine tz_iload (pc := 37) dX12_fits_37 rfl ?_
            refine tz_aload_n (pc := 39) dX12_fits_39 rfl rfl ?_
            refine tz_fR (pc := 40) dX12_fits_40 fl_X12_9 r_164_0 ?_
            refine tz_bipush (pc := 43) dX12_fits_43 (by decide) ?_
            refine tz_aL (pc := 45) (z := 9) (v := (J 165 9)) dX12_fits_45 a_165 rfl (by decide) (Eq.trans (congrFun (f1.1 165 rfl) 9) rfl) (fun r_45 => ?_)
            refine tz_icmp_ge (pc := 46) (tgt := 92) dX12_fits_46 (by decide) (by omega) (by omega) (fun h_46 => ?_) (fun h_46 => ?_)
            · refine tz_iload (pc := 92) dX12_fits_92 rfl ?_
              refine tz_if_ne (pc := 94) (tgt := 100) dX12_fits_94 (by decide) (by omega) (fun h_94 => ?_) (fun h_94 => ?_)
              · refine tz_iload (pc := 100) dX12_fits_100 rfl ?_
                refine tz_if_ne (pc := 102) (tgt := 109) dX12_fits_102 (by decide) (by omega) (fun h_102 => ?_) (fun h_102 => ?_)
                · refine tz_iinc (pc := 109) (z := q + 1) (L2 := [_, _, _, _, _, _, _, _, _]) dX12_fits_109 rfl (by omega) rfl ?_
                  refine tz_iinc (pc := 112) (z := w + 1) (L2 := [_, _, _, _, _, _, _, _, _]) dX12_fits_112 rfl (by omega) rfl ?_
                  refine tz_goto (pc := 115) (tgt := 16) dX12_fits_115 (by decide) ?_
                  exact ih16 _ _ (w + 1) _ _ _ (by omega) (by omega) (by omega) (by omega) (f171_up f1)
                · refine tz_iload (pc := 105) dX12_fits_105 rfl ?_
                  refine tz_istore (pc := 107) (L2 := [_, _, _, _, _, _, _, _, _]) dX12_fits_107 (by decide) rfl ?_
                  refine tz_iinc (pc := 109) (z := q + 1) (L2 := [_, _, _, _, _, _, _, _, _]) dX12_fits_109 rfl (by omega) rfl ?_
                  refine tz_iinc (pc := 112) (z := w + 1) (L2 := [_, _, _, _, _, _, _, _, _]) dX12_fits_112 rfl (by omega) rfl ?_
                  refine tz_goto (pc := 115) (tgt := 16) dX12_fits_115 (by decide) ?_
                  exact ih16 _ _ (w + 1) _ _ _ (by omega) (by omega) (by omega) (by omega) (f171_up f1)
              · refine tz_goto (pc := 97) (tgt := 112) dX12_fits_97 (by decide) ?_
                refine tz_iinc (pc := 112) (z := w + 1) (L2 := [_, _, _, _, _, _, _, _, _]) dX12_fits_112 rfl (by omega) rfl ?_
                refine tz_goto (pc := 115) (tgt := 16) dX12_fits_115 (by decide) ?_
                exact ih16 _ _ (w + 1) _ _ _ (by omega) (by omega) (by omega) (by omega) (f171_up f1)
            · refine tz_iload (pc := 49) dX12_fits_49 rfl ?_
              refine tz_if_eq (pc := 51) (tgt := 92) dX12_fits_51 (by decide) (by omega) (fun h_51 => ?_) (fun h_51 => ?_)
              · refine tz_iload (pc := 92) dX12_fits_92 rfl ?_
                refine tz_if_ne (pc := 94) (tgt := 100) dX12_fits_94 (by decide) (by omega) (fun h_94 => ?_) (fun h_94 => ?_)
                · refine tz_iload (pc := 100) dX12_fits_100 rfl ?_
                  refine tz_if_ne (pc := 102) (tgt := 109) dX12_fits_102 (by decide) (by omega) (fun h_102 => ?_) (fun h_102 => ?_)
                  · refine tz_iinc (pc := 109) (z := q + 1) (L2 := [_, _, _, _, _, _, _, _, _]) dX12_fits_109 rfl (by omega) rfl ?_
                    refine tz_iinc (pc := 112) (z := w + 1) (L2 := [_, _, _, _, _, _, _, _, _]) dX12_fits_112 rfl (by omega) rfl ?_
                    refine tz_goto (pc := 115) (tgt := 16) dX12_fits_115 (by decide) ?_
                    exact ih16 _ _ (w + 1) _ _ _ (by omega) (by omega) (by omega) (by omega) (f171_up f1)
                  · refine tz_iload (pc := 105) dX12_fits_105 rfl ?_
                    refine tz_istore (pc := 107) (L2 := [_, _, _, _, _, _, _, _, _]) dX12_fits_107 (by decide) rfl ?_
                    refine tz_iinc (pc := 109) (z := q + 1) (L2 := [_, _, _, _, _, _, _, _, _]) dX12_fits_109 rfl (by omega) rfl ?_
                    refine tz_iinc (pc := 112) (z := w + 1) (L2 := [_, _, _, _, _, _, _, _, _]) dX12_fits_112 rfl (by omega) rfl ?_
                    refine tz_goto (pc := 115) (tgt := 16) dX12_fits_115 (by decide) ?_
                    exact ih16 _ _ (w + 1) _ _ _ (by omega) (by omega) (by omega) (by omega) (f171_up f1)
                · refine tz_goto (pc := 97) (tgt := 112) dX12_fits_97 (by decide) ?_
                  refine tz_iinc (pc := 112) (z := w + 1) (L2 := [_, _, _, _, _, _, _, _, _]) dX12_fits_112 rfl (by omega) rfl ?_
                  refine tz_goto (pc := 115) (tgt := 16) dX12_fits_115 (by decide) ?_
                  exact ih16 _ _ (w + 1) _ _ _ (by omega) (by omega) (by omega) (by omega) (f171_up f1)
              · refine tz_aload_n (pc := 54) dX12_fits_54 rfl rfl ?_
                refine tz_aload_n (pc := 55) dX12_fits_55 rfl rfl ?_
                refine tz_fR (pc := 56) dX12_fits_56 fl_X12_9 r_164_0 ?_
                refine tz_bipush (pc := 59) dX12_fits_59 (by decide) ?_
                refine tz_iconst (pc := 61) dX12_fits_61 ?_
                refine tz_iload (pc := 62) dX12_fits_62 rfl ?_
                refine tz_imul (pc := 64) (v := 2 * k) dX12_fits_64 rfl ?_
                refine tz_iadd (pc := 65) (v := 10 + (2 * k)) dX12_fits_65 rfl ?_
                refine tz_aL (pc := 66) (z := (10 + (2 * k))) (v := (J 165 (10 + (2 * k)))) dX12_fits_66 a_165 rfl (by omega) (Eq.trans (congrFun (f1.1 165 rfl) (10 + (2 * k))) rfl) (fun r_66 => ?_)
                refine tz_aload_n (pc := 67) dX12_fits_67 rfl rfl ?_
                refine tz_fR (pc := 68) dX12_fits_68 fl_X12_9 r_164_0 ?_
                refine tz_bipush (pc := 71) dX12_fits_71 (by decide) ?_
                refine tz_iconst (pc := 73) dX12_fits_73 ?_
                refine tz_iload (pc := 74) dX12_fits_74 rfl ?_
                refine tz_imul (pc := 76) (v := 2 * k) dX12_fits_76 rfl ?_
                refine tz_iadd (pc := 77) (v := 10 + (2 * k)) dX12_fits_77 rfl ?_
                refine tz_iconst (pc := 78) dX12_fits_78 ?_
                refine tz_iadd (pc := 79) (v := (10 + (2 * k)) + 1) dX12_fits_79 rfl ?_
                refine tz_aL (pc := 80) (z := ((10 + (2 * k)) + 1)) (v := (J 165 ((10 + (2 * k)) + 1))) dX12_fits_80 a_165 rfl (by omega) (Eq.trans (congrFun (f1.1 165 rfl) ((10 + (2 * k)) + 1)) rfl) (fun r_80 => ?_)
                have hr9 := hR.2 k (by omega) (by omega)
                refine tz_cV (pc := 81) (m_greater hl n _ _ _ (by omega) (by omega) b r d s m (hM.c1 (f171_up (v := w) f1).1 (by decide)) (by omega) (by omega)) vl_X12_142 dX12_fits_81 o_164 rfl rfl (Nat.le_of_ble_eq_true rfl) ⟨(Nat.le_of_ble_eq_true rfl), (Nat.le_of_ble_eq_true rfl)⟩ rfl rfl (Nat.le_of_ble_eq_true rfl) (Nat.le_of_ble_eq_true rfl) (fun r9 J_81 hq9 => ?_)
                obtain ⟨z_81, rfl, hz_81, rfl, b2⟩ := hq9
                refine tz_istore (pc := 84) (L2 := [_, _, _, _, _, _, _, _, _]) dX12_fits_84 (by decide) rfl ?_
                refine tz_iinc (pc := 86) (z := k + 1) (L2 := [_, _, _, _, _, _, _, _, _]) dX12_fits_86 rfl (by omega) rfl ?_
                refine tz_goto (pc := 89) (tgt := 37) dX12_fits_89 (by decide) ?_
                exact ih37 _ (k + 1) (by omega) (by omega) (by omega)
        exact loop37 _ 1 0 (Nat.lt_succ_self _) (by omega) (by omega)
  exact loop16 _ 0 (-1) 1 none none _ (Nat.lt_succ_self _) (by omega) (by omega) (by omega) ⟨zOf.rf, fun _ _ => rfl⟩

theorem mmsz_cl {J' J : zJ} {b d t : Int} (f : zOf (zbut [164, 177, 178, 179, 180]) J' J) : msz J' b d t = msz J b d t := by
  have e : mar J' b d = mar J b d := funext fun t => mar_cl f
  unfold msz
  rw [e, show mag J' b = mag J b by unfold mag; rw [f 167 rfl]]
set_option maxHeartbeats 4000000 in
set_option maxRecDepth 100000 in
theorem m_meet {l : Launch} {G : tb_G} (hl : l.stackTraces = false) (n : Nat) (J : zJ) (x : Int) (hr_x : -2147483648 ≤ x ∧ x < 2147483648) (b r d s m : Int) (hM : MS J b r d s m) (hR : MR (J 165) m) : tz_Ok l G M_X12_meetings 809 0 0 [.ref 164, zi x] n J (zqi (fun z J' => zOf (zbut [164, 177, 178, 179, 180]) J' J ∧ ∀ k, ¬ k = 30 → J' 164 k = J 164 k)) zN := by
  refine tz_Ok.of hl (by decide +kernel) rfl (tb_c1 rfl) (Nat.le_of_ble_eq_true rfl) ?_
  show tz_At l G M_X12_meetings (tb_rm 809 0 0) none (tb_ZM G 0 0 (zQ n 0 (zqi (fun z J' => zOf (zbut [164, 177, 178, 179, 180]) J' J ∧ ∀ k, ¬ k = 30 → J' 164 k = J 164 k))) (zX n 0 zN)) 0 0 n J 0 [some (.ref 164), some (zi x), none, none, none, none, none, none] []
  obtain ⟨hM1, hM2, hM3, hM4, hM5, hM6⟩ := id hM
  have hT := hM.told
  have hR1 := hR.1
  refine tz_iconst (pc := 0) dX12_meetings_0 ?_
  refine tz_istore_n (pc := 1) (L2 := [_, _, _, _, _, _, _, _]) dX12_meetings_1 rfl (by decide) rfl ?_
  refine tz_iconst (pc := 2) dX12_meetings_2 ?_
  refine tz_istore_n (pc := 3) (L2 := [_, _, _, _, _, _, _, _]) dX12_meetings_3 rfl (by decide) rfl ?_
  have loop4 : ∀ (f9 : Nat) (q : Int) (k : Int) (d4 : Option Value) (d5 : Option Value) (d6 : Option Value) (d7 : Option Value) (J1 : zJ), ((8 - k).toNat) < f9 → (0 ≤ q ∧ q ≤ 2912 * k) → (0 ≤ k ∧ k ≤ 8) → (zOf (zbut [164, 177, 178, 179, 180]) J1 J ∧ ∀ k, ¬ k = 30 → J1 164 k = J 164 k) → tz_At l G M_X12_meetings (tb_rm 809 0 0) none (tb_ZM G 0 0 (zQ n 0 (zqi (fun z J' => zOf (zbut [164, 177, 178, 179, 180]) J' J ∧ ∀ k, ¬ k = 30 → J' 164 k = J 164 k))) (zX n 0 zN)) 0 0 n J1 4 [some (.ref 164), some (zi x), some (zi q), some (zi k), d4, d5, d6, d7] [] := by
    intro f9
    induction f9 with
    | zero => intro q k d4 d5 d6 d7 J1 hm9; exact absurd hm9 (Nat.not_lt_zero _)
    | succ f9 ih4 =>
      intro q k d4 d5 d6 d7 J1 hm4 hq hk f1
      refine tz_iload_n (pc := 4) dX12_meetings_4 rfl rfl ?_
      refine tz_aload_n (pc := 5) dX12_meetings_5 rfl rfl ?_
      refine tz_fR (pc := 6) dX12_meetings_6 fl_X12_9 r_164_0 ?_
      refine tz_bipush (pc := 9) dX12_meetings_9 (by decide) ?_
      refine tz_aL (pc := 11) (z := 9) (v := (J 165 9)) dX12_meetings_11 a_165 rfl (by decide) (Eq.trans (congrFun (f1.1 165 rfl) 9) rfl) (fun r_11 => ?_)
      refine tz_icmp_ge (pc := 12) (tgt := 151) dX12_meetings_12 (by decide) (by omega) (by omega) (fun h_12 => ?_) (fun h_12 => ?_)
      · refine tz_iload_n (pc := 151) dX12_meetings_151 rfl rfl ?_
        refine tz_if_eq (pc := 152) (tgt := 159) dX12_meetings_152 (by decide) (by omega) (fun h_152 => ?_) (fun h_152 => ?_)
        · refine tz_iload_n (pc := 159) dX12_meetings_159 rfl rfl ?_
          exact tz_iret (pc := 160) (z := q) dX12_meetings_160 rfl (Nat.le_of_ble_eq_true rfl) (Nat.le_of_ble_eq_true rfl) ⟨Nat.le_refl _, Nat.le_add_right _ _⟩ ⟨_, rfl, (by omega), f1⟩
        · refine tz_iconst (pc := 155) dX12_meetings_155 ?_
          refine tz_goto (pc := 156) (tgt := 160) dX12_meetings_156 (by decide) ?_
          exact tz_iret (pc := 160) (z := (-1)) dX12_meetings_160 rfl (Nat.le_of_ble_eq_true rfl) (Nat.le_of_ble_eq_true rfl) ⟨Nat.le_refl _, Nat.le_add_right _ _⟩ ⟨_, rfl, (by decide), f1⟩
      · refine tz_aload_n (pc := 15) dX12_meetings_15 rfl rfl ?_
        refine tz_fR (pc := 16) dX12_meetings_16 fl_X12_9 r_164_0 ?_
        refine tz_bipush (pc := 19) dX12_meetings_19 (by decide) ?_
        refine tz_iconst (pc := 21) dX12_meetings_21 ?_
        refine tz_iload_n (pc := 22) dX12_meetings_22 rfl rfl ?_
        refine tz_imul (pc := 23) (v := 2 * k) dX12_meetings_23 rfl ?_
        refine tz_iadd (pc := 24) (v := 10 + (2 * k)) dX12_meetings_24 rfl ?_
        refine tz_aL (pc := 25) (z := (10 + (2 * k))) (v := (J 165 (10 + (2 * k)))) dX12_meetings_25 a_165 rfl (by omega) (Eq.trans (congrFun (f1.1 165 rfl) (10 + (2 * k))) rfl) (fun r_25 => ?_)
        have hA := hR.2 k (by omega) (by omega)
        refine tz_istore (pc := 26) (L2 := [_, _, _, _, _, _, _, _]) dX12_meetings_26 (by decide) rfl ?_
        refine tz_iconst (pc := 28) dX12_meetings_28 ?_
        refine tz_istore (pc := 29) (L2 := [_, _, _, _, _, _, _, _]) dX12_meetings_29 (by decide) rfl ?_
        have loop31 : ∀ (f9 : Nat) (q2 : Int) (p : Int) (e6 : Option Value) (e7 : Option Value) (J2 : zJ), ((364 - p).toNat) < f9 → (0 ≤ q2 ∧ q2 ≤ 2912 * k + 8 * p) → (0 ≤ p ∧ p ≤ 364) → (zOf (zbut [164, 177, 178, 179, 180]) J2 J ∧ ∀ k, ¬ k = 30 → J2 164 k = J 164 k) → tz_At l G M_X12_meetings (tb_rm 809 0 0) none (tb_ZM G 0 0 (zQ n 0 (zqi (fun z J' => zOf (zbut [164, 177, 178, 179, 180]) J' J ∧ ∀ k, ¬ k = 30 → J' 164 k = J 164 k))) (zX n 0 zN)) 0 0 n J2 31 [some (.ref 164), some (zi x), some (zi q2), some (zi k), some (zi (J 165 (10 + (2 * k)))), some (zi p), e6, e7] [] := by
          intro f9
          induction f9 with
          | zero => intro q2 p e6 e7 J2 hm9; exact absurd hm9 (Nat.not_lt_zero _)
          | succ f9 ih31 =>
            intro q2 p e6 e7 J2 hm31 hq2 hp f2
            refine tz_iload (pc := 31) dX12_meetings_31 rfl ?_
            refine tz_aload_n (pc := 33) dX12_meetings_33 rfl rfl ?_
            refine tz_iload (pc := 34) dX12_meetings_34 rfl ?_
            refine tz_cV (pc := 36) (m_size hl n _ _ (by omega) b r d s m (hM.cl f2.1 f2.2) hA.1) vl_X12_114 dX12_meetings_36 o_164 rfl rfl (Nat.le_of_ble_eq_true rfl) ⟨(Nat.le_of_ble_eq_true rfl), (Nat.le_of_ble_eq_true rfl)⟩ rfl rfl (Nat.le_of_ble_eq_true rfl) (Nat.le_of_ble_eq_true rfl) (fun r9 J_36 hq9 => ?_)
            obtain ⟨zs, rfl, hz_36, rfl, hz⟩ := hq9
            rw [mmsz_cl (J := J) f2.1] at hz
            have hS := hM.sz hA.1
            refine tz_icmp_ge (pc := 39) (tgt := 145) dX12_meetings_39 (by decide) (by omega) (by omega) (fun h_39 => ?_) (fun h_39 => ?_)
            · refine tz_iinc (pc := 145) (z := k + 1) (L2 := [_, _, _, _, _, _, _, _]) dX12_meetings_145 rfl (by omega) rfl ?_
              refine tz_goto (pc := 148) (tgt := 4) dX12_meetings_148 (by decide) ?_
              exact ih4 _ (k + 1) _ _ _ _ _ (by omega) (by omega) (by omega) f2
            · refine tz_aload_n (pc := 42) dX12_meetings_42 rfl rfl ?_
              refine tz_iload (pc := 43) dX12_meetings_43 rfl ?_
              refine tz_iload (pc := 45) dX12_meetings_45 rfl ?_
              refine tz_cV (pc := 47) (m_place hl n _ _ _ (by omega) (by omega) b r d s m (hM.cl f2.1 f2.2) hA.1) vl_X12_139 dX12_meetings_47 o_164 rfl rfl (Nat.le_of_ble_eq_true rfl) ⟨(Nat.le_of_ble_eq_true rfl), (Nat.le_of_ble_eq_true rfl)⟩ rfl rfl (Nat.le_of_ble_eq_true rfl) (Nat.le_of_ble_eq_true rfl) (fun r9 J_47 hq9 => ?_)
              obtain ⟨zp, rfl, hz_47, rfl, hp1, hp2⟩ := hq9
              rw [mmsz_cl (J := J) f2.1] at hp2
              have hp3 := hp2 (by omega) (by omega)
              refine tz_istore (pc := 50) (L2 := [_, _, _, _, _, _, _, _]) dX12_meetings_50 (by decide) rfl ?_
              refine tz_iconst (pc := 52) dX12_meetings_52 ?_
              refine tz_istore (pc := 53) (L2 := [_, _, _, _, _, _, _, _]) dX12_meetings_53 (by decide) rfl ?_
              have loop55 : ∀ (f9 : Nat) (q3 : Int) (j : Int) (J3 : zJ), ((8 - j).toNat) < f9 → (0 ≤ q3 ∧ q3 ≤ 2912 * k + 8 * p + j) → (0 ≤ j ∧ j ≤ 8) → (zOf (zbut [164, 177, 178, 179, 180]) J3 J ∧ ∀ k, ¬ k = 30 → J3 164 k = J 164 k) → tz_At l G M_X12_meetings (tb_rm 809 0 0) none (tb_ZM G 0 0 (zQ n 0 (zqi (fun z J' => zOf (zbut [164, 177, 178, 179, 180]) J' J ∧ ∀ k, ¬ k = 30 → J' 164 k = J 164 k))) (zX n 0 zN)) 0 0 n J3 55 [some (.ref 164), some (zi x), some (zi q3), some (zi k), some (zi (J 165 (10 + (2 * k)))), some (zi p), some (zi zp), some (zi j)] [] := by
                intro f9
                induction f9 with
                | zero => intro q3 j J3 hm9; exact absurd hm9 (Nat.not_lt_zero _)
                | succ f9 ih55 =>
                  intro q3 j J3 hm55 hq3 hj f3
                  refine tz_iload (pc := 55) dX12_meetings_55 rfl ?_
                  refine tz_aload_n (pc := 57) dX12_meetings_57 rfl rfl ?_
                  refine tz_fR (pc := 58) dX12_meetings_58 fl_X12_9 r_164_0 ?_
                  refine tz_bipush (pc := 61) dX12_meetings_61 (by decide) ?_
                  refine tz_aL (pc := 63) (z := 9) (v := (J 165 9)) dX12_meetings_63 a_165 rfl (by decide) (Eq.trans (congrFun (f3.1 165 rfl) 9) rfl) (fun r_63 => ?_)
                  refine tz_icmp_ge (pc := 64) (tgt := 139) dX12_meetings_64 (by decide) (by omega) (by omega) (fun h_64 => ?_) (fun h_64 => ?_)
                  · refine tz_iinc (pc := 139) (z := p + 1) (L2 := [_, _, _, _, _, _, _, _]) dX12_meetings_139 rfl (by omega) rfl ?_
                    refine tz_goto (pc := 142) (tgt := 31) dX12_meetings_142 (by decide) ?_
                    exact ih31 _ (p + 1) _ _ _ (by omega) (by omega) (by omega) f3
                  · refine tz_aload_n (pc := 67) dX12_meetings_67 rfl rfl ?_
                    refine tz_iload (pc := 68) dX12_meetings_68 rfl ?_
                    refine tz_cV (pc := 70) (m_isVar hl n _ _ (by omega) b r d s m (hM.cl f3.1 f3.2) (by omega)) vl_X12_78 dX12_meetings_70 o_164 rfl rfl (Nat.le_of_ble_eq_true rfl) ⟨(Nat.le_of_ble_eq_true rfl), (Nat.le_of_ble_eq_true rfl)⟩ rfl rfl (Nat.le_of_ble_eq_true rfl) (Nat.le_of_ble_eq_true rfl) (fun r9 J_70 hq9 => ?_)
                    obtain ⟨zv, rfl, hz_70, rfl, hv⟩ := hq9
                    have hv2 : zv = 0 ∨ zv = 1 := by rw [← hv]; split <;> omega
                    refine tz_if_ne (pc := 73) (tgt := 139) dX12_meetings_73 (by decide) (by omega) (fun h_73 => ?_) (fun h_73 => ?_)
                    · refine tz_iinc (pc := 139) (z := p + 1) (L2 := [_, _, _, _, _, _, _, _]) dX12_meetings_139 rfl (by omega) rfl ?_
                      refine tz_goto (pc := 142) (tgt := 31) dX12_meetings_142 (by decide) ?_
                      exact ih31 _ (p + 1) _ _ _ (by omega) (by omega) (by omega) f3
                    · refine tz_iload (pc := 76) dX12_meetings_76 rfl ?_
                      refine tz_if_ne (pc := 78) (tgt := 87) dX12_meetings_78 (by decide) (by omega) (fun h_78 => ?_) (fun h_78 => ?_)
                      · refine tz_aload_n (pc := 87) dX12_meetings_87 rfl rfl ?_
                        refine tz_iload (pc := 88) dX12_meetings_88 rfl ?_
                        refine tz_aload_n (pc := 90) dX12_meetings_90 rfl rfl ?_
                        refine tz_fR (pc := 91) dX12_meetings_91 fl_X12_9 r_164_0 ?_
                        refine tz_bipush (pc := 94) dX12_meetings_94 (by decide) ?_
                        refine tz_iconst (pc := 96) dX12_meetings_96 ?_
                        refine tz_iload (pc := 97) dX12_meetings_97 rfl ?_
                        refine tz_imul (pc := 99) (v := 2 * j) dX12_meetings_99 rfl ?_
                        refine tz_iadd (pc := 100) (v := 10 + (2 * j)) dX12_meetings_100 rfl ?_
                        refine tz_aL (pc := 101) (z := (10 + (2 * j))) (v := (J 165 (10 + (2 * j)))) dX12_meetings_101 a_165 rfl (by omega) (Eq.trans (congrFun (f3.1 165 rfl) (10 + (2 * j))) rfl) (fun r_101 => ?_)
                        have hr8 := hR.2 j (by omega) (by omega)
                        refine tz_cV (pc := 102) (m_canBe hl n _ _ _ (by omega) (by omega) b r d s m (hM.cl f3.1 f3.2) (by omega) hr8.1) vl_X12_359 dX12_meetings_102 o_164 rfl rfl (Nat.le_of_ble_eq_true rfl) ⟨(Nat.le_of_ble_eq_true rfl), (Nat.le_of_ble_eq_true rfl)⟩ rfl rfl (Nat.le_of_ble_eq_true rfl) (Nat.le_of_ble_eq_true rfl) (fun r9 J_102 hq9 => ?_)
                        obtain ⟨z_102, rfl, hz_102, b4, f4, g4⟩ := hq9
                        refine tz_if_ne (pc := 105) (tgt := 111) dX12_meetings_105 (by decide) (by omega) (fun h_105 => ?_) (fun h_105 => ?_)
                        · refine tz_iload_n (pc := 111) dX12_meetings_111 rfl rfl ?_
                          refine tz_if_eq (pc := 112) (tgt := 130) dX12_meetings_112 (by decide) (by omega) (fun h_112 => ?_) (fun h_112 => ?_)
                          · refine tz_iinc (pc := 130) (z := q3 + 1) (L2 := [_, _, _, _, _, _, _, _]) dX12_meetings_130 rfl (by omega) rfl ?_
                            refine tz_iinc (pc := 133) (z := j + 1) (L2 := [_, _, _, _, _, _, _, _]) dX12_meetings_133 rfl (by omega) rfl ?_
                            refine tz_goto (pc := 136) (tgt := 55) dX12_meetings_136 (by decide) ?_
                            exact ih55 _ (j + 1) _ (by omega) (by omega) (by omega) ⟨f4.tr f3.1, fun k hk => (g4 k hk).trans (f3.2 k hk)⟩
                          · refine tz_sipush (pc := 115) dX12_meetings_115 (by decide) ?_
                            refine tz_iload_n (pc := 118) dX12_meetings_118 rfl rfl ?_
                            refine tz_imul (pc := 119) (v := 1000 * k) dX12_meetings_119 rfl ?_
                            refine tz_bipush (pc := 120) dX12_meetings_120 (by decide) ?_
                            refine tz_iload (pc := 122) dX12_meetings_122 rfl ?_
                            refine tz_imul (pc := 124) (v := 10 * p) dX12_meetings_124 rfl ?_
                            refine tz_iadd (pc := 125) (v := (1000 * k) + (10 * p)) dX12_meetings_125 rfl ?_
                            refine tz_iload (pc := 126) dX12_meetings_126 rfl ?_
                            refine tz_iadd (pc := 128) (v := ((1000 * k) + (10 * p)) + j) dX12_meetings_128 rfl ?_
                            exact tz_iret (pc := 129) (z := (((1000 * k) + (10 * p)) + j)) dX12_meetings_129 rfl (Nat.le_of_ble_eq_true rfl) (Nat.le_of_ble_eq_true rfl) ⟨Nat.le_refl _, Nat.le_add_right _ _⟩ ⟨_, rfl, (by omega), ⟨f4.tr f3.1, fun k hk => (g4 k hk).trans (f3.2 k hk)⟩⟩
                        · refine tz_goto (pc := 108) (tgt := 133) dX12_meetings_108 (by decide) ?_
                          refine tz_iinc (pc := 133) (z := j + 1) (L2 := [_, _, _, _, _, _, _, _]) dX12_meetings_133 rfl (by omega) rfl ?_
                          refine tz_goto (pc := 136) (tgt := 55) dX12_meetings_136 (by decide) ?_
                          exact ih55 _ (j + 1) _ (by omega) (by omega) (by omega) ⟨f4.tr f3.1, fun k hk => (g4 k hk).trans (f3.2 k hk)⟩
                      · refine tz_iload_n (pc := 81) dX12_meetings_81 rfl rfl ?_
                        refine tz_iload (pc := 82) dX12_meetings_82 rfl ?_
                        refine tz_icmp_eq (pc := 84) (tgt := 133) dX12_meetings_84 (by decide) (by omega) (by omega) (fun h_84 => ?_) (fun h_84 => ?_)
                        · refine tz_iinc (pc := 133) (z := j + 1) (L2 := [_, _, _, _, _, _, _, _]) dX12_meetings_133 rfl (by omega) rfl ?_
                          refine tz_goto (pc := 136) (tgt := 55) dX12_meetings_136 (by decide) ?_
                          exact ih55 _ (j + 1) _ (by omega) (by omega) (by omega) f3
                        · refine tz_aload_n (pc := 87) dX12_meetings_87 rfl rfl ?_
                          refine tz_iload (pc := 88) dX12_meetings_88 rfl ?_
                          refine tz_aload_n (pc := 90) dX12_meetings_90 rfl rfl ?_
                          refine tz_fR (pc := 91) dX12_meetings_91 fl_X12_9 r_164_0 ?_
                          refine tz_bipush (pc := 94) dX12_meetings_94 (by decide) ?_
                          refine tz_iconst (pc := 96) dX12_meetings_96 ?_
                          refine tz_iload (pc := 97) dX12_meetings_97 rfl ?_
                          refine tz_imul (pc := 99) (v := 2 * j) dX12_meetings_99 rfl ?_
                          refine tz_iadd (pc := 100) (v := 10 + (2 * j)) dX12_meetings_100 rfl ?_
                          refine tz_aL (pc := 101) (z := (10 + (2 * j))) (v := (J 165 (10 + (2 * j)))) dX12_meetings_101 a_165 rfl (by omega) (Eq.trans (congrFun (f3.1 165 rfl) (10 + (2 * j))) rfl) (fun r_101 => ?_)
                          have hr8 := hR.2 j (by omega) (by omega)
                          refine tz_cV (pc := 102) (m_canBe hl n _ _ _ (by omega) (by omega) b r d s m (hM.cl f3.1 f3.2) (by omega) hr8.1) vl_X12_359 dX12_meetings_102 o_164 rfl rfl (Nat.le_of_ble_eq_true rfl) ⟨(Nat.le_of_ble_eq_true rfl), (Nat.le_of_ble_eq_true rfl)⟩ rfl rfl (Nat.le_of_ble_eq_true rfl) (Nat.le_of_ble_eq_true rfl) (fun r9 J_102 hq9 => ?_)
                          obtain ⟨z_102, rfl, hz_102, b4, f4, g4⟩ := hq9
                          refine tz_if_ne (pc := 105) (tgt := 111) dX12_meetings_105 (by decide) (by omega) (fun h_105 => ?_) (fun h_105 => ?_)
                          · refine tz_iload_n (pc := 111) dX12_meetings_111 rfl rfl ?_
                            refine tz_if_eq (pc := 112) (tgt := 130) dX12_meetings_112 (by decide) (by omega) (fun h_112 => ?_) (fun h_112 => ?_)
                            · refine tz_iinc (pc := 130) (z := q3 + 1) (L2 := [_, _, _, _, _, _, _, _]) dX12_meetings_130 rfl (by omega) rfl ?_
                              refine tz_iinc (pc := 133) (z := j + 1) (L2 := [_, _, _, _, _, _, _, _]) dX12_meetings_133 rfl (by omega) rfl ?_
                              refine tz_goto (pc := 136) (tgt := 55) dX12_meetings_136 (by decide) ?_
                              exact ih55 _ (j + 1) _ (by omega) (by omega) (by omega) ⟨f4.tr f3.1, fun k hk => (g4 k hk).trans (f3.2 k hk)⟩
                            · refine tz_sipush (pc := 115) dX12_meetings_115 (by decide) ?_
                              refine tz_iload_n (pc := 118) dX12_meetings_118 rfl rfl ?_
                              refine tz_imul (pc := 119) (v := 1000 * k) dX12_meetings_119 rfl ?_
                              refine tz_bipush (pc := 120) dX12_meetings_120 (by decide) ?_
                              refine tz_iload (pc := 122) dX12_meetings_122 rfl ?_
                              refine tz_imul (pc := 124) (v := 10 * p) dX12_meetings_124 rfl ?_
                              refine tz_iadd (pc := 125) (v := (1000 * k) + (10 * p)) dX12_meetings_125 rfl ?_
                              refine tz_iload (pc := 126) dX12_meetings_126 rfl ?_
                              refine tz_iadd (pc := 128) (v := ((1000 * k) + (10 * p)) + j) dX12_meetings_128 rfl ?_
                              exact tz_iret (pc := 129) (z := (((1000 * k) + (10 * p)) + j)) dX12_meetings_129 rfl (Nat.le_of_ble_eq_true rfl) (Nat.le_of_ble_eq_true rfl) ⟨Nat.le_refl _, Nat.le_add_right _ _⟩ ⟨_, rfl, (by omega), ⟨f4.tr f3.1, fun k hk => (g4 k hk).trans (f3.2 k hk)⟩⟩
                          · refine tz_goto (pc := 108) (tgt := 133) dX12_meetings_108 (by decide) ?_
                            refine tz_iinc (pc := 133) (z := j + 1) (L2 := [_, _, _, _, _, _, _, _]) dX12_meetings_133 rfl (by omega) rfl ?_
                            refine tz_goto (pc := 136) (tgt := 55) dX12_meetings_136 (by decide) ?_
                            exact ih55 _ (j + 1) _ (by omega) (by omega) (by omega) ⟨f4.tr f3.1, fun k hk => (g4 k hk).trans (f3.2 k hk)⟩
              exact loop55 _ _ 0 _ (Nat.lt_succ_self _) (by omega) (by omega) f2
        exact loop31 _ _ 0 _ _ _ (Nat.lt_succ_self _) (by omega) (by omega) f1
  exact loop4 _ 0 0 none none none none _ (Nat.lt_succ_self _) (by omega) (by omega) ⟨zOf.rf, fun _ _ => rfl⟩

end
