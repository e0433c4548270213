/-! ===== the order of the reference ===== -/
def mgw (J : zJ) (b d t : Int) : Int := if J 166 (b + t) < 0 then 1 else J 171 (d + J 166 (b + t))
def mgc (J : zJ) (b v t : Int) : Int := if J 166 (b + t) = -1 - v then 1 else 0
def mwt (J : zJ) (b d t : Int) : Int := sV (mgw J b d) (mar J b d) (mag J b) t
def mcn (J : zJ) (b d v t : Int) : Int := sV (mgc J b v) (mar J b d) (mag J b) t
def mgt (J : zJ) (b d : Int) (k : Nat) (u t : Int) : Prop := gtP (mcn J b d) (mwt J b d) (fun t => J 166 (b + t)) (mar J b d) (mag J b) k u t
theorem MS.td {J : zJ} {b r d s m : Int} (h : MS J b r d s m) : TD m (mar J b d) (mag J b) (fun t => J 168 (b + t)) := fun t x y => ⟨(h.ar ⟨x, y⟩).1, (h.ar ⟨x, y⟩).2.2.1, fun i u v => h.arg ⟨x, y⟩ ⟨u, v⟩⟩
theorem mgw_rg {J : zJ} {b r d s m : Int} (h : MS J b r d s m) (hw : ∀ k, 0 ≤ k → k < s → 1 ≤ J 171 (d + k) ∧ J 171 (d + k) ≤ 9) : ∀ t, 0 ≤ t → t < m → 0 ≤ mgw J b d t ∧ mgw J b d t ≤ 9 := fun t x y => by
  have h1 := (h.ar ⟨x, y⟩).2.1
  unfold mgw
  split
  · omega
  · have := hw (J 166 (b + t)) (by omega) (by omega)
    omega
theorem mgc_rg {J : zJ} {b v m : Int} : ∀ t, 0 ≤ t → t < m → 0 ≤ mgc J b v t ∧ mgc J b v t ≤ 1 := fun t _ _ => by
  unfold mgc
  split <;> omega
theorem mwt_rg {J : zJ} {b r d s m t : Int} (h : MS J b r d s m) (hw : ∀ k, 0 ≤ k → k < s → 1 ≤ J 171 (d + k) ∧ J 171 (d + k) ≤ 9) (ht : 0 ≤ t ∧ t < m) : 0 ≤ mwt J b d t ∧ mwt J b d t ≤ 9 * 364 := sV_rg h.td (mgw_rg h hw) ht
theorem mcn_rg {J : zJ} {b r d s m v t : Int} (h : MS J b r d s m) (ht : 0 ≤ t ∧ t < m) : 0 ≤ mcn J b d v t ∧ mcn J b d v t ≤ 1 * 364 := sV_rg h.td mgc_rg ht
set_option maxHeartbeats 4000000 in
set_option maxRecDepth 100000 in
theorem x_wHead {l : Launch} {G : tb_G} (hl : l.stackTraces = false) (n : Nat) (J : zJ) (t : Int) (hr_t : -2147483648 ≤ t ∧ t < 2147483648) (b r d s m : Int) (hM : MS J b r d s m) (ht : 0 ≤ t ∧ t < m) : tz_Ok l G M_X12_weightOfHead 2 0 0 [.ref 164, zi t] n J (zqi (fun z J' => J = J' ∧ mgw J b d t = z)) zN := by
  refine tz_Ok.of hl (by decide +kernel) rfl (tb_c1 rfl) (Nat.le_of_ble_eq_true rfl) ?_
  show tz_At l G M_X12_weightOfHead (tb_rm 2 0 0) none (tb_ZM G 0 0 (zQ n 0 (zqi (fun z J' => J = J' ∧ mgw J b d t = z))) (zX n 0 zN)) 0 0 n J 0 [some (.ref 164), some (zi t)] []
  obtain ⟨hM1, hM2, hM3, hM4, hM5, hM6⟩ := id hM
  have hT := hM.told
  have ha := hM.ar ht
  refine tz_aload_n (pc := 0) dX12_weightOfHead_0 rfl rfl ?_
  refine tz_iload_n (pc := 1) dX12_weightOfHead_1 rfl rfl ?_
  refine tz_cV (pc := 2) (m_isVar hl n _ _ (by omega) b r d s m hM (by omega)) vl_X12_78 dX12_weightOfHead_2 o_164 rfl rfl (Nat.le_of_ble_eq_true rfl) ⟨(Nat.le_of_ble_eq_true rfl), (Nat.le_of_ble_eq_true rfl)⟩ rfl rfl (Nat.le_of_ble_eq_true rfl) (Nat.le_of_ble_eq_true rfl) (fun r9 J_2 hq9 => ?_)
  obtain ⟨z_2, rfl, hz_2, rfl, rfl⟩ := hq9
  by_cases hw_5 : J 166 (b + t) < 0
  · rw [show (if J 166 (b + t) < 0 then 1 else 0 : Int) = 1 from if_pos hw_5]
    refine tz_if_eqF (pc := 5) (tgt := 12) (by decide) dX12_weightOfHead_5 (by decide) (by decide) ?_
    refine tz_iconst (pc := 8) dX12_weightOfHead_8 ?_
    refine tz_goto (pc := 9) (tgt := 27) dX12_weightOfHead_9 (by decide) ?_
    exact tz_iret (pc := 27) (z := 1) dX12_weightOfHead_27 rfl (Nat.le_of_ble_eq_true rfl) (Nat.le_of_ble_eq_true rfl) ⟨Nat.le_refl _, Nat.le_add_right _ _⟩ ⟨_, rfl, (by decide), ⟨rfl, by unfold mgw; first | rw [if_pos hw_5] | rw [if_neg hw_5]⟩⟩
  · rw [show (if J 166 (b + t) < 0 then 1 else 0 : Int) = 0 from if_neg hw_5]
    refine tz_if_eqT (pc := 5) (tgt := 12) (by decide) dX12_weightOfHead_5 (by decide) (by decide) ?_
    refine tz_aload_n (pc := 12) dX12_weightOfHead_12 rfl rfl ?_
    refine tz_fR (pc := 13) dX12_weightOfHead_13 fl_X12_28 r_164_6 ?_
    refine tz_aload_n (pc := 16) dX12_weightOfHead_16 rfl rfl ?_
    refine tz_fI (pc := 17) (kz := 17) (v := d) dX12_weightOfHead_17 fl_X12_82 i_164_17 rfl hM4 (fun r_17 => ?_)
    refine tz_aload_n (pc := 20) dX12_weightOfHead_20 rfl rfl ?_
    refine tz_iload_n (pc := 21) dX12_weightOfHead_21 rfl rfl ?_
    refine tz_cV (pc := 22) (m_head hl n _ _ (by omega) b r d s m hM (by omega)) vl_X12_74 dX12_weightOfHead_22 o_164 rfl rfl (Nat.le_of_ble_eq_true rfl) ⟨(Nat.le_of_ble_eq_true rfl), (Nat.le_of_ble_eq_true rfl)⟩ rfl rfl (Nat.le_of_ble_eq_true rfl) (Nat.le_of_ble_eq_true rfl) (fun r9 J_22 hq9 => ?_)
    obtain ⟨z_22, rfl, hz_22, rfl, rfl⟩ := hq9
    refine tz_iadd (pc := 25) (v := d + (J 166 (b + t))) dX12_weightOfHead_25 rfl ?_
    refine tz_aL (pc := 26) (z := (d + (J 166 (b + t)))) (v := (J 171 (d + (J 166 (b + t))))) dX12_weightOfHead_26 a_171 rfl (by omega) rfl (fun r_26 => ?_)
    exact tz_iret (pc := 27) (z := (J 171 (d + (J 166 (b + t))))) dX12_weightOfHead_27 rfl (Nat.le_of_ble_eq_true rfl) (Nat.le_of_ble_eq_true rfl) ⟨Nat.le_refl _, Nat.le_add_right _ _⟩ ⟨_, rfl, (by omega), ⟨rfl, by unfold mgw; first | rw [if_pos hw_5] | rw [if_neg hw_5]⟩⟩

set_option maxHeartbeats 4000000 in
set_option maxRecDepth 100000 in
theorem x_weightR {l : Launch} {G : tb_G} (hl : l.stackTraces = false) (n : Nat) : ∀ (r9 : Nat) (J : zJ) (t : Int) (hr_t : -2147483648 ≤ t ∧ t < 2147483648) (b r d s m : Int) (hM : MS J b r d s m) (ht : 0 ≤ t ∧ t < m) (hw : ∀ k, 0 ≤ k → k < s → 1 ≤ J 171 (d + k) ∧ J 171 (d + k) ≤ 9), ((J 168 (b + t)).toNat) < r9 → tz_Ok l G M_X12_weightOf (3 + 1 * r9) 0 0 [.ref 164, zi t] n J (zqi (fun z J' => J = J' ∧ mwt J b d t = z)) zN := by
  intro r9
  induction r9 with
  | zero => intro J t hr_t b r d s m hM ht hw hm9; exact absurd hm9 (Nat.not_lt_zero _)
  | succ r9 ih =>
    intro J t hr_t b r d s m hM ht hw hm9
    refine tz_Ok.of hl (by decide +kernel) rfl (tb_c1 rfl) (Nat.le_of_ble_eq_true rfl) ?_
    show tz_At l G M_X12_weightOf (tb_rm (3 + 1 * (r9 + 1)) 0 0) none (tb_ZM G 0 0 (zQ n 0 (zqi (fun z J' => J = J' ∧ mwt J b d t = z))) (zX n 0 zN)) 0 0 n J 0 [some (.ref 164), some (zi t), none, none] []
    obtain ⟨hM1, hM2, hM3, hM4, hM5, hM6⟩ := id hM
    have hT := hM.told
    have ha := hM.ar ht
    have hU := sV_un (g := mgw J b d) hM.td ht
    have hG0 := mgw_rg hM hw t ht.1 ht.2
    refine tz_aload_n (pc := 0) dX12_weightOf_0 rfl rfl ?_
    refine tz_iload_n (pc := 1) dX12_weightOf_1 rfl rfl ?_
    refine tz_cV (pc := 2) (x_wHead hl n _ _ (by omega) b r d s m hM ht) vl_X12_117 dX12_weightOf_2 o_164 rfl rfl (Nat.le_of_ble_eq_true rfl) ⟨(show 2 + 1 ≤ 3 + 1 * (r9 + 1) by omega), (show 8 + (2 + 11) + 40 * (2) ≤ 40 * (3 + 1 * (r9 + 1)) by omega)⟩ rfl rfl (Nat.le_of_ble_eq_true rfl) (Nat.le_of_ble_eq_true rfl) (fun r9 J_2 hq9 => ?_)
    obtain ⟨z_2, rfl, hz_2, rfl, rfl⟩ := hq9
    refine tz_istore_n (pc := 5) (L2 := [_, _, _, _]) dX12_weightOf_5 rfl (by decide) rfl ?_
    refine tz_iconst (pc := 6) dX12_weightOf_6 ?_
    refine tz_istore_n (pc := 7) (L2 := [_, _, _, _]) dX12_weightOf_7 rfl (by decide) rfl ?_
    have loop8 : ∀ (f9 : Nat) (q : Int) (i : Int), ((3 - i).toNat) < f9 → (0 ≤ i ∧ i ≤ mar J b d t) → (q = mgw J b d t + sps (mwt J b d) (mag J b) t i.toNat) → (0 ≤ q ∧ q ≤ 9 + 4000 * i) → tz_At l G M_X12_weightOf (tb_rm (3 + 1 * (r9 + 1)) 0 0) none (tb_ZM G 0 0 (zQ n 0 (zqi (fun z J' => J = J' ∧ mwt J b d t = z))) (zX n 0 zN)) 0 0 n J 8 [some (.ref 164), some (zi t), some (zi q), some (zi i)] [] := by
      intro f9
      induction f9 with
      | zero => intro q i hm9; exact absurd hm9 (Nat.not_lt_zero _)
      | succ f9 ih8 =>
        intro q i hm8 hi hq hr
        refine tz_iload_n (pc := 8) dX12_weightOf_8 rfl rfl ?_
        refine tz_aload_n (pc := 9) dX12_weightOf_9 rfl rfl ?_
        refine tz_iload_n (pc := 10) dX12_weightOf_10 rfl rfl ?_
        refine tz_cV (pc := 11) (m_arity hl n _ _ (by omega) b r d s m hM (by omega)) vl_X12_111 dX12_weightOf_11 o_164 rfl rfl (Nat.le_of_ble_eq_true rfl) ⟨(show 2 + 1 ≤ 3 + 1 * (r9 + 1) by omega), (show 8 + (2 + 11) + 40 * (2) ≤ 40 * (3 + 1 * (r9 + 1)) by omega)⟩ rfl rfl (Nat.le_of_ble_eq_true rfl) (Nat.le_of_ble_eq_true rfl) (fun r9 J_11 hq9 => ?_)
        obtain ⟨z_11, rfl, hz_11, rfl, rfl⟩ := hq9
        refine tz_icmp_ge (pc := 14) (tgt := 36) dX12_weightOf_14 (by decide) (by omega) (by omega) (fun h_14 => ?_) (fun h_14 => ?_)
        · refine tz_iload_n (pc := 36) dX12_weightOf_36 rfl rfl ?_
          exact tz_iret (pc := 37) (z := q) dX12_weightOf_37 rfl (Nat.le_of_ble_eq_true rfl) (Nat.le_of_ble_eq_true rfl) ⟨Nat.le_refl _, Nat.le_add_right _ _⟩ ⟨_, rfl, (by omega), ⟨rfl, by show mwt J b d t = q; unfold mwt; rw [hU, hq, show (mar J b d t).toNat = i.toNat by omega]; rfl⟩⟩
        · refine tz_iload_n (pc := 17) dX12_weightOf_17 rfl rfl ?_
          refine tz_aload_n (pc := 18) dX12_weightOf_18 rfl rfl ?_
          refine tz_aload_n (pc := 19) dX12_weightOf_19 rfl rfl ?_
          refine tz_iload_n (pc := 20) dX12_weightOf_20 rfl rfl ?_
          refine tz_iload_n (pc := 21) dX12_weightOf_21 rfl rfl ?_
          refine tz_cV (pc := 22) (m_arg hl n _ _ _ (by omega) (by omega) b r d s m hM (by omega) (by omega)) vl_X12_88 dX12_weightOf_22 o_164 rfl rfl (Nat.le_of_ble_eq_true rfl) ⟨(show 0 + 1 ≤ 3 + 1 * (r9 + 1) by omega), (show 8 + (3 + 11) + 40 * (0) ≤ 40 * (3 + 1 * (r9 + 1)) by omega)⟩ rfl rfl (Nat.le_of_ble_eq_true rfl) (Nat.le_of_ble_eq_true rfl) (fun r9 J_22 hq9 => ?_)
          obtain ⟨z_22, rfl, hz_22, rfl, rfl⟩ := hq9
          have hg := hM.arg (t := t) (i := i) ht (by omega)
          have hb9 := mwt_rg hM hw (t := (J 167 (3 * (b + t) + i))) (by omega)
          refine tz_cV (pc := 25) (ih _ _ (by omega) b r d s m hM (by omega) hw (by omega)) vl_X12_120 dX12_weightOf_25 o_164 rfl rfl (Nat.le_of_ble_eq_true rfl) ⟨(show (3 + 1 * r9) + 1 ≤ 3 + 1 * (r9 + 1) by omega), (show 8 + (4 + 11) + 40 * ((3 + 1 * r9)) ≤ 40 * (3 + 1 * (r9 + 1)) by omega)⟩ rfl rfl (Nat.le_of_ble_eq_true rfl) (Nat.le_of_ble_eq_true rfl) (fun r9 J_25 hq9 => ?_)
          obtain ⟨z_25, rfl, hz_25, rfl, rfl⟩ := hq9
          refine tz_iadd (pc := 28) (v := q + (mwt J b d (J 167 (3 * (b + t) + i)))) dX12_weightOf_28 rfl ?_
          refine tz_istore_n (pc := 29) (L2 := [_, _, _, _]) dX12_weightOf_29 rfl (by decide) rfl ?_
          refine tz_iinc (pc := 30) (z := i + 1) (L2 := [_, _, _, _]) dX12_weightOf_30 rfl (by omega) rfl ?_
          refine tz_goto (pc := 33) (tgt := 8) dX12_weightOf_33 (by decide) ?_
          exact ih8 _ (i + 1) (by omega) (by omega) (by rw [sps_s hi.1, hq]; show _ = mgw J b d t + (sps (mwt J b d) (mag J b) t i.toNat + mwt J b d (J 167 (3 * (b + t) + i))); omega) (by omega)
    exact loop8 _ _ 0 (Nat.lt_succ_self _) (by omega) (by show _ = _ + 0; omega) (by omega)

set_option maxHeartbeats 4000000 in
set_option maxRecDepth 100000 in
theorem x_timesR {l : Launch} {G : tb_G} (hl : l.stackTraces = false) (n : Nat) : ∀ (r9 : Nat) (J : zJ) (t : Int) (v : Int) (hr_t : -2147483648 ≤ t ∧ t < 2147483648) (hr_v : -2147483648 ≤ v ∧ v < 2147483648) (b r d s m : Int) (hM : MS J b r d s m) (ht : 0 ≤ t ∧ t < m) (hv : 0 ≤ v ∧ v < 8), ((J 168 (b + t)).toNat) < r9 → tz_Ok l G M_X12_timesOf (3 + 1 * r9) 0 0 [.ref 164, zi t, zi v] n J (zqi (fun z J' => J = J' ∧ mcn J b d v t = z)) zN := by
  intro r9
  induction r9 with
  | zero => intro J t v hr_t hr_v b r d s m hM ht hv hm9; exact absurd hm9 (Nat.not_lt_zero _)
  | succ r9 ih =>
    intro J t v hr_t hr_v b r d s m hM ht hv hm9
    refine tz_Ok.of hl (by decide +kernel) rfl (tb_c1 rfl) (Nat.le_of_ble_eq_true rfl) ?_
    show tz_At l G M_X12_timesOf (tb_rm (3 + 1 * (r9 + 1)) 0 0) none (tb_ZM G 0 0 (zQ n 0 (zqi (fun z J' => J = J' ∧ mcn J b d v t = z))) (zX n 0 zN)) 0 0 n J 0 [some (.ref 164), some (zi t), some (zi v), none, none] []
    obtain ⟨hM1, hM2, hM3, hM4, hM5, hM6⟩ := id hM
    have hT := hM.told
    have ha := hM.ar ht
    have hU := sV_un (g := mgc J b v) hM.td ht
    have hG0 := trivial
    refine tz_aload_n (pc := 0) dX12_timesOf_0 rfl rfl ?_
    refine tz_iload_n (pc := 1) dX12_timesOf_1 rfl rfl ?_
    refine tz_cV (pc := 2) (m_isVar hl n _ _ (by omega) b r d s m hM (by omega)) vl_X12_78 dX12_timesOf_2 o_164 rfl rfl (Nat.le_of_ble_eq_true rfl) ⟨(show 1 + 1 ≤ 3 + 1 * (r9 + 1) by omega), (show 8 + (2 + 11) + 40 * (1) ≤ 40 * (3 + 1 * (r9 + 1)) by omega)⟩ rfl rfl (Nat.le_of_ble_eq_true rfl) (Nat.le_of_ble_eq_true rfl) (fun r9 J_2 hq9 => ?_)
    obtain ⟨z_2, rfl, hz_2, rfl, rfl⟩ := hq9
    by_cases hw_5 : J 166 (b + t) < 0
    · rw [show (if J 166 (b + t) < 0 then 1 else 0 : Int) = 1 from if_pos hw_5]
      refine tz_if_eqF (pc := 5) (tgt := 21) (by decide) dX12_timesOf_5 (by decide) (by decide) ?_
      refine tz_aload_n (pc := 8) dX12_timesOf_8 rfl rfl ?_
      refine tz_iload_n (pc := 9) dX12_timesOf_9 rfl rfl ?_
      refine tz_cV (pc := 10) (m_varOf hl n _ _ (by omega) b r d s m hM (by omega)) vl_X12_123 dX12_timesOf_10 o_164 rfl rfl (Nat.le_of_ble_eq_true rfl) ⟨(show 1 + 1 ≤ 3 + 1 * (r9 + 1) by omega), (show 8 + (2 + 11) + 40 * (1) ≤ 40 * (3 + 1 * (r9 + 1)) by omega)⟩ rfl rfl (Nat.le_of_ble_eq_true rfl) (Nat.le_of_ble_eq_true rfl) (fun r9 J_10 hq9 => ?_)
      obtain ⟨z_10, rfl, hz_10, rfl, rfl⟩ := hq9
      refine tz_iload_n (pc := 13) dX12_timesOf_13 rfl rfl ?_
      refine tz_icmp_ne (pc := 14) (tgt := 21) dX12_timesOf_14 (by decide) (by omega) (by omega) (fun h_14 => ?_) (fun h_14 => ?_)
      · refine tz_iconst (pc := 21) dX12_timesOf_21 ?_
        refine tz_istore_n (pc := 22) (L2 := [_, _, _, _, _]) dX12_timesOf_22 rfl (by decide) rfl ?_
        refine tz_iconst (pc := 23) dX12_timesOf_23 ?_
        refine tz_istore (pc := 24) (L2 := [_, _, _, _, _]) dX12_timesOf_24 (by decide) rfl ?_
        have loop26 : ∀ (f9 : Nat) (q : Int) (i : Int), ((3 - i).toNat) < f9 → (0 ≤ i ∧ i ≤ mar J b d t) → (q = mgc J b v t + sps (mcn J b d v) (mag J b) t i.toNat) → (0 ≤ q ∧ q ≤ 9 + 4000 * i) → tz_At l G M_X12_timesOf (tb_rm (3 + 1 * (r9 + 1)) 0 0) none (tb_ZM G 0 0 (zQ n 0 (zqi (fun z J' => J = J' ∧ mcn J b d v t = z))) (zX n 0 zN)) 0 0 n J 26 [some (.ref 164), some (zi t), some (zi v), some (zi q), some (zi i)] [] := by
          intro f9
          induction f9 with
          | zero => intro q i hm9; exact absurd hm9 (Nat.not_lt_zero _)
          | succ f9 ih26 =>
            intro q i hm26 hi hq hr
            refine tz_iload (pc := 26) dX12_timesOf_26 rfl ?_
            refine tz_aload_n (pc := 28) dX12_timesOf_28 rfl rfl ?_
            refine tz_iload_n (pc := 29) dX12_timesOf_29 rfl rfl ?_
            refine tz_cV (pc := 30) (m_arity hl n _ _ (by omega) b r d s m hM (by omega)) vl_X12_111 dX12_timesOf_30 o_164 rfl rfl (Nat.le_of_ble_eq_true rfl) ⟨(show 2 + 1 ≤ 3 + 1 * (r9 + 1) by omega), (show 8 + (2 + 11) + 40 * (2) ≤ 40 * (3 + 1 * (r9 + 1)) by omega)⟩ rfl rfl (Nat.le_of_ble_eq_true rfl) (Nat.le_of_ble_eq_true rfl) (fun r9 J_30 hq9 => ?_)
            obtain ⟨z_30, rfl, hz_30, rfl, rfl⟩ := hq9
            refine tz_icmp_ge (pc := 33) (tgt := 57) dX12_timesOf_33 (by decide) (by omega) (by omega) (fun h_33 => ?_) (fun h_33 => ?_)
            · refine tz_iload_n (pc := 57) dX12_timesOf_57 rfl rfl ?_
              exact tz_iret (pc := 58) (z := q) dX12_timesOf_58 rfl (Nat.le_of_ble_eq_true rfl) (Nat.le_of_ble_eq_true rfl) ⟨Nat.le_refl _, Nat.le_add_right _ _⟩ ⟨_, rfl, (by omega), ⟨rfl, by show mcn J b d v t = q; unfold mcn; rw [hU, hq, show (mar J b d t).toNat = i.toNat by omega]; rfl⟩⟩
            · refine tz_iload_n (pc := 36) dX12_timesOf_36 rfl rfl ?_
              refine tz_aload_n (pc := 37) dX12_timesOf_37 rfl rfl ?_
              refine tz_aload_n (pc := 38) dX12_timesOf_38 rfl rfl ?_
              refine tz_iload_n (pc := 39) dX12_timesOf_39 rfl rfl ?_
              refine tz_iload (pc := 40) dX12_timesOf_40 rfl ?_
              refine tz_cV (pc := 42) (m_arg hl n _ _ _ (by omega) (by omega) b r d s m hM (by omega) (by omega)) vl_X12_88 dX12_timesOf_42 o_164 rfl rfl (Nat.le_of_ble_eq_true rfl) ⟨(show 0 + 1 ≤ 3 + 1 * (r9 + 1) by omega), (show 8 + (3 + 11) + 40 * (0) ≤ 40 * (3 + 1 * (r9 + 1)) by omega)⟩ rfl rfl (Nat.le_of_ble_eq_true rfl) (Nat.le_of_ble_eq_true rfl) (fun r9 J_42 hq9 => ?_)
              obtain ⟨z_42, rfl, hz_42, rfl, rfl⟩ := hq9
              refine tz_iload_n (pc := 45) dX12_timesOf_45 rfl rfl ?_
              have hg := hM.arg (t := t) (i := i) ht (by omega)
              have hb9 := mcn_rg hM (v := v) (t := (J 167 (3 * (b + t) + i))) (by omega)
              refine tz_cV (pc := 46) (ih _ _ _ (by omega) (by omega) b r d s m hM (by omega) (by omega) (by omega)) vl_X12_129 dX12_timesOf_46 o_164 rfl rfl (Nat.le_of_ble_eq_true rfl) ⟨(show (3 + 1 * r9) + 1 ≤ 3 + 1 * (r9 + 1) by omega), (show 8 + (5 + 11) + 40 * ((3 + 1 * r9)) ≤ 40 * (3 + 1 * (r9 + 1)) by omega)⟩ rfl rfl (Nat.le_of_ble_eq_true rfl) (Nat.le_of_ble_eq_true rfl) (fun r9 J_46 hq9 => ?_)
              obtain ⟨z_46, rfl, hz_46, rfl, rfl⟩ := hq9
              refine tz_iadd (pc := 49) (v := q + (mcn J b d v (J 167 (3 * (b + t) + i)))) dX12_timesOf_49 rfl ?_
              refine tz_istore_n (pc := 50) (L2 := [_, _, _, _, _]) dX12_timesOf_50 rfl (by decide) rfl ?_
              refine tz_iinc (pc := 51) (z := i + 1) (L2 := [_, _, _, _, _]) dX12_timesOf_51 rfl (by omega) rfl ?_
              refine tz_goto (pc := 54) (tgt := 26) dX12_timesOf_54 (by decide) ?_
              exact ih26 _ (i + 1) (by omega) (by omega) (by rw [sps_s hi.1, hq]; show _ = mgc J b v t + (sps (mcn J b d v) (mag J b) t i.toNat + mcn J b d v (J 167 (3 * (b + t) + i))); omega) (by omega)
        exact loop26 _ _ 0 (Nat.lt_succ_self _) (by omega) (by show _ = _ + 0; unfold mgc; first | (rw [if_pos (by omega)]; rfl) | (rw [if_neg (by omega)]; rfl)) (by omega)
      · refine tz_iconst (pc := 17) dX12_timesOf_17 ?_
        refine tz_goto (pc := 18) (tgt := 22) dX12_timesOf_18 (by decide) ?_
        refine tz_istore_n (pc := 22) (L2 := [_, _, _, _, _]) dX12_timesOf_22 rfl (by decide) rfl ?_
        refine tz_iconst (pc := 23) dX12_timesOf_23 ?_
        refine tz_istore (pc := 24) (L2 := [_, _, _, _, _]) dX12_timesOf_24 (by decide) rfl ?_
        have loop26 : ∀ (f9 : Nat) (q : Int) (i : Int), ((3 - i).toNat) < f9 → (0 ≤ i ∧ i ≤ mar J b d t) → (q = mgc J b v t + sps (mcn J b d v) (mag J b) t i.toNat) → (0 ≤ q ∧ q ≤ 9 + 4000 * i) → tz_At l G M_X12_timesOf (tb_rm (3 + 1 * (r9 + 1)) 0 0) none (tb_ZM G 0 0 (zQ n 0 (zqi (fun z J' => J = J' ∧ mcn J b d v t = z))) (zX n 0 zN)) 0 0 n J 26 [some (.ref 164), some (zi t), some (zi v), some (zi q), some (zi i)] [] := by
          intro f9
          induction f9 with
          | zero => intro q i hm9; exact absurd hm9 (Nat.not_lt_zero _)
          | succ f9 ih26 =>
            intro q i hm26 hi hq hr
            refine tz_iload (pc := 26) dX12_timesOf_26 rfl ?_
            refine tz_aload_n (pc := 28) dX12_timesOf_28 rfl rfl ?_
            refine tz_iload_n (pc := 29) dX12_timesOf_29 rfl rfl ?_
            refine tz_cV (pc := 30) (m_arity hl n _ _ (by omega) b r d s m hM (by omega)) vl_X12_111 dX12_timesOf_30 o_164 rfl rfl (Nat.le_of_ble_eq_true rfl) ⟨(show 2 + 1 ≤ 3 + 1 * (r9 + 1) by omega), (show 8 + (2 + 11) + 40 * (2) ≤ 40 * (3 + 1 * (r9 + 1)) by omega)⟩ rfl rfl (Nat.le_of_ble_eq_true rfl) (Nat.le_of_ble_eq_true rfl) (fun r9 J_30 hq9 => ?_)
            obtain ⟨z_30, rfl, hz_30, rfl, rfl⟩ := hq9
            refine tz_icmp_ge (pc := 33) (tgt := 57) dX12_timesOf_33 (by decide) (by omega) (by omega) (fun h_33 => ?_) (fun h_33 => ?_)
            · refine tz_iload_n (pc := 57) dX12_timesOf_57 rfl rfl ?_
              exact tz_iret (pc := 58) (z := q) dX12_timesOf_58 rfl (Nat.le_of_ble_eq_true rfl) (Nat.le_of_ble_eq_true rfl) ⟨Nat.le_refl _, Nat.le_add_right _ _⟩ ⟨_, rfl, (by omega), ⟨rfl, by show mcn J b d v t = q; unfold mcn; rw [hU, hq, show (mar J b d t).toNat = i.toNat by omega]; rfl⟩⟩
            · refine tz_iload_n (pc := 36) dX12_timesOf_36 rfl rfl ?_
              refine tz_aload_n (pc := 37) dX12_timesOf_37 rfl rfl ?_
              refine tz_aload_n (pc := 38) dX12_timesOf_38 rfl rfl ?_
              refine tz_iload_n (pc := 39) dX12_timesOf_39 rfl rfl ?_
              refine tz_iload (pc := 40) dX12_timesOf_40 rfl ?_
              refine tz_cV (pc := 42) (m_arg hl n _ _ _ (by omega) (by omega) b r d s m hM (by omega) (by omega)) vl_X12_88 dX12_timesOf_42 o_164 rfl rfl (Nat.le_of_ble_eq_true rfl) ⟨(show 0 + 1 ≤ 3 + 1 * (r9 + 1) by omega), (show 8 + (3 + 11) + 40 * (0) ≤ 40 * (3 + 1 * (r9 + 1)) by omega)⟩ rfl rfl (Nat.le_of_ble_eq_true rfl) (Nat.le_of_ble_eq_true rfl) (fun r9 J_42 hq9 => ?_)
              obtain ⟨z_42, rfl, hz_42, rfl, rfl⟩ := hq9
              refine tz_iload_n (pc := 45) dX12_timesOf_45 rfl rfl ?_
              have hg := hM.arg (t := t) (i := i) ht (by omega)
              have hb9 := mcn_rg hM (v := v) (t := (J 167 (3 * (b + t) + i))) (by omega)
              refine tz_cV (pc := 46) (ih _ _ _ (by omega) (by omega) b r d s m hM (by omega) (by omega) (by omega)) vl_X12_129 dX12_timesOf_46 o_164 rfl rfl (Nat.le_of_ble_eq_true rfl) ⟨(show (3 + 1 * r9) + 1 ≤ 3 + 1 * (r9 + 1) by omega), (show 8 + (5 + 11) + 40 * ((3 + 1 * r9)) ≤ 40 * (3 + 1 * (r9 + 1)) by omega)⟩ rfl rfl (Nat.le_of_ble_eq_true rfl) (Nat.le_of_ble_eq_true rfl) (fun r9 J_46 hq9 => ?_)
              obtain ⟨z_46, rfl, hz_46, rfl, rfl⟩ := hq9
              refine tz_iadd (pc := 49) (v := q + (mcn J b d v (J 167 (3 * (b + t) + i)))) dX12_timesOf_49 rfl ?_
              refine tz_istore_n (pc := 50) (L2 := [_, _, _, _, _]) dX12_timesOf_50 rfl (by decide) rfl ?_
              refine tz_iinc (pc := 51) (z := i + 1) (L2 := [_, _, _, _, _]) dX12_timesOf_51 rfl (by omega) rfl ?_
              refine tz_goto (pc := 54) (tgt := 26) dX12_timesOf_54 (by decide) ?_
              exact ih26 _ (i + 1) (by omega) (by omega) (by rw [sps_s hi.1, hq]; show _ = mgc J b v t + (sps (mcn J b d v) (mag J b) t i.toNat + mcn J b d v (J 167 (3 * (b + t) + i))); omega) (by omega)
        exact loop26 _ _ 0 (Nat.lt_succ_self _) (by omega) (by show _ = _ + 0; unfold mgc; first | (rw [if_pos (by omega)]; rfl) | (rw [if_neg (by omega)]; rfl)) (by omega)
    · rw [show (if J 166 (b + t) < 0 then 1 else 0 : Int) = 0 from if_neg hw_5]
      refine tz_if_eqT (pc := 5) (tgt := 21) (by decide) dX12_timesOf_5 (by decide) (by decide) ?_
      refine tz_iconst (pc := 21) dX12_timesOf_21 ?_
      refine tz_istore_n (pc := 22) (L2 := [_, _, _, _, _]) dX12_timesOf_22 rfl (by decide) rfl ?_
      refine tz_iconst (pc := 23) dX12_timesOf_23 ?_
      refine tz_istore (pc := 24) (L2 := [_, _, _, _, _]) dX12_timesOf_24 (by decide) rfl ?_
      have loop26 : ∀ (f9 : Nat) (q : Int) (i : Int), ((3 - i).toNat) < f9 → (0 ≤ i ∧ i ≤ mar J b d t) → (q = mgc J b v t + sps (mcn J b d v) (mag J b) t i.toNat) → (0 ≤ q ∧ q ≤ 9 + 4000 * i) → tz_At l G M_X12_timesOf (tb_rm (3 + 1 * (r9 + 1)) 0 0) none (tb_ZM G 0 0 (zQ n 0 (zqi (fun z J' => J = J' ∧ mcn J b d v t = z))) (zX n 0 zN)) 0 0 n J 26 [some (.ref 164), some (zi t), some (zi v), some (zi q), some (zi i)] [] := by
        intro f9
        induction f9 with
        | zero => intro q i hm9; exact absurd hm9 (Nat.not_lt_zero _)
        | succ f9 ih26 =>
          intro q i hm26 hi hq hr
          refine tz_iload (pc := 26) dX12_timesOf_26 rfl ?_
          refine tz_aload_n (pc := 28) dX12_timesOf_28 rfl rfl ?_
          refine tz_iload_n (pc := 29) dX12_timesOf_29 rfl rfl ?_
          refine tz_cV (pc := 30) (m_arity hl n _ _ (by omega) b r d s m hM (by omega)) vl_X12_111 dX12_timesOf_30 o_164 rfl rfl (Nat.le_of_ble_eq_true rfl) ⟨(show 2 + 1 ≤ 3 + 1 * (r9 + 1) by omega), (show 8 + (2 + 11) + 40 * (2) ≤ 40 * (3 + 1 * (r9 + 1)) by omega)⟩ rfl rfl (Nat.le_of_ble_eq_true rfl) (Nat.le_of_ble_eq_true rfl) (fun r9 J_30 hq9 => ?_)
          obtain ⟨z_30, rfl, hz_30, rfl, rfl⟩ := hq9
          refine tz_icmp_ge (pc := 33) (tgt := 57) dX12_timesOf_33 (by decide) (by omega) (by omega) (fun h_33 => ?_) (fun h_33 => ?_)
          · refine tz_iload_n (pc := 57) dX12_timesOf_57 rfl rfl ?_
            exact tz_iret (pc := 58) (z := q) dX12_timesOf_58 rfl (Nat.le_of_ble_eq_true rfl) (Nat.le_of_ble_eq_true rfl) ⟨Nat.le_refl _, Nat.le_add_right _ _⟩ ⟨_, rfl, (by omega), ⟨rfl, by show mcn J b d v t = q; unfold mcn; rw [hU, hq, show (mar J b d t).toNat = i.toNat by omega]; rfl⟩⟩
          · refine tz_iload_n (pc := 36) dX12_timesOf_36 rfl rfl ?_
            refine tz_aload_n (pc := 37) dX12_timesOf_37 rfl rfl ?_
            refine tz_aload_n (pc := 38) dX12_timesOf_38 rfl rfl ?_
            refine tz_iload_n (pc := 39) dX12_timesOf_39 rfl rfl ?_
            refine tz_iload (pc := 40) dX12_timesOf_40 rfl ?_
            refine tz_cV (pc := 42) (m_arg hl n _ _ _ (by omega) (by omega) b r d s m hM (by omega) (by omega)) vl_X12_88 dX12_timesOf_42 o_164 rfl rfl (Nat.le_of_ble_eq_true rfl) ⟨(show 0 + 1 ≤ 3 + 1 * (r9 + 1) by omega), (show 8 + (3 + 11) + 40 * (0) ≤ 40 * (3 + 1 * (r9 + 1)) by omega)⟩ rfl rfl (Nat.le_of_ble_eq_true rfl) (Nat.le_of_ble_eq_true rfl) (fun r9 J_42 hq9 => ?_)
            obtain ⟨z_42, rfl, hz_42, rfl, rfl⟩ := hq9
            refine tz_iload_n (pc := 45) dX12_timesOf_45 rfl rfl ?_
            have hg := hM.arg (t := t) (i := i) ht (by omega)
            have hb9 := mcn_rg hM (v := v) (t := (J 167 (3 * (b + t) + i))) (by omega)
            refine tz_cV (pc := 46) (ih _ _ _ (by omega) (by omega) b r d s m hM (by omega) (by omega) (by omega)) vl_X12_129 dX12_timesOf_46 o_164 rfl rfl (Nat.le_of_ble_eq_true rfl) ⟨(show (3 + 1 * r9) + 1 ≤ 3 + 1 * (r9 + 1) by omega), (show 8 + (5 + 11) + 40 * ((3 + 1 * r9)) ≤ 40 * (3 + 1 * (r9 + 1)) by omega)⟩ rfl rfl (Nat.le_of_ble_eq_true rfl) (Nat.le_of_ble_eq_true rfl) (fun r9 J_46 hq9 => ?_)
            obtain ⟨z_46, rfl, hz_46, rfl, rfl⟩ := hq9
            refine tz_iadd (pc := 49) (v := q + (mcn J b d v (J 167 (3 * (b + t) + i)))) dX12_timesOf_49 rfl ?_
            refine tz_istore_n (pc := 50) (L2 := [_, _, _, _, _]) dX12_timesOf_50 rfl (by decide) rfl ?_
            refine tz_iinc (pc := 51) (z := i + 1) (L2 := [_, _, _, _, _]) dX12_timesOf_51 rfl (by omega) rfl ?_
            refine tz_goto (pc := 54) (tgt := 26) dX12_timesOf_54 (by decide) ?_
            exact ih26 _ (i + 1) (by omega) (by omega) (by rw [sps_s hi.1, hq]; show _ = mgc J b v t + (sps (mcn J b d v) (mag J b) t i.toNat + mcn J b d v (J 167 (3 * (b + t) + i))); omega) (by omega)
      exact loop26 _ _ 0 (Nat.lt_succ_self _) (by omega) (by show _ = _ + 0; unfold mgc; first | (rw [if_pos (by omega)]; rfl) | (rw [if_neg (by omega)]; rfl)) (by omega)

theorem x_weight {l : Launch} {G : tb_G} (hl : l.stackTraces = false) (n : Nat) (J : zJ) (t : Int)  (hr_t : -2147483648 ≤ t ∧ t < 2147483648) (b r d s m : Int) (hM : MS J b r d s m) (ht : 0 ≤ t ∧ t < m) (hw : ∀ k, 0 ≤ k → k < s → 1 ≤ J 171 (d + k) ∧ J 171 (d + k) ≤ 9) : tz_Ok l G M_X12_weightOf 10 0 0 [.ref 164, zi t] n J (zqi (fun z J' => J = J' ∧ mwt J b d t = z)) zN := x_weightR hl n 7 J t hr_t b r d s m hM ht hw (by have := (hM.ar ht).2.2.1; omega)
theorem x_times {l : Launch} {G : tb_G} (hl : l.stackTraces = false) (n : Nat) (J : zJ) (t : Int)  (v : Int)  (hr_t : -2147483648 ≤ t ∧ t < 2147483648) (hr_v : -2147483648 ≤ v ∧ v < 2147483648) (b r d s m : Int) (hM : MS J b r d s m) (ht : 0 ≤ t ∧ t < m) (hv : 0 ≤ v ∧ v < 8) : tz_Ok l G M_X12_timesOf 10 0 0 [.ref 164, zi t, zi v] n J (zqi (fun z J' => J = J' ∧ mcn J b d v t = z)) zN := x_timesR hl n 7 J t v hr_t hr_v b r d s m hM ht hv (by have := (hM.ar ht).2.2.1; omega)
set_option maxHeartbeats 4000000 in
set_option maxRecDepth 100000 in
theorem x_greaterR {l : Launch} {G : tb_G} (hl : l.stackTraces = false) (n : Nat) : ∀ (r9 : Nat) (J : zJ) (u : Int) (t : Int) (hr_u : -2147483648 ≤ u ∧ u < 2147483648) (hr_t : -2147483648 ≤ t ∧ t < 2147483648) (b r d s m : Int) (hM : MS J b r d s m) (hs : 0 ≤ u ∧ u < m) (ht : 0 ≤ t ∧ t < m) (hw : ∀ k, 0 ≤ k → k < s → 1 ≤ J 171 (d + k) ∧ J 171 (d + k) ≤ 9), ((J 168 (b + u)).toNat) < r9 → tz_Ok l G M_X12_isGreater (12 + 1 * r9) 0 0 [.ref 164, zi u, zi t] n J (zqi (fun z J' => J = J' ∧ ((z = 1 ∧ mgt J b d 6 u t) ∨ (z = 0 ∧ ¬ mgt J b d 6 u t)))) zN := by
  intro r9
  induction r9 with
  | zero => intro J u t hr_u hr_t b r d s m hM hs ht hw hm9; exact absurd hm9 (Nat.not_lt_zero _)
  | succ r9 ih =>
    intro J u t hr_u hr_t b r d s m hM hs ht hw hm9
    refine tz_Ok.of hl (by decide +kernel) rfl (tb_c1 rfl) (Nat.le_of_ble_eq_true rfl) ?_
    show tz_At l G M_X12_isGreater (tb_rm (12 + 1 * (r9 + 1)) 0 0) none (tb_ZM G 0 0 (zQ n 0 (zqi (fun z J' => J = J' ∧ ((z = 1 ∧ mgt J b d 6 u t) ∨ (z = 0 ∧ ¬ mgt J b d 6 u t))))) (zX n 0 zN)) 0 0 n J 0 [some (.ref 164), some (zi u), some (zi t), none, none] []
    obtain ⟨hM1, hM2, hM3, hM4, hM5, hM6⟩ := id hM
    have hT := hM.told
    have ha := hM.ar hs
    have hb := hM.ar ht
    refine tz_iload_n (pc := 0) dX12_isGreater_0 rfl rfl ?_
    refine tz_iload_n (pc := 1) dX12_isGreater_1 rfl rfl ?_
    refine tz_icmp_ne (pc := 2) (tgt := 7) dX12_isGreater_2 (by decide) (by omega) (by omega) (fun h_2 => ?_) (fun h_2 => ?_)
    · have ne9 : ¬ u = t := by omega
      refine tz_iconst (pc := 7) dX12_isGreater_7 ?_
      refine tz_istore_n (pc := 8) (L2 := [_, _, _, _, _]) dX12_isGreater_8 rfl (by decide) rfl ?_
      have loop9 : ∀ (f9 : Nat) (v : Int), ((8 - v).toNat) < f9 → (0 ≤ v ∧ v ≤ 8) → (∀ q, 0 ≤ q → q < v → mcn J b d q t ≤ mcn J b d q u) → tz_At l G M_X12_isGreater (tb_rm (12 + 1 * (r9 + 1)) 0 0) none (tb_ZM G 0 0 (zQ n 0 (zqi (fun z J' => J = J' ∧ ((z = 1 ∧ mgt J b d 6 u t) ∨ (z = 0 ∧ ¬ mgt J b d 6 u t))))) (zX n 0 zN)) 0 0 n J 9 [some (.ref 164), some (zi u), some (zi t), some (zi v), none] [] := by
        intro f9
        induction f9 with
        | zero => intro v hm9; exact absurd hm9 (Nat.not_lt_zero _)
        | succ f9 ih9 =>
          intro v hm9 hv hall
          refine tz_iload_n (pc := 9) dX12_isGreater_9 rfl rfl ?_
          refine tz_bipush (pc := 10) dX12_isGreater_10 (by decide) ?_
          refine tz_icmp_ge (pc := 12) (tgt := 38) dX12_isGreater_12 (by decide) (by omega) (by decide) (fun h_12 => ?_) (fun h_12 => ?_)
          · have hv9 : ∀ q, 0 ≤ q → q < 8 → mcn J b d q t ≤ mcn J b d q u := fun q x y => hall q x (by omega)
            refine tz_aload_n (pc := 38) dX12_isGreater_38 rfl rfl ?_
            refine tz_iload_n (pc := 39) dX12_isGreater_39 rfl rfl ?_
            have wt_40 := mwt_rg hM hw (t := u) (by omega)
            refine tz_cV (pc := 40) (x_weight hl n _ _ (by omega) b r d s m hM (by omega) hw) vl_X12_120 dX12_isGreater_40 o_164 rfl rfl (Nat.le_of_ble_eq_true rfl) ⟨(show 10 + 1 ≤ 12 + 1 * (r9 + 1) by omega), (show 8 + (4 + 11) + 40 * (10) ≤ 40 * (12 + 1 * (r9 + 1)) by omega)⟩ rfl rfl (Nat.le_of_ble_eq_true rfl) (Nat.le_of_ble_eq_true rfl) (fun r9 J_40 hq9 => ?_)
            obtain ⟨z_40, rfl, hz_40, rfl, rfl⟩ := hq9
            refine tz_aload_n (pc := 43) dX12_isGreater_43 rfl rfl ?_
            refine tz_iload_n (pc := 44) dX12_isGreater_44 rfl rfl ?_
            have wt_45 := mwt_rg hM hw (t := t) (by omega)
            refine tz_cV (pc := 45) (x_weight hl n _ _ (by omega) b r d s m hM (by omega) hw) vl_X12_120 dX12_isGreater_45 o_164 rfl rfl (Nat.le_of_ble_eq_true rfl) ⟨(show 10 + 1 ≤ 12 + 1 * (r9 + 1) by omega), (show 8 + (4 + 11) + 40 * (10) ≤ 40 * (12 + 1 * (r9 + 1)) by omega)⟩ rfl rfl (Nat.le_of_ble_eq_true rfl) (Nat.le_of_ble_eq_true rfl) (fun r9 J_45 hq9 => ?_)
            obtain ⟨z_45, rfl, hz_45, rfl, rfl⟩ := hq9
            refine tz_isub (pc := 48) (v := (mwt J b d u) - (mwt J b d t)) dX12_isGreater_48 rfl ?_
            refine tz_istore_n (pc := 49) (L2 := [_, _, _, _, _]) dX12_isGreater_49 rfl (by decide) rfl ?_
            refine tz_iload_n (pc := 50) dX12_isGreater_50 rfl rfl ?_
            refine tz_if_eq (pc := 51) (tgt := 64) dX12_isGreater_51 (by decide) (by omega) (fun h_51 => ?_) (fun h_51 => ?_)
            · refine tz_aload_n (pc := 64) dX12_isGreater_64 rfl rfl ?_
              refine tz_iload_n (pc := 65) dX12_isGreater_65 rfl rfl ?_
              refine tz_cV (pc := 66) (m_isVar hl n _ _ (by omega) b r d s m hM (by omega)) vl_X12_78 dX12_isGreater_66 o_164 rfl rfl (Nat.le_of_ble_eq_true rfl) ⟨(show 1 + 1 ≤ 12 + 1 * (r9 + 1) by omega), (show 8 + (2 + 11) + 40 * (1) ≤ 40 * (12 + 1 * (r9 + 1)) by omega)⟩ rfl rfl (Nat.le_of_ble_eq_true rfl) (Nat.le_of_ble_eq_true rfl) (fun r9 J_66 hq9 => ?_)
              obtain ⟨z_66, rfl, hz_66, rfl, rfl⟩ := hq9
              by_cases hw_69 : J 166 (b + t) < 0
              · rw [show (if J 166 (b + t) < 0 then 1 else 0 : Int) = 1 from if_pos hw_69]
                refine tz_if_eqF (pc := 69) (tgt := 74) (by decide) dX12_isGreater_69 (by decide) (by decide) ?_
                refine tz_iconst (pc := 72) dX12_isGreater_72 ?_
                exact tz_zret (pc := 73) (z := 1) dX12_isGreater_73 rfl (Or.inr rfl) (Nat.le_of_ble_eq_true rfl) (Nat.le_of_ble_eq_true rfl) ⟨Nat.le_refl _, Nat.le_add_right _ _⟩ ⟨_, rfl, (by decide), ⟨rfl, Or.inl ⟨rfl, ne9, hv9, Or.inr ⟨by omega, Or.inl (by show J 166 (b + t) < 0; omega)⟩⟩⟩⟩
              · rw [show (if J 166 (b + t) < 0 then 1 else 0 : Int) = 0 from if_neg hw_69]
                refine tz_if_eqT (pc := 69) (tgt := 74) (by decide) dX12_isGreater_69 (by decide) (by decide) ?_
                refine tz_aload_n (pc := 74) dX12_isGreater_74 rfl rfl ?_
                refine tz_iload_n (pc := 75) dX12_isGreater_75 rfl rfl ?_
                refine tz_cV (pc := 76) (m_isVar hl n _ _ (by omega) b r d s m hM (by omega)) vl_X12_78 dX12_isGreater_76 o_164 rfl rfl (Nat.le_of_ble_eq_true rfl) ⟨(show 1 + 1 ≤ 12 + 1 * (r9 + 1) by omega), (show 8 + (2 + 11) + 40 * (1) ≤ 40 * (12 + 1 * (r9 + 1)) by omega)⟩ rfl rfl (Nat.le_of_ble_eq_true rfl) (Nat.le_of_ble_eq_true rfl) (fun r9 J_76 hq9 => ?_)
                obtain ⟨z_76, rfl, hz_76, rfl, rfl⟩ := hq9
                by_cases hw_79 : J 166 (b + u) < 0
                · rw [show (if J 166 (b + u) < 0 then 1 else 0 : Int) = 1 from if_pos hw_79]
                  refine tz_if_eqF (pc := 79) (tgt := 84) (by decide) dX12_isGreater_79 (by decide) (by decide) ?_
                  refine tz_iconst (pc := 82) dX12_isGreater_82 ?_
                  exact tz_zret (pc := 83) (z := 0) dX12_isGreater_83 rfl (Or.inl rfl) (Nat.le_of_ble_eq_true rfl) (Nat.le_of_ble_eq_true rfl) ⟨Nat.le_refl _, Nat.le_add_right _ _⟩ ⟨_, rfl, (by decide), ⟨rfl, Or.inr ⟨rfl, fun e => by rcases e.2.2 with q | ⟨_, q | ⟨q1, q2, q3⟩⟩; omega; (have q9 : J 166 (b + t) < 0 := q; omega); (have q9 : 0 ≤ J 166 (b + u) := q1; omega)⟩⟩⟩
                · rw [show (if J 166 (b + u) < 0 then 1 else 0 : Int) = 0 from if_neg hw_79]
                  refine tz_if_eqT (pc := 79) (tgt := 84) (by decide) dX12_isGreater_79 (by decide) (by decide) ?_
                  refine tz_aload_n (pc := 84) dX12_isGreater_84 rfl rfl ?_
                  refine tz_iload_n (pc := 85) dX12_isGreater_85 rfl rfl ?_
                  refine tz_cV (pc := 86) (m_head hl n _ _ (by omega) b r d s m hM (by omega)) vl_X12_74 dX12_isGreater_86 o_164 rfl rfl (Nat.le_of_ble_eq_true rfl) ⟨(show 0 + 1 ≤ 12 + 1 * (r9 + 1) by omega), (show 8 + (2 + 11) + 40 * (0) ≤ 40 * (12 + 1 * (r9 + 1)) by omega)⟩ rfl rfl (Nat.le_of_ble_eq_true rfl) (Nat.le_of_ble_eq_true rfl) (fun r9 J_86 hq9 => ?_)
                  obtain ⟨z_86, rfl, hz_86, rfl, rfl⟩ := hq9
                  refine tz_aload_n (pc := 89) dX12_isGreater_89 rfl rfl ?_
                  refine tz_iload_n (pc := 90) dX12_isGreater_90 rfl rfl ?_
                  refine tz_cV (pc := 91) (m_head hl n _ _ (by omega) b r d s m hM (by omega)) vl_X12_74 dX12_isGreater_91 o_164 rfl rfl (Nat.le_of_ble_eq_true rfl) ⟨(show 0 + 1 ≤ 12 + 1 * (r9 + 1) by omega), (show 8 + (2 + 11) + 40 * (0) ≤ 40 * (12 + 1 * (r9 + 1)) by omega)⟩ rfl rfl (Nat.le_of_ble_eq_true rfl) (Nat.le_of_ble_eq_true rfl) (fun r9 J_91 hq9 => ?_)
                  obtain ⟨z_91, rfl, hz_91, rfl, rfl⟩ := hq9
                  refine tz_icmp_eq (pc := 94) (tgt := 116) dX12_isGreater_94 (by decide) (by omega) (by omega) (fun h_94 => ?_) (fun h_94 => ?_)
                  · obtain ⟨i0, hi0, hn0⟩ := hM.unl hs ht (by omega) (by omega)
                    have he := MS.hd8 (J := J) (b := b) (d := d) (t := u) (u := t) (by omega)
                    refine tz_iconst (pc := 116) dX12_isGreater_116 ?_
                    refine tz_istore (pc := 117) (L2 := [_, _, _, _, _]) dX12_isGreater_117 (by decide) rfl ?_
                    have loop119 : ∀ (f9 : Nat) (i : Int), ((3 - i).toNat) < f9 → (0 ≤ i) → (∀ q, 0 ≤ q → q < i → J 167 (3 * (b + u) + q) = J 167 (3 * (b + t) + q)) → tz_At l G M_X12_isGreater (tb_rm (12 + 1 * (r9 + 1)) 0 0) none (tb_ZM G 0 0 (zQ n 0 (zqi (fun z J' => J = J' ∧ ((z = 1 ∧ mgt J b d 6 u t) ∨ (z = 0 ∧ ¬ mgt J b d 6 u t))))) (zX n 0 zN)) 0 0 n J 119 [some (.ref 164), some (zi u), some (zi t), some (zi ((mwt J b d u) - (mwt J b d t))), some (zi i)] [] := by
                      intro f9
                      induction f9 with
                      | zero => intro i hm9; exact absurd hm9 (Nat.not_lt_zero _)
                      | succ f9 ih119 =>
                        intro i hm119 hi hq
                        have hi9 : i ≤ i0 := Classical.byContradiction (fun e => hn0 (hq i0 hi0.1 (by omega)))
                        refine tz_aload_n (pc := 119) dX12_isGreater_119 rfl rfl ?_
                        refine tz_iload_n (pc := 120) dX12_isGreater_120 rfl rfl ?_
                        refine tz_iload (pc := 121) dX12_isGreater_121 rfl ?_
                        refine tz_cV (pc := 123) (m_arg hl n _ _ _ (by omega) (by omega) b r d s m hM (by omega) (by omega)) vl_X12_88 dX12_isGreater_123 o_164 rfl rfl (Nat.le_of_ble_eq_true rfl) ⟨(show 0 + 1 ≤ 12 + 1 * (r9 + 1) by omega), (show 8 + (3 + 11) + 40 * (0) ≤ 40 * (12 + 1 * (r9 + 1)) by omega)⟩ rfl rfl (Nat.le_of_ble_eq_true rfl) (Nat.le_of_ble_eq_true rfl) (fun r9 J_123 hq9 => ?_)
                        obtain ⟨z_123, rfl, hz_123, rfl, rfl⟩ := hq9
                        refine tz_aload_n (pc := 126) dX12_isGreater_126 rfl rfl ?_
                        refine tz_iload_n (pc := 127) dX12_isGreater_127 rfl rfl ?_
                        refine tz_iload (pc := 128) dX12_isGreater_128 rfl ?_
                        refine tz_cV (pc := 130) (m_arg hl n _ _ _ (by omega) (by omega) b r d s m hM (by omega) (by omega)) vl_X12_88 dX12_isGreater_130 o_164 rfl rfl (Nat.le_of_ble_eq_true rfl) ⟨(show 0 + 1 ≤ 12 + 1 * (r9 + 1) by omega), (show 8 + (3 + 11) + 40 * (0) ≤ 40 * (12 + 1 * (r9 + 1)) by omega)⟩ rfl rfl (Nat.le_of_ble_eq_true rfl) (Nat.le_of_ble_eq_true rfl) (fun r9 J_130 hq9 => ?_)
                        obtain ⟨z_130, rfl, hz_130, rfl, rfl⟩ := hq9
                        refine tz_icmp_ne (pc := 133) (tgt := 142) dX12_isGreater_133 (by decide) (by omega) (by omega) (fun h_133 => ?_) (fun h_133 => ?_)
                        · refine tz_aload_n (pc := 142) dX12_isGreater_142 rfl rfl ?_
                          refine tz_aload_n (pc := 143) dX12_isGreater_143 rfl rfl ?_
                          refine tz_iload_n (pc := 144) dX12_isGreater_144 rfl rfl ?_
                          refine tz_iload (pc := 145) dX12_isGreater_145 rfl ?_
                          refine tz_cV (pc := 147) (m_arg hl n _ _ _ (by omega) (by omega) b r d s m hM (by omega) (by omega)) vl_X12_88 dX12_isGreater_147 o_164 rfl rfl (Nat.le_of_ble_eq_true rfl) ⟨(show 0 + 1 ≤ 12 + 1 * (r9 + 1) by omega), (show 8 + (3 + 11) + 40 * (0) ≤ 40 * (12 + 1 * (r9 + 1)) by omega)⟩ rfl rfl (Nat.le_of_ble_eq_true rfl) (Nat.le_of_ble_eq_true rfl) (fun r9 J_147 hq9 => ?_)
                          obtain ⟨z_147, rfl, hz_147, rfl, rfl⟩ := hq9
                          refine tz_aload_n (pc := 150) dX12_isGreater_150 rfl rfl ?_
                          refine tz_iload_n (pc := 151) dX12_isGreater_151 rfl rfl ?_
                          refine tz_iload (pc := 152) dX12_isGreater_152 rfl ?_
                          refine tz_cV (pc := 154) (m_arg hl n _ _ _ (by omega) (by omega) b r d s m hM (by omega) (by omega)) vl_X12_88 dX12_isGreater_154 o_164 rfl rfl (Nat.le_of_ble_eq_true rfl) ⟨(show 0 + 1 ≤ 12 + 1 * (r9 + 1) by omega), (show 8 + (3 + 11) + 40 * (0) ≤ 40 * (12 + 1 * (r9 + 1)) by omega)⟩ rfl rfl (Nat.le_of_ble_eq_true rfl) (Nat.le_of_ble_eq_true rfl) (fun r9 J_154 hq9 => ?_)
                          obtain ⟨z_154, rfl, hz_154, rfl, rfl⟩ := hq9
                          have hg := hM.arg (t := u) (i := i) hs (by omega)
                          have hg2 := hM.arg (t := t) (i := i) ht (by omega)
                          have fu9 : fuB (mar J b d) (mag J b) u t i := ⟨by omega, by show ¬ J 167 (3 * (b + u) + i) = J 167 (3 * (b + t) + i); omega, hq⟩
                          have du9 := (hM.ar hs).2.2.1
                          refine tz_cV (pc := 157) (ih _ _ _ (by omega) (by omega) b r d s m hM (by omega) (by omega) hw (by omega)) vl_X12_142 dX12_isGreater_157 o_164 rfl rfl (Nat.le_of_ble_eq_true rfl) ⟨(show (12 + 1 * r9) + 1 ≤ 12 + 1 * (r9 + 1) by omega), (show 8 + (5 + 11) + 40 * ((12 + 1 * r9)) ≤ 40 * (12 + 1 * (r9 + 1)) by omega)⟩ rfl rfl (Nat.le_of_ble_eq_true rfl) (Nat.le_of_ble_eq_true rfl) (fun r9 J_157 hq9 => ?_)
                          obtain ⟨z_157, rfl, hz_157, rfl, hz1⟩ := hq9
                          have st9 := gtP_st (cn := mcn J b d) (wt := mwt J b d) (hd := fun t => J 166 (b + t)) hM.td 5 6 (J 167 (3 * (b + u) + i)) (J 167 (3 * (b + t) + i)) (by omega) (by show J 168 (b + J 167 (3 * (b + u) + i)) ≤ ((5 : Nat) : Int); omega) (by show J 168 (b + J 167 (3 * (b + u) + i)) ≤ ((6 : Nat) : Int); omega)
                          exact tz_zret (pc := 160) (z := z_157) dX12_isGreater_160 rfl (by omega) (Nat.le_of_ble_eq_true rfl) (Nat.le_of_ble_eq_true rfl) ⟨Nat.le_refl _, Nat.le_add_right _ _⟩ ⟨_, rfl, (by omega), ⟨rfl, by rcases hz1 with ⟨e1, e2⟩ | ⟨e1, e2⟩; exact Or.inl ⟨e1, ne9, hv9, Or.inr ⟨by omega, Or.inr ⟨by show 0 ≤ J 166 (b + u); omega, by show 0 ≤ J 166 (b + t); omega, Or.inr ⟨by show J 166 (b + u) = J 166 (b + t); omega, i, fu9, st9.2 e2⟩⟩⟩⟩; exact Or.inr ⟨e1, fun e => e2 (by rcases e.2.2 with q | ⟨_, q | ⟨q1, q2, q3⟩⟩; omega; (have q9 : J 166 (b + t) < 0 := q; omega); (rcases q3 with q4 | ⟨q4, i2, q5, q6⟩; (have q9 : J 166 (b + t) < J 166 (b + u) := q4; omega); (have ei := fuB_u q5 fu9; subst ei; exact st9.1 q6)))⟩⟩⟩
                        · refine tz_iinc (pc := 136) (z := i + 1) (L2 := [_, _, _, _, _]) dX12_isGreater_136 rfl (by omega) rfl ?_
                          refine tz_goto (pc := 139) (tgt := 119) dX12_isGreater_139 (by decide) ?_
                          exact ih119 (i + 1) (by omega) (by omega) (fun q x y => (Decidable.em (q = i)).elim (fun e => by rw [e]; omega) (fun e => hq q x (by omega)))
                    exact loop119 _ 0 (Nat.lt_succ_self _) (by omega) (fun q x y => by omega)
                  · refine tz_aload_n (pc := 97) dX12_isGreater_97 rfl rfl ?_
                    refine tz_iload_n (pc := 98) dX12_isGreater_98 rfl rfl ?_
                    refine tz_cV (pc := 99) (m_head hl n _ _ (by omega) b r d s m hM (by omega)) vl_X12_74 dX12_isGreater_99 o_164 rfl rfl (Nat.le_of_ble_eq_true rfl) ⟨(show 0 + 1 ≤ 12 + 1 * (r9 + 1) by omega), (show 8 + (2 + 11) + 40 * (0) ≤ 40 * (12 + 1 * (r9 + 1)) by omega)⟩ rfl rfl (Nat.le_of_ble_eq_true rfl) (Nat.le_of_ble_eq_true rfl) (fun r9 J_99 hq9 => ?_)
                    obtain ⟨z_99, rfl, hz_99, rfl, rfl⟩ := hq9
                    refine tz_aload_n (pc := 102) dX12_isGreater_102 rfl rfl ?_
                    refine tz_iload_n (pc := 103) dX12_isGreater_103 rfl rfl ?_
                    refine tz_cV (pc := 104) (m_head hl n _ _ (by omega) b r d s m hM (by omega)) vl_X12_74 dX12_isGreater_104 o_164 rfl rfl (Nat.le_of_ble_eq_true rfl) ⟨(show 0 + 1 ≤ 12 + 1 * (r9 + 1) by omega), (show 8 + (2 + 11) + 40 * (0) ≤ 40 * (12 + 1 * (r9 + 1)) by omega)⟩ rfl rfl (Nat.le_of_ble_eq_true rfl) (Nat.le_of_ble_eq_true rfl) (fun r9 J_104 hq9 => ?_)
                    obtain ⟨z_104, rfl, hz_104, rfl, rfl⟩ := hq9
                    refine tz_icmp_le (pc := 107) (tgt := 114) dX12_isGreater_107 (by decide) (by omega) (by omega) (fun h_107 => ?_) (fun h_107 => ?_)
                    · refine tz_iconst (pc := 114) dX12_isGreater_114 ?_
                      exact tz_zret (pc := 115) (z := 0) dX12_isGreater_115 rfl (Or.inl rfl) (Nat.le_of_ble_eq_true rfl) (Nat.le_of_ble_eq_true rfl) ⟨Nat.le_refl _, Nat.le_add_right _ _⟩ ⟨_, rfl, (by decide), ⟨rfl, Or.inr ⟨rfl, fun e => by rcases e.2.2 with q | ⟨_, q | ⟨q1, q2, q3⟩⟩; omega; (have q9 : J 166 (b + t) < 0 := q; omega); (rcases q3 with q4 | q4; (have q9 : J 166 (b + t) < J 166 (b + u) := q4; omega); (have q9 : J 166 (b + u) = J 166 (b + t) := q4.1; omega))⟩⟩⟩
                    · refine tz_iconst (pc := 110) dX12_isGreater_110 ?_
                      refine tz_goto (pc := 111) (tgt := 115) dX12_isGreater_111 (by decide) ?_
                      exact tz_zret (pc := 115) (z := 1) dX12_isGreater_115 rfl (Or.inr rfl) (Nat.le_of_ble_eq_true rfl) (Nat.le_of_ble_eq_true rfl) ⟨Nat.le_refl _, Nat.le_add_right _ _⟩ ⟨_, rfl, (by decide), ⟨rfl, Or.inl ⟨rfl, ne9, hv9, Or.inr ⟨by omega, Or.inr ⟨by show 0 ≤ J 166 (b + u); omega, by show 0 ≤ J 166 (b + t); omega, Or.inl (by show J 166 (b + t) < J 166 (b + u); omega)⟩⟩⟩⟩⟩
            · refine tz_iload_n (pc := 54) dX12_isGreater_54 rfl rfl ?_
              refine tz_if_le (pc := 55) (tgt := 62) dX12_isGreater_55 (by decide) (by omega) (fun h_55 => ?_) (fun h_55 => ?_)
              · refine tz_iconst (pc := 62) dX12_isGreater_62 ?_
                exact tz_zret (pc := 63) (z := 0) dX12_isGreater_63 rfl (Or.inl rfl) (Nat.le_of_ble_eq_true rfl) (Nat.le_of_ble_eq_true rfl) ⟨Nat.le_refl _, Nat.le_add_right _ _⟩ ⟨_, rfl, (by decide), ⟨rfl, Or.inr ⟨rfl, fun e => by rcases e.2.2 with q | q; omega; have := q.1; omega⟩⟩⟩
              · refine tz_iconst (pc := 58) dX12_isGreater_58 ?_
                refine tz_goto (pc := 59) (tgt := 63) dX12_isGreater_59 (by decide) ?_
                exact tz_zret (pc := 63) (z := 1) dX12_isGreater_63 rfl (Or.inr rfl) (Nat.le_of_ble_eq_true rfl) (Nat.le_of_ble_eq_true rfl) ⟨Nat.le_refl _, Nat.le_add_right _ _⟩ ⟨_, rfl, (by decide), ⟨rfl, Or.inl ⟨rfl, ne9, hv9, Or.inl (by omega)⟩⟩⟩
          · refine tz_aload_n (pc := 15) dX12_isGreater_15 rfl rfl ?_
            refine tz_iload_n (pc := 16) dX12_isGreater_16 rfl rfl ?_
            refine tz_iload_n (pc := 17) dX12_isGreater_17 rfl rfl ?_
            have ct_18 := mcn_rg hM (v := v) (t := u) (by omega)
            refine tz_cV (pc := 18) (x_times hl n _ _ _ (by omega) (by omega) b r d s m hM (by omega) (by omega)) vl_X12_129 dX12_isGreater_18 o_164 rfl rfl (Nat.le_of_ble_eq_true rfl) ⟨(show 10 + 1 ≤ 12 + 1 * (r9 + 1) by omega), (show 8 + (5 + 11) + 40 * (10) ≤ 40 * (12 + 1 * (r9 + 1)) by omega)⟩ rfl rfl (Nat.le_of_ble_eq_true rfl) (Nat.le_of_ble_eq_true rfl) (fun r9 J_18 hq9 => ?_)
            obtain ⟨z_18, rfl, hz_18, rfl, rfl⟩ := hq9
            refine tz_aload_n (pc := 21) dX12_isGreater_21 rfl rfl ?_
            refine tz_iload_n (pc := 22) dX12_isGreater_22 rfl rfl ?_
            refine tz_iload_n (pc := 23) dX12_isGreater_23 rfl rfl ?_
            have ct_24 := mcn_rg hM (v := v) (t := t) (by omega)
            refine tz_cV (pc := 24) (x_times hl n _ _ _ (by omega) (by omega) b r d s m hM (by omega) (by omega)) vl_X12_129 dX12_isGreater_24 o_164 rfl rfl (Nat.le_of_ble_eq_true rfl) ⟨(show 10 + 1 ≤ 12 + 1 * (r9 + 1) by omega), (show 8 + (5 + 11) + 40 * (10) ≤ 40 * (12 + 1 * (r9 + 1)) by omega)⟩ rfl rfl (Nat.le_of_ble_eq_true rfl) (Nat.le_of_ble_eq_true rfl) (fun r9 J_24 hq9 => ?_)
            obtain ⟨z_24, rfl, hz_24, rfl, rfl⟩ := hq9
            refine tz_icmp_ge (pc := 27) (tgt := 32) dX12_isGreater_27 (by decide) (by omega) (by omega) (fun h_27 => ?_) (fun h_27 => ?_)
            · refine tz_iinc (pc := 32) (z := v + 1) (L2 := [_, _, _, _, _]) dX12_isGreater_32 rfl (by omega) rfl ?_
              refine tz_goto (pc := 35) (tgt := 9) dX12_isGreater_35 (by decide) ?_
              exact ih9 (v + 1) (by omega) (by omega) (fun q x y => (Decidable.em (q = v)).elim (fun e => by rw [e]; omega) (fun e => hall q x (by omega)))
            · refine tz_iconst (pc := 30) dX12_isGreater_30 ?_
              exact tz_zret (pc := 31) (z := 0) dX12_isGreater_31 rfl (Or.inl rfl) (Nat.le_of_ble_eq_true rfl) (Nat.le_of_ble_eq_true rfl) ⟨Nat.le_refl _, Nat.le_add_right _ _⟩ ⟨_, rfl, (by decide), ⟨rfl, Or.inr ⟨rfl, fun e => by have := e.2.1 v (by omega) (by omega); omega⟩⟩⟩
      exact loop9 _ 0 (Nat.lt_succ_self _) (by omega) (fun q x y => by omega)
    · refine tz_iconst (pc := 5) dX12_isGreater_5 ?_
      exact tz_zret (pc := 6) (z := 0) dX12_isGreater_6 rfl (Or.inl rfl) (Nat.le_of_ble_eq_true rfl) (Nat.le_of_ble_eq_true rfl) ⟨Nat.le_refl _, Nat.le_add_right _ _⟩ ⟨_, rfl, (by decide), ⟨rfl, Or.inr ⟨rfl, fun e => absurd (show u = t by omega) e.1⟩⟩⟩

theorem x_greater {l : Launch} {G : tb_G} (hl : l.stackTraces = false) (n : Nat) (J : zJ) (u : Int)  (t : Int)  (hr_u : -2147483648 ≤ u ∧ u < 2147483648) (hr_t : -2147483648 ≤ t ∧ t < 2147483648) (b r d s m : Int) (hM : MS J b r d s m) (hs : 0 ≤ u ∧ u < m) (ht : 0 ≤ t ∧ t < m) (hw : ∀ k, 0 ≤ k → k < s → 1 ≤ J 171 (d + k) ∧ J 171 (d + k) ≤ 9) : tz_Ok l G M_X12_isGreater 19 0 0 [.ref 164, zi u, zi t] n J (zqi (fun z J' => J = J' ∧ ((z = 1 ∧ mgt J b d 6 u t) ∨ (z = 0 ∧ ¬ mgt J b d 6 u t)))) zN := x_greaterR hl n 7 J u t hr_u hr_t b r d s m hM hs ht hw (by have := (hM.ar hs).2.2.1; omega)
def mru (J : zJ) (b d u t : Int) : Prop := 0 ≤ J 166 (b + u) ∧ mgt J b d 6 u t ∧ msz J b d u ≤ 12 ∧ msz J b d t ≤ 12
set_option maxHeartbeats 4000000 in
set_option maxRecDepth 100000 in
theorem x_isRule {l : Launch} {G : tb_G} (hl : l.stackTraces = false) (n : Nat) (J : zJ) (u : Int) (t : Int) (hr_u : -2147483648 ≤ u ∧ u < 2147483648) (hr_t : -2147483648 ≤ t ∧ t < 2147483648) (b r d s m : Int) (hM : MS J b r d s m) (hs : 0 ≤ u ∧ u < m) (ht : 0 ≤ t ∧ t < m) (hw : ∀ k, 0 ≤ k → k < s → 1 ≤ J 171 (d + k) ∧ J 171 (d + k) ≤ 9) : tz_Ok l G M_X12_isRule 20 0 0 [.ref 164, zi u, zi t] n J (zqi (fun z J' => J = J' ∧ ((z = 1 ∧ mru J b d u t) ∨ (z = 0 ∧ ¬ mru J b d u t)))) zN := by
  refine tz_Ok.of hl (by decide +kernel) rfl (tb_c1 rfl) (Nat.le_of_ble_eq_true rfl) ?_
  show tz_At l G M_X12_isRule (tb_rm 20 0 0) none (tb_ZM G 0 0 (zQ n 0 (zqi (fun z J' => J = J' ∧ ((z = 1 ∧ mru J b d u t) ∨ (z = 0 ∧ ¬ mru J b d u t))))) (zX n 0 zN)) 0 0 n J 0 [some (.ref 164), some (zi u), some (zi t)] []
  obtain ⟨hM1, hM2, hM3, hM4, hM5, hM6⟩ := id hM
  have hT := hM.told
  refine tz_aload_n (pc := 0) dX12_isRule_0 rfl rfl ?_
  refine tz_iload_n (pc := 1) dX12_isRule_1 rfl rfl ?_
  refine tz_cV (pc := 2) (m_isVar hl n _ _ (by omega) b r d s m hM (by omega)) vl_X12_78 dX12_isRule_2 o_164 rfl rfl (Nat.le_of_ble_eq_true rfl) ⟨(Nat.le_of_ble_eq_true rfl), (Nat.le_of_ble_eq_true rfl)⟩ rfl rfl (Nat.le_of_ble_eq_true rfl) (Nat.le_of_ble_eq_true rfl) (fun r9 J_2 hq9 => ?_)
  obtain ⟨z_2, rfl, hz_2, rfl, rfl⟩ := hq9
  by_cases hw_5 : J 166 (b + u) < 0
  · rw [show (if J 166 (b + u) < 0 then 1 else 0 : Int) = 1 from if_pos hw_5]
    refine tz_if_neT (pc := 5) (tgt := 41) (by decide) dX12_isRule_5 (by decide) (by decide) ?_
    refine tz_iconst (pc := 41) dX12_isRule_41 ?_
    exact tz_zret (pc := 42) (z := 0) dX12_isRule_42 rfl (Or.inl rfl) (Nat.le_of_ble_eq_true rfl) (Nat.le_of_ble_eq_true rfl) ⟨Nat.le_refl _, Nat.le_add_right _ _⟩ ⟨_, rfl, (by decide), ⟨rfl, Or.inr ⟨rfl, fun e => by obtain ⟨e1, e2, e3, e4⟩ := e; first | omega | (rcases hz1 with q | q; omega; exact q.2 e2)⟩⟩⟩
  · rw [show (if J 166 (b + u) < 0 then 1 else 0 : Int) = 0 from if_neg hw_5]
    refine tz_if_neF (pc := 5) (tgt := 41) (by decide) dX12_isRule_5 (by decide) (by decide) ?_
    refine tz_aload_n (pc := 8) dX12_isRule_8 rfl rfl ?_
    refine tz_iload_n (pc := 9) dX12_isRule_9 rfl rfl ?_
    refine tz_iload_n (pc := 10) dX12_isRule_10 rfl rfl ?_
    refine tz_cV (pc := 11) (x_greater hl n _ _ _ (by omega) (by omega) b r d s m hM hs ht hw) vl_X12_142 dX12_isRule_11 o_164 rfl rfl (Nat.le_of_ble_eq_true rfl) ⟨(Nat.le_of_ble_eq_true rfl), (Nat.le_of_ble_eq_true rfl)⟩ rfl rfl (Nat.le_of_ble_eq_true rfl) (Nat.le_of_ble_eq_true rfl) (fun r9 J_11 hq9 => ?_)
    obtain ⟨z_11, rfl, hz_11, rfl, hz1⟩ := hq9
    refine tz_if_eq (pc := 14) (tgt := 41) dX12_isRule_14 (by decide) (by omega) (fun h_14 => ?_) (fun h_14 => ?_)
    · refine tz_iconst (pc := 41) dX12_isRule_41 ?_
      exact tz_zret (pc := 42) (z := 0) dX12_isRule_42 rfl (Or.inl rfl) (Nat.le_of_ble_eq_true rfl) (Nat.le_of_ble_eq_true rfl) ⟨Nat.le_refl _, Nat.le_add_right _ _⟩ ⟨_, rfl, (by decide), ⟨rfl, Or.inr ⟨rfl, fun e => by obtain ⟨e1, e2, e3, e4⟩ := e; first | omega | (rcases hz1 with q | q; omega; exact q.2 e2)⟩⟩⟩
    · refine tz_aload_n (pc := 17) dX12_isRule_17 rfl rfl ?_
      refine tz_iload_n (pc := 18) dX12_isRule_18 rfl rfl ?_
      have hs_19 := hM.sz (t := u) (by omega)
      refine tz_cV (pc := 19) (m_size hl n _ _ (by omega) b r d s m hM (by omega)) vl_X12_114 dX12_isRule_19 o_164 rfl rfl (Nat.le_of_ble_eq_true rfl) ⟨(Nat.le_of_ble_eq_true rfl), (Nat.le_of_ble_eq_true rfl)⟩ rfl rfl (Nat.le_of_ble_eq_true rfl) (Nat.le_of_ble_eq_true rfl) (fun r9 J_19 hq9 => ?_)
      obtain ⟨z_19, rfl, hz_19, rfl, rfl⟩ := hq9
      refine tz_bipush (pc := 22) dX12_isRule_22 (by decide) ?_
      refine tz_icmp_gt (pc := 24) (tgt := 41) dX12_isRule_24 (by decide) (by omega) (by decide) (fun h_24 => ?_) (fun h_24 => ?_)
      · refine tz_iconst (pc := 41) dX12_isRule_41 ?_
        exact tz_zret (pc := 42) (z := 0) dX12_isRule_42 rfl (Or.inl rfl) (Nat.le_of_ble_eq_true rfl) (Nat.le_of_ble_eq_true rfl) ⟨Nat.le_refl _, Nat.le_add_right _ _⟩ ⟨_, rfl, (by decide), ⟨rfl, Or.inr ⟨rfl, fun e => by obtain ⟨e1, e2, e3, e4⟩ := e; first | omega | (rcases hz1 with q | q; omega; exact q.2 e2)⟩⟩⟩
      · refine tz_aload_n (pc := 27) dX12_isRule_27 rfl rfl ?_
        refine tz_iload_n (pc := 28) dX12_isRule_28 rfl rfl ?_
        have hs_29 := hM.sz (t := t) (by omega)
        refine tz_cV (pc := 29) (m_size hl n _ _ (by omega) b r d s m hM (by omega)) vl_X12_114 dX12_isRule_29 o_164 rfl rfl (Nat.le_of_ble_eq_true rfl) ⟨(Nat.le_of_ble_eq_true rfl), (Nat.le_of_ble_eq_true rfl)⟩ rfl rfl (Nat.le_of_ble_eq_true rfl) (Nat.le_of_ble_eq_true rfl) (fun r9 J_29 hq9 => ?_)
        obtain ⟨z_29, rfl, hz_29, rfl, rfl⟩ := hq9
        refine tz_bipush (pc := 32) dX12_isRule_32 (by decide) ?_
        refine tz_icmp_gt (pc := 34) (tgt := 41) dX12_isRule_34 (by decide) (by omega) (by decide) (fun h_34 => ?_) (fun h_34 => ?_)
        · refine tz_iconst (pc := 41) dX12_isRule_41 ?_
          exact tz_zret (pc := 42) (z := 0) dX12_isRule_42 rfl (Or.inl rfl) (Nat.le_of_ble_eq_true rfl) (Nat.le_of_ble_eq_true rfl) ⟨Nat.le_refl _, Nat.le_add_right _ _⟩ ⟨_, rfl, (by decide), ⟨rfl, Or.inr ⟨rfl, fun e => by obtain ⟨e1, e2, e3, e4⟩ := e; first | omega | (rcases hz1 with q | q; omega; exact q.2 e2)⟩⟩⟩
        · refine tz_iconst (pc := 37) dX12_isRule_37 ?_
          refine tz_goto (pc := 38) (tgt := 42) dX12_isRule_38 (by decide) ?_
          exact tz_zret (pc := 42) (z := 1) dX12_isRule_42 rfl (Or.inr rfl) (Nat.le_of_ble_eq_true rfl) (Nat.le_of_ble_eq_true rfl) ⟨Nat.le_refl _, Nat.le_add_right _ _⟩ ⟨_, rfl, (by decide), ⟨rfl, Or.inl ⟨rfl, by omega, by rcases hz1 with q | q; exact q.2; omega, by omega, by omega⟩⟩⟩

