/-! ===== normal of the reference, exact ===== -/
theorem MOP.np {Jo Jb : zJ} {s m m' : Int} (g : NP Jo Jb 0 0 0 s m m') : MOP Jo Jb m := by
  obtain ⟨_, ⟨g1, g2, ⟨f1, f2, f3, f4⟩, g4⟩, _⟩ := g
  have r : ∀ k : Int, 63 ≤ k → rM k = false := fun k h => by simp [rM]; omega
  refine ⟨⟨fun k a => f2 k (by omega) (r k (by omega)), fun k a b => f1.1 k (by omega), fun k a b => f1.2 k (by omega), f3 12 (by decide), f3 13 (by decide)⟩, fun k a => f2 k (by omega) (r k a), ⟨f3 9 (by decide), f3 10 (by decide), f3 11 (by decide)⟩, fun t a b => ?_, fun k a b => ?_, fun k _ _ => ⟨by rw [f4 169 rfl], by rw [f4 170 rfl], by rw [f4 171 rfl]⟩⟩
  · have := (g2 t a b).1
    rw [Int.zero_add] at this
    exact this
  · have := (g2 (k / 3) (by omega) (by omega)).2 (k % 3) (by omega) (by omega)
    rw [show 3 * (0 + k / 3) + k % 3 = k from by omega] at this
    exact this
/-- the machine stops where the reference tells it -/
theorem noc_fn {B σ t z : Int} {S J' : zJ} (h : NOC B S σ t J' z) (hB : B ≤ 2912) (hσ : 0 ≤ σ) (h4 : J' 164 34 ≤ 101) : (NGO J' ∧ 0 ≤ z ∧ nFN S σ t = ((tb0 J', J' 164 34), [], z)) ∨ ∃ Q v, NSV J' v ∧ nFN S σ t = (Q, [], v) := by
  have k : ∀ n : Nat, n ≤ 1000000 → ∀ Q v, nIT n (nOP S σ [] t) = (Q, [], v) → nFN S σ t = (Q, [], v) := fun n hn Q v e => by
    unfold nFN
    rw [show 1000000 = n + (1000000 - n) by omega, nIT_add, e, nIT_e]
  rcases h with ⟨g, z0, n, p, q⟩ | ⟨n, Q, v, g, p, q⟩
  · exact Or.inl ⟨g, z0, k n (by omega) _ _ (q [])⟩
  · exact Or.inr ⟨Q, v, g, k n (by omega) _ _ (q [])⟩
def MRE (S : zJ) (n : Int) (R : Int → Int → Int) (c : NCf) (J' : zJ) (z : Int) : Prop := c.2.1 = [] ∧ ((0 ≤ c.2.2 ∧ z = c.2.2 ∧ (MBT J' c.1.1 ∧ c.1.1 165 0 ≤ 400) ∧ MUr J' (psn n) (psh n R (S 165))) ∨ (c.2.2 = -3 ∧ z = -3 ∧ MBT J' S ∧ MUr J' n R) ∨ (c.2.2 = -4 ∧ z = -2 ∧ MBT J' S ∧ MUr J' n R))
theorem nrq_end {Jb Jo J' S : zJ} {n m a z t : Int} {R : Int → Int → Int} (hb : tb0 Jb = S) (hS : S 165 0 = m) (hm : m ≤ 400) (hA : ∀ q, 0 ≤ q → q < 63 → Jb 165 (63 + q) = S 165 q) (u : MUr Jb n R) (hn : 0 ≤ n ∧ n ≤ 40) (h11 : 0 ≤ Jb 164 11 ∧ Jb 164 11 < 40) (p : MOP Jo Jb m) (hm' : Jo 165 0 ≤ 400) (h4 : Jo 164 34 ≤ 100) (e : (NGO Jo ∧ 0 ≤ a ∧ nFN S 0 t = ((tb0 Jo, Jo 164 34), [], a)) ∨ ∃ Q v, NSV Jo v ∧ nFN S 0 t = (Q, [], v)) (k : (¬ Jo 164 21 = 0 ∧ -3 = z ∧ zOf (zbut [172]) J' (zmv Jo 165 63 0 63)) ∨ (Jo 164 21 = 0 ∧ a = z ∧ ((¬ Jo 164 10 = 40 ∧ zkL Jo = J') ∨ (Jo 164 10 = 40 ∧ zkF Jo = J')))) : MRE S n R (nFN S 0 t) J' z ∧ MFI J' Jb := by
  have w := mact_end (F := (tb0 Jo, a)) hb hS hm hA u hn h11 p rfl hm' (fun _ => rfl) k
  refine ⟨?_, w.2⟩
  rcases e with ⟨g, a0, e⟩ | ⟨Q, v, g, e⟩
  · rw [e]
    rcases w.1 with ⟨q, _⟩ | ⟨_, q1, q2, q3⟩
    · exact absurd g.1 q
    · exact ⟨rfl, Or.inl ⟨a0, q1, ⟨q2, hm'⟩, q3⟩⟩
  · rw [e]
    rcases g with ⟨v1, g1, _⟩ | ⟨_, _, g1⟩
    · rcases w.1 with ⟨_, q1, q2, q3⟩ | ⟨q, _⟩
      · exact ⟨rfl, Or.inr (Or.inl ⟨v1, q1, q2, q3⟩)⟩
      · exact absurd q g1
    · omega
theorem nrq_fail {Jb Jo J' S : zJ} {n m a z t : Int} {R : Int → Int → Int} (hb : tb0 Jb = S) (hS : S 165 0 = m) (hm : m ≤ 400) (hA : ∀ q, 0 ≤ q → q < 63 → Jb 165 (63 + q) = S 165 q) (u : MUr Jb n R) (hn : 0 ≤ n ∧ n ≤ 40) (h11 : 0 ≤ Jb 164 11 ∧ Jb 164 11 < 40) (p : MOP Jo Jb m) (h4 : 100 < Jo 164 34) (e : (NGO Jo ∧ 0 ≤ a ∧ nFN S 0 t = ((tb0 Jo, Jo 164 34), [], a)) ∨ ∃ Q v, NSV Jo v ∧ nFN S 0 t = (Q, [], v)) (hz : -2 = z) (k3 : zOf (zbut [172]) J' (zmv Jo 165 63 0 63)) : MRE S n R (nFN S 0 t) J' z ∧ MFI J' Jb := by
  obtain ⟨w1, w2⟩ := mact_fail hb hS hm hA u hn h11 p k3
  refine ⟨?_, w2⟩
  rcases e with ⟨g, _⟩ | ⟨Q, v, g, e⟩
  · have := g.2; omega
  · rw [e]
    rcases g with ⟨_, _, g1⟩ | ⟨v1, _, _⟩
    · omega
    · exact ⟨rfl, Or.inr (Or.inr ⟨v1, hz.symm, w1⟩)⟩
theorem AEN {S J' Jb J : zJ} {n z t : Int} {R : Int → Int → Int} {P : Prop} (q : MQr J' J) (b : MFI Jb J) (e : MRE S n R (nFN S 0 t) J' z ∧ MFI J' Jb) (p : P) : MQr J' J ∧ MFI J' J ∧ ((P ∧ MRE S n R (nFN S 0 t) J' z) ∨ (¬ P ∧ z = -1 ∧ MBT J' S ∧ MUr J' n R)) := ⟨q, b.tr e.2, Or.inl ⟨p, e.1⟩⟩
set_option maxHeartbeats 4000000 in
set_option maxRecDepth 100000 in
theorem v_qnormal {l : Launch} {G : tb_G} (hl : l.stackTraces = false) (n : Nat) (J : zJ) (x : Int) (hr_x : -2147483648 ≤ x ∧ x < 2147483648) (m : Int) (pn : Int) (RR : Int → Int → Int) (hI : MI J m) (u9 : MUr J pn RR) : tz_Ok l G M_X12_normal 731 0 0 [.ref 164, zi x] n J (zqi (fun z J' => MQr J' J ∧ MFI J' J ∧ (((0 ≤ x ∧ x < J 165 0) ∧ MRE (tbz J) pn RR (nFN (tbz J) 0 x) J' z) ∨ (¬ (0 ≤ x ∧ x < J 165 0) ∧ z = -1 ∧ MBT J' (tbz J) ∧ MUr J' pn RR)))) zN := by
  refine tz_Ok.of hl (by decide +kernel) rfl (tb_c1 rfl) (Nat.le_of_ble_eq_true rfl) ?_
  show tz_At l G M_X12_normal (tb_rm 731 0 0) none (tb_ZM G 0 0 (zQ n 0 (zqi (fun z J' => MQr J' J ∧ MFI J' J ∧ (((0 ≤ x ∧ x < J 165 0) ∧ MRE (tbz J) pn RR (nFN (tbz J) 0 x) J' z) ∨ (¬ (0 ≤ x ∧ x < J 165 0) ∧ z = -1 ∧ MBT J' (tbz J) ∧ MUr J' pn RR))))) (zX n 0 zN)) 0 0 n J 0 [some (.ref 164), some (zi x), none] []
  have hT := hI.told
  have hW := hI.row
  have hM := hI.1
  have hL := hI.2.1
  refine tz_aload_n (pc := 0) dX12_normal_0 rfl rfl ?_
  refine tz_iconst (pc := 1) dX12_normal_1 ?_
  refine tz_pI (pc := 2) (kz := 8) dX12_normal_2 fl_X12_68 i_164_8 rfl rfl (by decide) ?_
  refine tz_aload_n (pc := 5) dX12_normal_5 rfl rfl ?_
  refine tz_iload_n (pc := 6) dX12_normal_6 rfl rfl ?_
  refine tz_cV (pc := 7) (m_isTerm hl n _ _ (by omega) (by rw [(show ((zup J 164 8 0) : zJ) 165 0 = (J 165 0) from rfl)]; omega)) vl_X12_376 dX12_normal_7 o_164 rfl rfl (Nat.le_of_ble_eq_true rfl) ⟨(Nat.le_of_ble_eq_true rfl), (Nat.le_of_ble_eq_true rfl)⟩ rfl rfl (Nat.le_of_ble_eq_true rfl) (Nat.le_of_ble_eq_true rfl) (fun r9 J_7 hq9 => ?_)
  obtain ⟨z_7, rfl, hz_7, rfl, ht_7⟩ := hq9
  rw [(show ((zup J 164 8 0) : zJ) 165 0 = (J 165 0) from rfl)] at ht_7
  refine tz_if_ne (pc := 10) (tgt := 20) dX12_normal_10 (by decide) (by omega) (fun h_10 => ?_) (fun h_10 => ?_)
  · refine tz_aload_n (pc := 20) dX12_normal_20 rfl rfl ?_
    refine tz_cV (pc := 21) (m_begins hl n _) vl_X12_400 dX12_normal_21 o_164 rfl rfl (Nat.le_of_ble_eq_true rfl) ⟨(Nat.le_of_ble_eq_true rfl), (Nat.le_of_ble_eq_true rfl)⟩ rfl rfl (Nat.le_of_ble_eq_true rfl) (Nat.le_of_ble_eq_true rfl) (fun r9 J_21 hq9 => ?_)
    obtain ⟨rfl, hj_21⟩ := hq9
    have a_21 : AM J_21 J m m := by rw [← hj_21]; exact AM.begin (hI.z (MZ.up (k := 8) MZ.rf (by decide))) ⟨MZ.lo (MZ.up (k := 8) MZ.rf (by decide)), SC.z (MZ.up (k := 8) MZ.rf (by decide))⟩
    have br_21 : ∀ k, (k < 63 ∨ 126 ≤ k) → J_21 165 k = ((zup J 164 8 0) : zJ) 165 k := fun k hk => by rw [← hj_21]; exact zbg_r hk
    have bl_21 : ∀ k, ¬ k = 34 → ¬ k = 33 → ¬ k = 21 → J_21 164 k = ((zup J 164 8 0) : zJ) 164 k := fun k u v w => by rw [← hj_21]; exact zbg_f u v w
    have bo_21 : zOf (zbut [164, 165]) J_21 (zup J 164 8 0) := by rw [← hj_21]; exact zbg_of
    have b3_21 : J_21 164 21 = 0 ∧ J_21 164 33 = 0 ∧ J_21 164 34 = 0 := by rw [← hj_21]; exact ⟨rfl, rfl, rfl⟩
    have s9_21 : J_21 164 9 = J 164 9 := (bl_21 9 (by decide) (by decide) (by decide)).trans ((MZ.up (k := 8) MZ.rf (by decide)).2 9 (by decide) (by decide))
    obtain ⟨⟨bt_21, bs_21, bm_21, ba_21⟩, bu_21, bn_21, bf_21, bi_21⟩ := mbeg hI (MZ.up (k := 8) MZ.rf (by decide)) hj_21 u9
    refine tz_aload_n (pc := 24) dX12_normal_24 rfl rfl ?_
    refine tz_iload_n (pc := 25) dX12_normal_25 rfl rfl ?_
    refine tz_cV (pc := 26) (x_normal hl n _ _ (by omega) (J_21 164 9) m (AM.nz a_21 b3_21.1 (by omega)) rfl (by omega)) vl_X12_221 dX12_normal_26 o_164 rfl rfl (Nat.le_of_ble_eq_true rfl) ⟨(Nat.le_of_ble_eq_true rfl), (Nat.le_of_ble_eq_true rfl)⟩ rfl rfl (Nat.le_of_ble_eq_true rfl) (Nat.le_of_ble_eq_true rfl) (fun r9 J_26 hq9 => ?_)
    obtain ⟨z_26, rfl, hz_26, m_26, n_26, h_26, x_26, y_26⟩ := hq9
    have a_26 := AM.norm a_21 n_26 rfl
    have lm_26 := n_26.2.1.1.2
    have st_26 := n_26.1.2.2.2
    have d9 := ((a_21).1.1.ar (t := x) (by omega)).2.2.1
    have e_26 := noc_fn (x_26 ⟨b3_21.1, by omega⟩) (nWT_le (by omega)) (by omega) st_26.2
    rw [bt_21, b3_21.2.2] at e_26
    refine tz_istore_n (pc := 29) (L2 := [_, _, _]) dX12_normal_29 rfl (by decide) rfl ?_
    refine tz_aload_n (pc := 30) dX12_normal_30 rfl rfl ?_
    refine tz_fI (pc := 31) (kz := 34) (v := (J_26 164 34)) dX12_normal_31 fl_X12_208 i_164_34 rfl rfl (fun r_31 => ?_)
    refine tz_bipush (pc := 34) dX12_normal_34 (by decide) ?_
    refine tz_icmp_le (pc := 36) (tgt := 49) dX12_normal_36 (by decide) (by omega) (by decide) (fun h_36 => ?_) (fun h_36 => ?_)
    · refine tz_aload_n (pc := 49) dX12_normal_49 rfl rfl ?_
      refine tz_iload_n (pc := 50) dX12_normal_50 rfl rfl ?_
      refine tz_cV (pc := 51) (m_keeps hl n _ _ (by omega) (a_26).2.2.2.1.1.1 (a_26).2.2.2.1.1.2) vl_X12_403 dX12_normal_51 o_164 rfl rfl (Nat.le_of_ble_eq_true rfl) ⟨(Nat.le_of_ble_eq_true rfl), (Nat.le_of_ble_eq_true rfl)⟩ rfl rfl (Nat.le_of_ble_eq_true rfl) (Nat.le_of_ble_eq_true rfl) (fun r9 J_51 hq9 => ?_)
      obtain ⟨z_51, rfl, hz_51, k_51⟩ := hq9
      exact tz_iret (pc := 54) (z := z_51) dX12_normal_54 rfl (Nat.le_of_ble_eq_true rfl) (Nat.le_of_ble_eq_true rfl) ⟨Nat.le_refl _, Nat.le_add_right _ _⟩ ⟨_, rfl, (by omega), (AEN (AM.keep a_26 k_51) bi_21 (nrq_end bt_21 bs_21 bm_21 ba_21 bu_21 bn_21 bf_21 (MOP.np n_26) (by have t9 := n_26.1.1.told; have s9 := n_26.1.1.2.2.2.2.1; omega) (by omega) e_26 k_51) (by omega))⟩
    · refine tz_aload_n (pc := 39) dX12_normal_39 rfl rfl ?_
      refine tz_iconst (pc := 40) dX12_normal_40 ?_
      refine tz_bipush (pc := 41) dX12_normal_41 (by decide) ?_
      refine tz_cV (pc := 43) (m_fails hl n _ _ _ (by decide) (by decide) (by decide)) vl_X12_394 dX12_normal_43 o_164 rfl rfl (Nat.le_of_ble_eq_true rfl) ⟨(Nat.le_of_ble_eq_true rfl), (Nat.le_of_ble_eq_true rfl)⟩ rfl rfl (Nat.le_of_ble_eq_true rfl) (Nat.le_of_ble_eq_true rfl) (fun r9 J_43 hq9 => ?_)
      obtain ⟨z_43, rfl, hz_43, e_43, f_43⟩ := hq9
      refine tz_goto (pc := 46) (tgt := 54) dX12_normal_46 (by decide) ?_
      exact tz_iret (pc := 54) (z := z_43) dX12_normal_54 rfl (Nat.le_of_ble_eq_true rfl) (Nat.le_of_ble_eq_true rfl) ⟨Nat.le_refl _, Nat.le_add_right _ _⟩ ⟨_, rfl, (by omega), (AEN (AM.fail a_26 f_43) bi_21 (nrq_fail bt_21 bs_21 bm_21 ba_21 bu_21 bn_21 bf_21 (MOP.np n_26) (by omega) e_26 e_43 f_43) (by omega))⟩
  · refine tz_aload_n (pc := 13) dX12_normal_13 rfl rfl ?_
    refine tz_iconst (pc := 14) dX12_normal_14 ?_
    refine tz_iconst (pc := 15) dX12_normal_15 ?_
    refine tz_cV (pc := 16) (m_refuses hl n _ _ _ (by decide) (by decide) (by decide)) vl_X12_391 dX12_normal_16 o_164 rfl rfl (Nat.le_of_ble_eq_true rfl) ⟨(Nat.le_of_ble_eq_true rfl), (Nat.le_of_ble_eq_true rfl)⟩ rfl rfl (Nat.le_of_ble_eq_true rfl) (Nat.le_of_ble_eq_true rfl) (fun r9 J_16 hq9 => ?_)
    obtain ⟨z_16, rfl, hz_16, rfl, f_16⟩ := hq9
    have y_16 : MZ J_16 J := MZ.tr (MZ.up (k := 8) MZ.rf (by decide)) (MZ.c f_16 (by decide))
    exact tz_iret (pc := 19) (z := (-1)) dX12_normal_19 rfl (Nat.le_of_ble_eq_true rfl) (Nat.le_of_ble_eq_true rfl) ⟨Nat.le_refl _, Nat.le_add_right _ _⟩ ⟨_, rfl, (by decide), ⟨MQr.z hI y_16, MFI.z y_16, Or.inr ⟨by omega, rfl, MBT.z hI y_16, u9.z y_16⟩⟩⟩

