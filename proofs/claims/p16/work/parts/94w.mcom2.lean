/-! ===== common of the reference, exact: the call ===== -/
/-- an act that is refused behind begin -/
theorem mact_fail {Jb Jo J' S : zJ} {n m : Int} {R : Int → Int → Int} (hb : tb0 Jb = S) (hS : S 165 0 = m) (hm : m ≤ 400) (hA : ∀ q, 0 ≤ q → q < 63 → Jb 165 (63 + q) = S 165 q) (u : MUr Jb n R) (hn : 0 ≤ n ∧ n ≤ 40) (h11 : 0 ≤ Jb 164 11 ∧ Jb 164 11 < 40) (p : MOP Jo Jb m) (k3 : zOf (zbut [172]) J' (zmv Jo 165 63 0 63)) : (MBT J' S ∧ MUr J' n R) ∧ MFI J' Jb := by
  obtain ⟨pf, p5, ⟨p9, p10, p11⟩, p6, p7, p0⟩ := p
  have mb := MBT.tb hb (by omega)
  refine ⟨⟨⟨⟨?_, fun k a b => ?_⟩, fun k a b => ?_, fun t a b => ?_, fun k a b => ?_⟩, u.of ?_ ?_ (fun k a => ?_)⟩, pf.tr ⟨fun k a => ?_, fun k _ _ => ⟨by rw [k3 166 rfl]; rfl, by rw [k3 168 rfl]; rfl⟩, fun k _ _ => by rw [k3 167 rfl]; rfl, by rw [k3 164 rfl]; rfl, by rw [k3 164 rfl]; rfl⟩⟩
  · rw [k3 164 rfl]; exact p9.trans mb.1.1
  · rw [k3 169 rfl, k3 170 rfl, k3 171 rfl]
    obtain ⟨q1, q2, q3⟩ := p0 k a b
    obtain ⟨r1, r2, r3⟩ := mb.1.2 k a b
    exact ⟨q1.trans r1, q2.trans r2, q3.trans r3⟩
  · rw [k3 165 rfl, zmv5, if_pos (by omega), show 63 + (k - 0) = 63 + k from by omega, p5 _ (by omega)]
    exact hA k a b
  · rw [k3 166 rfl, k3 168 rfl]
    obtain ⟨q1, q2⟩ := p6 t a (by omega)
    obtain ⟨r1, r2⟩ := mb.2.2.1 t a b
    exact ⟨q1.trans r1, q2.trans r2⟩
  · rw [k3 167 rfl]
    exact (p7 k a (by omega)).trans (mb.2.2.2 k a b)
  · rw [k3 164 rfl]; exact p10
  · rw [k3 164 rfl]; exact p11
  · rw [k3 165 rfl, zmv5, if_neg (by omega)]; exact p5 k (by omega)
  · rw [k3 165 rfl, zmv5, if_neg (by omega)]
def MCO (S : zJ) (n : Int) (R : Int → Int → Int) (x y : Int) (J' : zJ) (z : Int) : Prop := ((cpO 6 S [] x y).2 = true ∧ MED S n R (coO (cpO 6 S [] x y).1 6 S x y) J' z) ∨ ((cpO 6 S [] x y).2 = false ∧ (z = -2 ∨ z = -3) ∧ MBT J' S ∧ MUr J' n R)
theorem com_end {Jb Jc Jo J' S : zJ} {n m a z x y : Int} {R : Int → Int → Int} (hb : tb0 Jb = S) (hS : S 165 0 = m) (hm : m ≤ 400) (hA : ∀ q, 0 ≤ q → q < 63 → Jb 165 (63 + q) = S 165 q) (u : MUr Jb n R) (hn : 0 ≤ n ∧ n ≤ 40) (h11 : 0 ≤ Jb 164 11 ∧ Jb 164 11 < 40) (p : MOP Jo Jb m) (hc : tb0 Jc = S) (q : rcQ 6 Jc Jo x y a []) (hm' : Jo 165 0 ≤ 400) (h9 : ¬ (Jo 164 21 = 0 ∧ ¬ Jo 164 33 = 0)) (k : (¬ Jo 164 21 = 0 ∧ -3 = z ∧ zOf (zbut [172]) J' (zmv Jo 165 63 0 63)) ∨ (Jo 164 21 = 0 ∧ a = z ∧ ((¬ Jo 164 10 = 40 ∧ zkL Jo = J') ∨ (Jo 164 10 = 40 ∧ zkF Jo = J')))) : MCO S n R x y J' z ∧ MFI J' Jb := by
  obtain ⟨q1, q2, q3⟩ := q
  rw [hc] at q1 q2 q3
  by_cases f : Jo 164 21 = 0
  · have g : Jo 164 33 = 0 := Decidable.byContradiction (fun g => h9 ⟨f, g⟩)
    obtain ⟨L1, r1, r2, r3⟩ := q1 f g
    have r := r3 []
    rw [List.append_nil] at r
    have e1 : (cpO 6 S [] x y).1 = L1 := by rw [r1]
    have w := mact_end (F := coO L1 6 S x y) hb hS hm hA u hn h11 p (congrArg Prod.fst r) (by rw [← congrArg Prod.fst r]; exact hm') (fun _ => congrArg Prod.snd r) k
    unfold MCO
    rw [e1]
    exact ⟨Or.inl ⟨by rw [r1], w.1⟩, w.2⟩
  · rcases k with ⟨_, k2, k3⟩ | ⟨k1, _⟩
    · obtain ⟨w1, w2⟩ := mact_fail hb hS hm hA u hn h11 p k3
      refine ⟨?_, w2⟩
      by_cases b : (cpO 6 S [] x y).2 = true
      · have r := (q2 f).2 (cpO 6 S [] x y).1 (Prod.ext rfl b) []
        rw [List.append_nil] at r
        exact Or.inl ⟨b, Or.inl ⟨r, k2.symm, w1⟩⟩
      · exact Or.inr ⟨Bool.eq_false_iff.2 b, Or.inr k2.symm, w1⟩
    · exact absurd k1 f
theorem com_fail {Jb Jc Jo J' S : zJ} {n m a z x y : Int} {R : Int → Int → Int} (hb : tb0 Jb = S) (hS : S 165 0 = m) (hm : m ≤ 400) (hA : ∀ q, 0 ≤ q → q < 63 → Jb 165 (63 + q) = S 165 q) (u : MUr Jb n R) (hn : 0 ≤ n ∧ n ≤ 40) (h11 : 0 ≤ Jb 164 11 ∧ Jb 164 11 < 40) (p : MOP Jo Jb m) (hc : tb0 Jc = S) (q : rcQ 6 Jc Jo x y a []) (g : ¬ Jo 164 33 = 0) (hz : -2 = z) (k3 : zOf (zbut [172]) J' (zmv Jo 165 63 0 63)) : MCO S n R x y J' z ∧ MFI J' Jb := by
  obtain ⟨q1, q2, q3⟩ := q
  rw [hc] at q1 q2 q3
  obtain ⟨w1, w2⟩ := mact_fail hb hS hm hA u hn h11 p k3
  exact ⟨Or.inr ⟨q3 g, Or.inl hz.symm, w1⟩, w2⟩
theorem MOP.mgc {Jo Jb : zJ} {s m m' v : Int} (g : MG [182] [32, 33] (fun _ => false) Jo (zup Jb 164 32 v) 0 0 0 s m m') : MOP Jo Jb m := by
  obtain ⟨g1, g2, ⟨f1, f2, f3, f4⟩, g4⟩ := g
  refine ⟨⟨fun k a => f2 k (by omega) rfl, fun k a b => f1.1 k (by omega), fun k a b => f1.2 k (by omega), f3 12 (by decide), f3 13 (by decide)⟩, fun k a => f2 k (by omega) rfl, ⟨f3 9 (by decide), f3 10 (by decide), f3 11 (by decide)⟩, fun t a b => ?_, fun k a b => ?_, fun k _ _ => ⟨by rw [f4 169 rfl]; rfl, by rw [f4 170 rfl]; rfl, by rw [f4 171 rfl]; rfl⟩⟩
  · have := (g2 t a b).1
    rw [Int.zero_add] at this
    exact this
  · have := (g2 (k / 3) (by omega) (by omega)).2 (k % 3) (by omega) (by omega)
    rw [show 3 * (0 + k / 3) + k % 3 = k from by omega] at this
    exact this
theorem tb0_co {J : zJ} {v : Int} : tb0 (zup J 164 32 v) = tb0 J := tb0_of rfl rfl (fun k _ _ => rfl) (fun k _ _ => ⟨rfl, rfl⟩) (fun k _ _ => rfl) (fun k _ _ => ⟨rfl, rfl, rfl⟩)
theorem cM_0 {J : zJ} : cM (zup J 164 32 0) [] := ⟨rfl, trivial⟩
theorem AEC {S J' Jb J : zJ} {n z x y : Int} {R : Int → Int → Int} {P : Prop} (q : MQr J' J) (b : MFI Jb J) (e : MCO S n R x y J' z ∧ MFI J' Jb) (p : P) : MQr J' J ∧ MFI J' J ∧ ((P ∧ MCO S n R x y J' z) ∨ (¬ P ∧ z = -1 ∧ MBT J' S ∧ MUr J' n R)) := ⟨q, b.tr e.2, Or.inl ⟨p, e.1⟩⟩
set_option maxHeartbeats 4000000 in
set_option maxRecDepth 100000 in
theorem v_qcommon {l : Launch} {G : tb_G} (hl : l.stackTraces = false) (n : Nat) (J : zJ) (x : Int) (y : Int) (hr_x : -2147483648 ≤ x ∧ x < 2147483648) (hr_y : -2147483648 ≤ y ∧ y < 2147483648) (m : Int) (pn : Int) (RR : Int → Int → Int) (hI : MI J m) (u9 : MUr J pn RR) : tz_Ok l G M_X12_common 12 0 0 [.ref 164, zi x, zi y] n J (zqi (fun z J' => MQr J' J ∧ MFI J' J ∧ ((((0 ≤ x ∧ x < J 165 0) ∧ (0 ≤ y ∧ y < J 165 0)) ∧ MCO (tbz J) pn RR x y J' z) ∨ (¬ ((0 ≤ x ∧ x < J 165 0) ∧ (0 ≤ y ∧ y < J 165 0)) ∧ z = -1 ∧ MBT J' (tbz J) ∧ MUr J' pn RR)))) zN := by
  refine tz_Ok.of hl (by decide +kernel) rfl (tb_c1 rfl) (Nat.le_of_ble_eq_true rfl) ?_
  show tz_At l G M_X12_common (tb_rm 12 0 0) none (tb_ZM G 0 0 (zQ n 0 (zqi (fun z J' => MQr J' J ∧ MFI J' J ∧ ((((0 ≤ x ∧ x < J 165 0) ∧ (0 ≤ y ∧ y < J 165 0)) ∧ MCO (tbz J) pn RR x y J' z) ∨ (¬ ((0 ≤ x ∧ x < J 165 0) ∧ (0 ≤ y ∧ y < J 165 0)) ∧ z = -1 ∧ MBT J' (tbz J) ∧ MUr J' pn RR))))) (zX n 0 zN)) 0 0 n J 0 [some (.ref 164), some (zi x), some (zi y), none] []
  have hT := hI.told
  have hW := hI.row
  have hM := hI.1
  have hL := hI.2.1
  refine tz_aload_n (pc := 0) dX12_common_0 rfl rfl ?_
  refine tz_iconst (pc := 1) dX12_common_1 ?_
  refine tz_pI (pc := 2) (kz := 8) dX12_common_2 fl_X12_68 i_164_8 rfl rfl (by decide) ?_
  refine tz_aload_n (pc := 5) dX12_common_5 rfl rfl ?_
  refine tz_iload_n (pc := 6) dX12_common_6 rfl rfl ?_
  refine tz_cV (pc := 7) (m_isTerm hl n _ _ (by omega) (by rw [(show ((zup J 164 8 0) : zJ) 165 0 = (J 165 0) from rfl)]; omega)) vl_X12_376 dX12_common_7 o_164 rfl rfl (Nat.le_of_ble_eq_true rfl) ⟨(Nat.le_of_ble_eq_true rfl), (Nat.le_of_ble_eq_true rfl)⟩ rfl rfl (Nat.le_of_ble_eq_true rfl) (Nat.le_of_ble_eq_true rfl) (fun r9 J_7 hq9 => ?_)
  obtain ⟨z_7, rfl, hz_7, rfl, ht_7⟩ := hq9
  rw [(show ((zup J 164 8 0) : zJ) 165 0 = (J 165 0) from rfl)] at ht_7
  refine tz_if_eq (pc := 10) (tgt := 21) dX12_common_10 (by decide) (by omega) (fun h_10 => ?_) (fun h_10 => ?_)
  · refine tz_aload_n (pc := 21) dX12_common_21 rfl rfl ?_
    refine tz_iconst (pc := 22) dX12_common_22 ?_
    refine tz_iconst (pc := 23) dX12_common_23 ?_
    refine tz_cV (pc := 24) (m_refuses hl n _ _ _ (by decide) (by decide) (by decide)) vl_X12_391 dX12_common_24 o_164 rfl rfl (Nat.le_of_ble_eq_true rfl) ⟨(Nat.le_of_ble_eq_true rfl), (Nat.le_of_ble_eq_true rfl)⟩ rfl rfl (Nat.le_of_ble_eq_true rfl) (Nat.le_of_ble_eq_true rfl) (fun r9 J_24 hq9 => ?_)
    obtain ⟨z_24, rfl, hz_24, rfl, f_24⟩ := hq9
    have y_24 : MZ J_24 J := MZ.tr (MZ.up (k := 8) MZ.rf (by decide)) (MZ.c f_24 (by decide))
    exact tz_iret (pc := 27) (z := (-1)) dX12_common_27 rfl (Nat.le_of_ble_eq_true rfl) (Nat.le_of_ble_eq_true rfl) ⟨Nat.le_refl _, Nat.le_add_right _ _⟩ ⟨_, rfl, (by decide), ⟨MQr.z hI y_24, MFI.z y_24, Or.inr ⟨by omega, rfl, MBT.z hI y_24, u9.z y_24⟩⟩⟩
  · refine tz_aload_n (pc := 13) dX12_common_13 rfl rfl ?_
    refine tz_iload_n (pc := 14) dX12_common_14 rfl rfl ?_
    refine tz_cV (pc := 15) (m_isTerm hl n _ _ (by omega) (by rw [(show ((zup J 164 8 0) : zJ) 165 0 = (J 165 0) from rfl)]; omega)) vl_X12_376 dX12_common_15 o_164 rfl rfl (Nat.le_of_ble_eq_true rfl) ⟨(Nat.le_of_ble_eq_true rfl), (Nat.le_of_ble_eq_true rfl)⟩ rfl rfl (Nat.le_of_ble_eq_true rfl) (Nat.le_of_ble_eq_true rfl) (fun r9 J_15 hq9 => ?_)
    obtain ⟨z_15, rfl, hz_15, rfl, ht_15⟩ := hq9
    rw [(show ((zup J 164 8 0) : zJ) 165 0 = (J 165 0) from rfl)] at ht_15
    refine tz_if_ne (pc := 18) (tgt := 28) dX12_common_18 (by decide) (by omega) (fun h_18 => ?_) (fun h_18 => ?_)
    · refine tz_aload_n (pc := 28) dX12_common_28 rfl rfl ?_
      refine tz_cV (pc := 29) (m_begins hl n _) vl_X12_400 dX12_common_29 o_164 rfl rfl (Nat.le_of_ble_eq_true rfl) ⟨(Nat.le_of_ble_eq_true rfl), (Nat.le_of_ble_eq_true rfl)⟩ rfl rfl (Nat.le_of_ble_eq_true rfl) (Nat.le_of_ble_eq_true rfl) (fun r9 J_29 hq9 => ?_)
      obtain ⟨rfl, hj_29⟩ := hq9
      have a_29 : AM J_29 J m m := by rw [← hj_29]; exact AM.begin (hI.z (MZ.up (k := 8) MZ.rf (by decide))) ⟨MZ.lo (MZ.up (k := 8) MZ.rf (by decide)), SC.z (MZ.up (k := 8) MZ.rf (by decide))⟩
      have br_29 : ∀ k, (k < 63 ∨ 126 ≤ k) → J_29 165 k = ((zup J 164 8 0) : zJ) 165 k := fun k hk => by rw [← hj_29]; exact zbg_r hk
      have bl_29 : ∀ k, ¬ k = 34 → ¬ k = 33 → ¬ k = 21 → J_29 164 k = ((zup J 164 8 0) : zJ) 164 k := fun k u v w => by rw [← hj_29]; exact zbg_f u v w
      have bo_29 : zOf (zbut [164, 165]) J_29 (zup J 164 8 0) := by rw [← hj_29]; exact zbg_of
      have b3_29 : J_29 164 21 = 0 ∧ J_29 164 33 = 0 ∧ J_29 164 34 = 0 := by rw [← hj_29]; exact ⟨rfl, rfl, rfl⟩
      have s9_29 : J_29 164 9 = J 164 9 := (bl_29 9 (by decide) (by decide) (by decide)).trans ((MZ.up (k := 8) MZ.rf (by decide)).2 9 (by decide) (by decide))
      obtain ⟨⟨bt_29, bs_29, bm_29, ba_29⟩, bu_29, bn_29, bf_29, bi_29⟩ := mbeg hI (MZ.up (k := 8) MZ.rf (by decide)) hj_29 u9
      refine tz_aload_n (pc := 32) dX12_common_32 rfl rfl ?_
      refine tz_iconst (pc := 33) dX12_common_33 ?_
      refine tz_pI (pc := 34) (kz := 32) dX12_common_34 fl_X12_192 i_164_32 rfl rfl (by decide) ?_
      refine tz_aload_n (pc := 37) dX12_common_37 rfl rfl ?_
      refine tz_iload_n (pc := 38) dX12_common_38 rfl rfl ?_
      refine tz_iload_n (pc := 39) dX12_common_39 rfl rfl ?_
      refine tz_cV (pc := 40) (o_common hl n _ _ _ (by omega) (by omega) (J_29 164 9) m (AM.z a_29 (MZ.up (k := 32) (v := 0) MZ.rf (by decide)) (fun q => q)).1.1 rfl (by omega) (by omega) (by show 0 ≤ zup J_29 164 32 0 164 32 ∧ zup J_29 164 32 0 164 32 ≤ 8; rw [zup_at]; decide)) vl_X12_201 dX12_common_40 o_164 rfl rfl (Nat.le_of_ble_eq_true rfl) ⟨(Nat.le_of_ble_eq_true rfl), (Nat.le_of_ble_eq_true rfl)⟩ rfl rfl (Nat.le_of_ble_eq_true rfl) (Nat.le_of_ble_eq_true rfl) (fun r9 J_40 hq9 => ?_)
      obtain ⟨z_40, rfl, hz_40, m_40, g_40, h_40, i_40, j_40, x_40⟩ := hq9
      have a_40 := AM.grow0 (AM.z a_29 (MZ.up (k := 32) (v := 0) MZ.rf (by decide)) (fun q => q)) g_40 (fun c hc => by simp at hc; omega) (fun k x y => by simp; omega) rfl
      have lm_40 := a_40.1.2.2
      have d9 := ((a_29).1.1.ar (t := x) (by omega)).2.2.1
      have e_40 := (x_40 6 d9.2).2 b3_29.1 b3_29.2.1 [] cM_0
      refine tz_istore_n (pc := 43) (L2 := [_, _, _, _]) dX12_common_43 rfl (by decide) rfl ?_
      refine tz_aload_n (pc := 44) dX12_common_44 rfl rfl ?_
      refine tz_fI (pc := 45) (kz := 21) (v := (J_40 164 21)) dX12_common_45 fl_X12_92 i_164_21 rfl rfl (fun r_45 => ?_)
      refine tz_if_ne (pc := 48) (tgt := 68) dX12_common_48 (by decide) (by omega) (fun h_48 => ?_) (fun h_48 => ?_)
      · refine tz_aload_n (pc := 68) dX12_common_68 rfl rfl ?_
        refine tz_iload_n (pc := 69) dX12_common_69 rfl rfl ?_
        refine tz_cV (pc := 70) (m_keeps hl n _ _ (by omega) (a_40).2.2.2.1.1.1 (a_40).2.2.2.1.1.2) vl_X12_403 dX12_common_70 o_164 rfl rfl (Nat.le_of_ble_eq_true rfl) ⟨(Nat.le_of_ble_eq_true rfl), (Nat.le_of_ble_eq_true rfl)⟩ rfl rfl (Nat.le_of_ble_eq_true rfl) (Nat.le_of_ble_eq_true rfl) (fun r9 J_70 hq9 => ?_)
        obtain ⟨z_70, rfl, hz_70, k_70⟩ := hq9
        exact tz_iret (pc := 73) (z := z_70) dX12_common_73 rfl (Nat.le_of_ble_eq_true rfl) (Nat.le_of_ble_eq_true rfl) ⟨Nat.le_refl _, Nat.le_add_right _ _⟩ ⟨_, rfl, (by omega), (AEC (AM.keep a_40 k_70) bi_29 (com_end bt_29 bs_29 bm_29 ba_29 bu_29 bn_29 bf_29 (MOP.mgc g_40) (tb0_co.trans bt_29) e_40 (by have t9 := g_40.1.1.told; have s9 := g_40.1.1.2.2.2.2.1; omega) (by omega) k_70) (by omega))⟩
      · refine tz_aload_n (pc := 51) dX12_common_51 rfl rfl ?_
        refine tz_fI (pc := 52) (kz := 33) (v := (J_40 164 33)) dX12_common_52 fl_X12_195 i_164_33 rfl rfl (fun r_52 => ?_)
        refine tz_if_eq (pc := 55) (tgt := 68) dX12_common_55 (by decide) (by omega) (fun h_55 => ?_) (fun h_55 => ?_)
        · refine tz_aload_n (pc := 68) dX12_common_68 rfl rfl ?_
          refine tz_iload_n (pc := 69) dX12_common_69 rfl rfl ?_
          refine tz_cV (pc := 70) (m_keeps hl n _ _ (by omega) (a_40).2.2.2.1.1.1 (a_40).2.2.2.1.1.2) vl_X12_403 dX12_common_70 o_164 rfl rfl (Nat.le_of_ble_eq_true rfl) ⟨(Nat.le_of_ble_eq_true rfl), (Nat.le_of_ble_eq_true rfl)⟩ rfl rfl (Nat.le_of_ble_eq_true rfl) (Nat.le_of_ble_eq_true rfl) (fun r9 J_70 hq9 => ?_)
          obtain ⟨z_70, rfl, hz_70, k_70⟩ := hq9
          exact tz_iret (pc := 73) (z := z_70) dX12_common_73 rfl (Nat.le_of_ble_eq_true rfl) (Nat.le_of_ble_eq_true rfl) ⟨Nat.le_refl _, Nat.le_add_right _ _⟩ ⟨_, rfl, (by omega), (AEC (AM.keep a_40 k_70) bi_29 (com_end bt_29 bs_29 bm_29 ba_29 bu_29 bn_29 bf_29 (MOP.mgc g_40) (tb0_co.trans bt_29) e_40 (by have t9 := g_40.1.1.told; have s9 := g_40.1.1.2.2.2.2.1; omega) (by omega) k_70) (by omega))⟩
        · refine tz_aload_n (pc := 58) dX12_common_58 rfl rfl ?_
          refine tz_iconst (pc := 59) dX12_common_59 ?_
          refine tz_bipush (pc := 60) dX12_common_60 (by decide) ?_
          refine tz_cV (pc := 62) (m_fails hl n _ _ _ (by decide) (by decide) (by decide)) vl_X12_394 dX12_common_62 o_164 rfl rfl (Nat.le_of_ble_eq_true rfl) ⟨(Nat.le_of_ble_eq_true rfl), (Nat.le_of_ble_eq_true rfl)⟩ rfl rfl (Nat.le_of_ble_eq_true rfl) (Nat.le_of_ble_eq_true rfl) (fun r9 J_62 hq9 => ?_)
          obtain ⟨z_62, rfl, hz_62, e_62, f_62⟩ := hq9
          refine tz_goto (pc := 65) (tgt := 73) dX12_common_65 (by decide) ?_
          exact tz_iret (pc := 73) (z := z_62) dX12_common_73 rfl (Nat.le_of_ble_eq_true rfl) (Nat.le_of_ble_eq_true rfl) ⟨Nat.le_refl _, Nat.le_add_right _ _⟩ ⟨_, rfl, (by omega), (AEC (AM.fail a_40 f_62) bi_29 (com_fail bt_29 bs_29 bm_29 ba_29 bu_29 bn_29 bf_29 (MOP.mgc g_40) (tb0_co.trans bt_29) e_40 (by omega) e_62 f_62) (by omega))⟩
    · refine tz_aload_n (pc := 21) dX12_common_21 rfl rfl ?_
      refine tz_iconst (pc := 22) dX12_common_22 ?_
      refine tz_iconst (pc := 23) dX12_common_23 ?_
      refine tz_cV (pc := 24) (m_refuses hl n _ _ _ (by decide) (by decide) (by decide)) vl_X12_391 dX12_common_24 o_164 rfl rfl (Nat.le_of_ble_eq_true rfl) ⟨(Nat.le_of_ble_eq_true rfl), (Nat.le_of_ble_eq_true rfl)⟩ rfl rfl (Nat.le_of_ble_eq_true rfl) (Nat.le_of_ble_eq_true rfl) (fun r9 J_24 hq9 => ?_)
      obtain ⟨z_24, rfl, hz_24, rfl, f_24⟩ := hq9
      have y_24 : MZ J_24 J := MZ.tr (MZ.up (k := 8) MZ.rf (by decide)) (MZ.c f_24 (by decide))
      exact tz_iret (pc := 27) (z := (-1)) dX12_common_27 rfl (Nat.le_of_ble_eq_true rfl) (Nat.le_of_ble_eq_true rfl) ⟨Nat.le_refl _, Nat.le_add_right _ _⟩ ⟨_, rfl, (by decide), ⟨MQr.z hI y_24, MFI.z y_24, Or.inr ⟨by omega, rfl, MBT.z hI y_24, u9.z y_24⟩⟩⟩

