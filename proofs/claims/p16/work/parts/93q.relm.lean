/-! ===== the reference follows the reading ===== -/
def EM (J g : zJ) : Prop := J 164 37 = g 0 0 ∧ J 173 = g 1 ∧ (J 164 44 = g 164 44 ∧ J 164 45 = g 164 45 ∧ J 164 21 = 0 ∧ J 164 20 = -1) ∧ (∀ k, 126 ≤ k → k < 189 → J 165 k = g 165 k) ∧ (∀ k, 800 ≤ k → k < 1200 → J 166 k = g 166 k ∧ J 168 k = g 168 k) ∧ (∀ k, 2400 ≤ k → k < 3600 → J 167 k = g 167 k) ∧ (∀ k, 10 ≤ k → k < 20 → J 169 k = g 169 k ∧ J 170 k = g 170 k ∧ J 171 k = g 171 k)
def RelM (J g : zJ) : Prop := J 164 43 = g 0 4 ∧ (¬ g 0 4 = 0 → J 164 20 = g 0 5) ∧ (g 0 4 = 0 → TKM J (g 1) (g 0 1) (g 0 3) (g 0 2) ∧ EM J g)
/-- the state of the reading is sound -/
def SI (g : zJ) : Prop := (0 ≤ g 0 0 ∧ g 0 0 ≤ 700) ∧ (0 ≤ g 0 1 ∧ g 0 1 ≤ g 0 2 ∧ g 0 2 ≤ g 0 0) ∧ (g 0 3 = 0 ∨ (g 0 1 < g 0 0 ∧ g 0 1 < g 0 2))
theorem pN0 {g : zJ} {k : Int} : pN g 0 k = if k = 2 then tkE (g 1) (g 0 0) (g 0 2) else if k = 3 then tkK (g 1) (g 0 0) (g 0 2) else if k = 1 then tkS (g 1) (g 0 0) (g 0 2) else g 0 k := rfl
theorem pN_c {g : zJ} {c : Nat} (h : ¬ c = 0) : pN g c = g c := by
  unfold pN
  rw [zup_nc h, zup_nc h, zup_nc h]
theorem SI.n {g : zJ} (h : SI g) : SI (pN g) := by
  have r := tk_rg (f := g 1) (N := g 0 0) (a := g 0 2) ⟨by have := h.2.1; omega, h.2.1.2.2⟩
  have h1 := h.2.1
  refine ⟨h.1, ?_, ?_⟩
  · rw [pN0, pN0, pN0, if_neg (by decide), if_neg (by decide), if_pos rfl, if_pos rfl, if_neg (by decide), if_neg (by decide), if_neg (by decide)]
    omega
  · rw [pN0, pN0, pN0, pN0, if_neg (by decide), if_pos rfl, if_neg (by decide), if_neg (by decide), if_pos rfl, if_neg (by decide), if_neg (by decide), if_neg (by decide), if_pos rfl]
    omega
theorem SI.f {g : zJ} (h : SI g) {c : Int} : SI (pF g c) := h
theorem EM.tok {J' J g : zJ} (h : EM J g) (r : RGo J' J) : EM J' (pN g) := by
  obtain ⟨h1, h2, ⟨h3, h4, h5⟩, h6, h7, h8, h9⟩ := h
  unfold EM
  rw [pN_c (c := 1) (by decide), pN_c (c := 164) (by decide), pN_c (c := 165) (by decide), pN_c (c := 166) (by decide), pN_c (c := 167) (by decide), pN_c (c := 168) (by decide), pN_c (c := 169) (by decide), pN_c (c := 170) (by decide), pN_c (c := 171) (by decide), r.1 173 rfl, r.1 165 rfl, r.1 166 rfl, r.1 167 rfl, r.1 168 rfl, r.1 169 rfl, r.1 170 rfl, r.1 171 rfl, r.2 37 rfl, r.2 44 rfl, r.2 45 rfl, r.2 21 rfl, r.2 20 rfl]
  exact ⟨h1, h2, ⟨h3, h4, h5⟩, h6, h7, h8, h9⟩
theorem RelM.go {J' J g : zJ} (h : RelM J g) (h0 : g 0 4 = 0) (r : RGo J' J) (t : TKM J' (J 173) (tkS (J 173) (J 164 37) (J 164 35)) (tkK (J 173) (J 164 37) (J 164 35)) (tkE (J 173) (J 164 37) (J 164 35))) : RelM J' (pN g) := by
  obtain ⟨h1, h2, h3⟩ := h
  obtain ⟨h4, h5⟩ := h3 h0
  rw [h5.2.1, h5.1, h4.2.1] at t
  refine ⟨by rw [r.2 43 rfl]; exact h1, fun q => absurd h0 q, fun _ => ⟨?_, h5.tok r⟩⟩
  rw [pN_c (c := 1) (by decide)]
  exact t
theorem RelM.fail {J g : zJ} {c : Int} (h : RelM J g) (h0 : g 0 4 = 0) (hc : ¬ c = 0) : RelM (zup (zup J 164 43 c) 164 20 (J 164 36)) (pF g c) := by
  obtain ⟨h1, h2, h3⟩ := h
  obtain ⟨h4, h5⟩ := h3 h0
  refine ⟨rfl, fun _ => ?_, fun q => absurd q hc⟩
  show J 164 36 = g 0 1
  exact h4.1
theorem TKM.rs {J f : zJ} {g : zJ} (h : TKM J (g 1) (g 0 1) (g 0 3) (g 0 2)) (hS : SI g) (hN : J 164 37 = g 0 0) : RSP J := by
  obtain ⟨h1, h2, h3⟩ := h
  unfold RSP RSz
  rw [hN, h1, h2]
  refine ⟨⟨hS.1, by have := hS.2.1; omega⟩, by have := hS.2.1; have := hS.1; omega, ?_⟩
  rcases h3 with q | q | q | q | q <;> omega
set_option maxHeartbeats 4000000 in
set_option maxRecDepth 100000 in
theorem x_wants {l : Launch} {G : tb_G} (hl : l.stackTraces = false) (n : Nat) (J : zJ) (x : Int) (y : Int) (hr_x : -2147483648 ≤ x ∧ x < 2147483648) (hr_y : -2147483648 ≤ y ∧ y < 2147483648)  (hy : ¬ y = 0) : tz_Ok l G M_X12_wants 0 0 0 [.ref 164, zi x, zi y] n J (zqi (fun z J' => (J 164 43 = 0 ∧ ¬ x = 0 ∧ z = 1 ∧ J = J') ∨ (J 164 43 = 0 ∧ x = 0 ∧ z = 0 ∧ J' = zup (zup J 164 43 y) 164 20 (J 164 36)) ∨ (¬ J 164 43 = 0 ∧ z = 0 ∧ J = J'))) zN := by
  refine tz_Ok.of hl (by decide +kernel) rfl (tb_c1 rfl) (Nat.le_of_ble_eq_true rfl) ?_
  show tz_At l G M_X12_wants (tb_rm 0 0 0) none (tb_ZM G 0 0 (zQ n 0 (zqi (fun z J' => (J 164 43 = 0 ∧ ¬ x = 0 ∧ z = 1 ∧ J = J') ∨ (J 164 43 = 0 ∧ x = 0 ∧ z = 0 ∧ J' = zup (zup J 164 43 y) 164 20 (J 164 36)) ∨ (¬ J 164 43 = 0 ∧ z = 0 ∧ J = J')))) (zX n 0 zN)) 0 0 n J 0 [some (.ref 164), some (zi x), some (zi y)] []
  refine tz_aload_n (pc := 0) dX12_wants_0 rfl rfl ?_
  refine tz_fI (pc := 1) (kz := 43) (v := (J 164 43)) dX12_wants_1 fl_X12_273 i_164_43 rfl rfl (fun r_1 => ?_)
  refine tz_if_ne (pc := 4) (tgt := 24) dX12_wants_4 (by decide) (by omega) (fun h_4 => ?_) (fun h_4 => ?_)
  · refine tz_aload_n (pc := 24) dX12_wants_24 rfl rfl ?_
    refine tz_fI (pc := 25) (kz := 43) (v := (J 164 43)) dX12_wants_25 fl_X12_273 i_164_43 rfl rfl (fun r_25 => ?_)
    refine tz_if_ne (pc := 28) (tgt := 35) dX12_wants_28 (by decide) (by omega) (fun h_28 => ?_) (fun h_28 => ?_)
    · refine tz_iconst (pc := 35) dX12_wants_35 ?_
      exact tz_zret (pc := 36) (z := 0) dX12_wants_36 rfl (Or.inl rfl) (Nat.le_of_ble_eq_true rfl) (Nat.le_of_ble_eq_true rfl) ⟨Nat.le_refl _, Nat.le_add_right _ _⟩ ⟨_, rfl, (by decide), (by first | exact Or.inl ⟨by omega, by omega, by omega, rfl⟩ | exact Or.inr (Or.inr ⟨by omega, by omega, rfl⟩))⟩
    · refine tz_iconst (pc := 31) dX12_wants_31 ?_
      refine tz_goto (pc := 32) (tgt := 36) dX12_wants_32 (by decide) ?_
      exact tz_zret (pc := 36) (z := 1) dX12_wants_36 rfl (Or.inr rfl) (Nat.le_of_ble_eq_true rfl) (Nat.le_of_ble_eq_true rfl) ⟨Nat.le_refl _, Nat.le_add_right _ _⟩ ⟨_, rfl, (by decide), (by first | exact Or.inl ⟨by omega, by omega, by omega, rfl⟩ | exact Or.inr (Or.inr ⟨by omega, by omega, rfl⟩))⟩
  · refine tz_iload_n (pc := 7) dX12_wants_7 rfl rfl ?_
    refine tz_if_ne (pc := 8) (tgt := 24) dX12_wants_8 (by decide) (by omega) (fun h_8 => ?_) (fun h_8 => ?_)
    · refine tz_aload_n (pc := 24) dX12_wants_24 rfl rfl ?_
      refine tz_fI (pc := 25) (kz := 43) (v := (J 164 43)) dX12_wants_25 fl_X12_273 i_164_43 rfl rfl (fun r_25 => ?_)
      refine tz_if_ne (pc := 28) (tgt := 35) dX12_wants_28 (by decide) (by omega) (fun h_28 => ?_) (fun h_28 => ?_)
      · refine tz_iconst (pc := 35) dX12_wants_35 ?_
        exact tz_zret (pc := 36) (z := 0) dX12_wants_36 rfl (Or.inl rfl) (Nat.le_of_ble_eq_true rfl) (Nat.le_of_ble_eq_true rfl) ⟨Nat.le_refl _, Nat.le_add_right _ _⟩ ⟨_, rfl, (by decide), (by first | exact Or.inl ⟨by omega, by omega, by omega, rfl⟩ | exact Or.inr (Or.inr ⟨by omega, by omega, rfl⟩))⟩
      · refine tz_iconst (pc := 31) dX12_wants_31 ?_
        refine tz_goto (pc := 32) (tgt := 36) dX12_wants_32 (by decide) ?_
        exact tz_zret (pc := 36) (z := 1) dX12_wants_36 rfl (Or.inr rfl) (Nat.le_of_ble_eq_true rfl) (Nat.le_of_ble_eq_true rfl) ⟨Nat.le_refl _, Nat.le_add_right _ _⟩ ⟨_, rfl, (by decide), (by first | exact Or.inl ⟨by omega, by omega, by omega, rfl⟩ | exact Or.inr (Or.inr ⟨by omega, by omega, rfl⟩))⟩
    · refine tz_aload_n (pc := 11) dX12_wants_11 rfl rfl ?_
      refine tz_iload_n (pc := 12) dX12_wants_12 rfl rfl ?_
      refine tz_pI (pc := 13) (kz := 43) dX12_wants_13 fl_X12_273 i_164_43 rfl rfl (by omega) ?_
      refine tz_aload_n (pc := 16) dX12_wants_16 rfl rfl ?_
      refine tz_aload_n (pc := 17) dX12_wants_17 rfl rfl ?_
      refine tz_fI (pc := 18) (kz := 36) (v := (J 164 36)) dX12_wants_18 fl_X12_246 i_164_36 rfl rfl (fun r_18 => ?_)
      refine tz_pI (pc := 21) (kz := 20) dX12_wants_21 fl_X12_37 i_164_20 rfl rfl (by omega) ?_
      refine tz_aload_n (pc := 24) dX12_wants_24 rfl rfl ?_
      refine tz_fI (pc := 25) (kz := 43) (v := y) dX12_wants_25 fl_X12_273 i_164_43 rfl rfl (fun r_25 => ?_)
      refine tz_if_ne (pc := 28) (tgt := 35) dX12_wants_28 (by decide) (by omega) (fun h_28 => ?_) (fun h_28 => ?_)
      · refine tz_iconst (pc := 35) dX12_wants_35 ?_
        exact tz_zret (pc := 36) (z := 0) dX12_wants_36 rfl (Or.inl rfl) (Nat.le_of_ble_eq_true rfl) (Nat.le_of_ble_eq_true rfl) ⟨Nat.le_refl _, Nat.le_add_right _ _⟩ ⟨_, rfl, (by decide), Or.inr (Or.inl ⟨by omega, by omega, by omega, rfl⟩)⟩
      · refine tz_iconst (pc := 31) dX12_wants_31 ?_
        refine tz_goto (pc := 32) (tgt := 36) dX12_wants_32 (by decide) ?_
        exact tz_zret (pc := 36) (z := 1) dX12_wants_36 rfl (Or.inr rfl) (Nat.le_of_ble_eq_true rfl) (Nat.le_of_ble_eq_true rfl) ⟨Nat.le_refl _, Nat.le_add_right _ _⟩ ⟨_, rfl, (by decide), Or.inr (Or.inl ⟨by omega, by omega, by omega, rfl⟩)⟩

theorem y_go {l : Launch} {G : tb_G} (hl : l.stackTraces = false) (n : Nat) (J : zJ) (g : zJ) (hR : RelM J g) (h0 : g 0 4 = 0) (hS : SI g) : tz_Ok l G M_X12_go 2 0 0 [.ref 164] n J (zqv (fun J' => RelM J' (pN g) ∧ RGw J' J ∧ (¬ J 164 38 = 0 → rmu J' < rmu J))) zN := by
  have hT := hR.2.2 h0
  have hP : RSP J := hT.1.rs (f := J) hS hT.2.1
  refine (x_go hl n J hP.1).mono (fun r J' _ ⟨h1, h2, h3⟩ => ⟨h1, ?_⟩) (fun _ _ _ h => h)
  have hr := hR.go h0 h2 h3
  have hT' := hr.2.2 h0
  have hP' : RSP J' := hT'.1.rs (f := J') hS.n hT'.2.1
  have e37 : J' 164 37 = J 164 37 := h2.2 37 rfl
  have e35 : J' 164 35 = tkE (J 173) (J 164 37) (J 164 35) := h3.2.1
  have e38 := h3.2.2
  have rg := tk_rg (f := J 173) (N := J 164 37) (a := J 164 35) ⟨hP.1.2.1, hP.1.2.2⟩
  have hm : rmu J' ≤ J 164 37 - J 164 35 := by
    unfold rmu
    rw [e37, e35]
    split
    · omega
    · next q => rcases e38 with w | w | w | w | w <;> omega
  exact ⟨hr, ⟨⟨h2.1, fun k a _ _ => h2.2 k a⟩, hP', fun q => (h2.2 43 rfl).symm.trans q, Int.le_trans hm rmu_ge⟩, fun q => Int.lt_of_le_of_lt hm (rmu_gt q)⟩
/-- wants: what it does by the reading -/
theorem y_wants {l : Launch} {G : tb_G} (hl : l.stackTraces = false) (n : Nat) (J : zJ) (x y : Int) (hr_x : -2147483648 ≤ x ∧ x < 2147483648) (hr_y : -2147483648 ≤ y ∧ y < 2147483648) (g : zJ) (hR : RelM J g) (hP : RSP J) (hy : ¬ y = 0) : tz_Ok l G M_X12_wants 0 0 0 [.ref 164, zi x, zi y] n J (zqi (fun z J' => RGw J' J ∧ ((g 0 4 = 0 ∧ ¬ x = 0 ∧ z = 1 ∧ J = J') ∨ (g 0 4 = 0 ∧ x = 0 ∧ z = 0 ∧ ¬ J' 164 43 = 0 ∧ RelM J' (pF g y)) ∨ (¬ g 0 4 = 0 ∧ z = 0 ∧ J = J')))) zN := by
  refine (x_wants hl n J x y hr_x hr_y hy).mono (fun r J' _ ⟨z, h1, h2, h3⟩ => ⟨z, h1, h2, ?_⟩) (fun _ _ _ h => h)
  rcases h3 with ⟨a, b, c, d⟩ | ⟨a, b, c, d⟩ | ⟨a, b, c⟩
  · subst d
    exact ⟨RGw.rf hP, Or.inl ⟨by rw [← hR.1]; exact a, b, c, rfl⟩⟩
  · subst d
    have h0 : g 0 4 = 0 := by rw [← hR.1]; exact a
    refine ⟨RGw.wb hP hy, Or.inr (Or.inl ⟨h0, b, c, ?_, hR.fail h0 hy⟩)⟩
    show ¬ zup J 164 43 y 164 43 = 0
    rw [zup_at]
    exact hy
  · subst c
    exact ⟨RGw.rf hP, Or.inr (Or.inr ⟨by rw [← hR.1]; exact a, b, rfl⟩)⟩
theorem TKM.sg {J g : zJ} {c : Int} (h : TKM J (g 1) (g 0 1) (g 0 3) (g 0 2)) (hc : c = 40 ∨ c = 41 ∨ c = 44 ∨ c = 59 ∨ c = 63) : J 164 42 = c ↔ g 0 3 = c := by
  obtain ⟨_, _, h3⟩ := h
  rcases h3 with q | q | q | q | q <;> omega
theorem TKM.so {J g : zJ} (h : TKM J (g 1) (g 0 1) (g 0 3) (g 0 2)) : (J 164 38 = 1 ↔ g 0 3 = 2) ∧ (J 164 38 = 2 ↔ g 0 3 = 3) ∧ (J 164 38 = 0 ↔ g 0 3 = 0) ∧ (g 0 3 = 2 → J 164 41 = g 0 2 - g 0 1) := by
  obtain ⟨_, _, h3⟩ := h
  rcases h3 with q | q | q | q | q <;> omega
theorem TKM.vl {J g : zJ} (h : TKM J (g 1) (g 0 1) (g 0 3) (g 0 2)) (h3 : g 0 3 = 3) : (g 0 2 = g 0 1 + 1 ∧ J 164 39 = g 1 (g 0 1) - 48) ∨ (g 0 1 + 1 < g 0 2 ∧ J 164 39 = 999) := by
  obtain ⟨_, _, h4⟩ := h
  rcases h4 with q | q | q | q | q
  · omega
  · omega
  · exact q.2.2.2.2.2
  · omega
  · omega
set_option maxHeartbeats 4000000 in
set_option maxRecDepth 100000 in
theorem y_sign {l : Launch} {G : tb_G} (hl : l.stackTraces = false) (n : Nat) (J : zJ) (x : Int) (hr_x : -2147483648 ≤ x ∧ x < 2147483648) (g : zJ) (hR : RelM J g) (hS : SI g) (hP : RSP J) (hx : x = 40 ∨ x = 41 ∨ x = 44 ∨ x = 59 ∨ x = 63) : tz_Ok l G M_X12_sign 3 0 0 [.ref 164, zi x] n J (zqv (fun J' => RGw J' J ∧ (J' 164 43 = 0 → rmu J' < rmu J) ∧ RelM J' (pP g x))) zN := by
  refine tz_Ok.of hl (by decide +kernel) rfl (tb_c1 rfl) (Nat.le_of_ble_eq_true rfl) ?_
  show tz_At l G M_X12_sign (tb_rm 3 0 0) none (tb_ZM G 0 0 (zQ n 0 (zqv (fun J' => RGw J' J ∧ (J' 164 43 = 0 → rmu J' < rmu J) ∧ RelM J' (pP g x)))) (zX n 0 zN)) 0 0 n J 0 [some (.ref 164), some (zi x)] []
  refine tz_aload_n (pc := 0) dX12_sign_0 rfl rfl ?_
  refine tz_fI (pc := 1) (kz := 43) (v := (J 164 43)) dX12_sign_1 fl_X12_273 i_164_43 rfl rfl (fun r_1 => ?_)
  refine tz_if_ne (pc := 4) (tgt := 32) dX12_sign_4 (by decide) (by omega) (fun h_4 => ?_) (fun h_4 => ?_)
  · exact tz_vret (pc := 32) dX12_sign_32 rfl (Nat.le_of_ble_eq_true rfl) (Nat.le_of_ble_eq_true rfl) ⟨Nat.le_refl _, Nat.le_add_right _ _⟩ ⟨rfl, ⟨RGw.rf hP, fun q9 => by omega, by unfold pP; rw [if_neg (by rw [← hR.1]; omega)]; exact hR⟩⟩
  · have h0 : g 0 4 = 0 := by rw [← hR.1]; omega
    have hT := hR.2.2 h0
    refine tz_aload_n (pc := 7) dX12_sign_7 rfl rfl ?_
    refine tz_aload_n (pc := 8) dX12_sign_8 rfl rfl ?_
    refine tz_fI (pc := 9) (kz := 42) (v := (J 164 42)) dX12_sign_9 fl_X12_258 i_164_42 rfl rfl (fun r_9 => ?_)
    refine tz_iload_n (pc := 12) dX12_sign_12 rfl rfl ?_
    refine tz_icmp_ne (pc := 13) (tgt := 20) dX12_sign_13 (by decide) (by omega) (by omega) (fun h_13 => ?_) (fun h_13 => ?_)
    · refine tz_iconst (pc := 20) dX12_sign_20 ?_
      refine tz_iconst (pc := 21) dX12_sign_21 ?_
      refine tz_cV (pc := 22) (y_wants hl n _ _ _ (by decide) (by decide) g hR hP (by decide)) vl_X12_276 dX12_sign_22 o_164 rfl rfl (Nat.le_of_ble_eq_true rfl) ⟨(Nat.le_of_ble_eq_true rfl), (Nat.le_of_ble_eq_true rfl)⟩ rfl rfl (Nat.le_of_ble_eq_true rfl) (Nat.le_of_ble_eq_true rfl) (fun r9 J_22 hq9 => ?_)
      obtain ⟨z_22, rfl, hz_22, w_22, o_22⟩ := hq9
      obtain ⟨rfl, v_22, r_22⟩ : z_22 = 0 ∧ ¬ J_22 164 43 = 0 ∧ RelM J_22 (pF g 1) := by rcases o_22 with q | q | q; exact absurd rfl q.2.1; exact ⟨q.2.2.1, q.2.2.2⟩; exact absurd h0 q.1
      refine tz_if_eqT (pc := 25) (tgt := 32) (by decide) dX12_sign_25 (by decide) (by decide) ?_
      exact tz_vret (pc := 32) dX12_sign_32 rfl (Nat.le_of_ble_eq_true rfl) (Nat.le_of_ble_eq_true rfl) ⟨Nat.le_refl _, Nat.le_add_right _ _⟩ ⟨rfl, ⟨w_22, fun q9 => absurd q9 v_22, by unfold pP; rw [if_pos h0, if_neg (by rw [← hT.1.sg hx]; omega)]; exact r_22⟩⟩
    · refine tz_iconst (pc := 16) dX12_sign_16 ?_
      refine tz_goto (pc := 17) (tgt := 21) dX12_sign_17 (by decide) ?_
      refine tz_iconst (pc := 21) dX12_sign_21 ?_
      refine tz_cV (pc := 22) (y_wants hl n _ _ _ (by decide) (by decide) g hR hP (by decide)) vl_X12_276 dX12_sign_22 o_164 rfl rfl (Nat.le_of_ble_eq_true rfl) ⟨(Nat.le_of_ble_eq_true rfl), (Nat.le_of_ble_eq_true rfl)⟩ rfl rfl (Nat.le_of_ble_eq_true rfl) (Nat.le_of_ble_eq_true rfl) (fun r9 J_22 hq9 => ?_)
      obtain ⟨z_22, rfl, hz_22, w_22, o_22⟩ := hq9
      obtain ⟨rfl, rfl⟩ : z_22 = 1 ∧ J = J_22 := by rcases o_22 with q | q | q; exact ⟨q.2.2.1, q.2.2.2⟩; exact absurd q.2.1 (by decide); exact absurd h0 q.1
      refine tz_if_eqF (pc := 25) (tgt := 32) (by decide) dX12_sign_25 (by decide) (by decide) ?_
      refine tz_aload_n (pc := 28) dX12_sign_28 rfl rfl ?_
      refine tz_cV (pc := 29) (y_go hl n _ g hR h0 hS) vl_X12_280 dX12_sign_29 o_164 rfl rfl (Nat.le_of_ble_eq_true rfl) ⟨(Nat.le_of_ble_eq_true rfl), (Nat.le_of_ble_eq_true rfl)⟩ rfl rfl (Nat.le_of_ble_eq_true rfl) (Nat.le_of_ble_eq_true rfl) (fun r9 J_29 hq9 => ?_)
      obtain ⟨rfl, r_29, w_29, u_29⟩ := hq9
      exact tz_vret (pc := 32) dX12_sign_32 rfl (Nat.le_of_ble_eq_true rfl) (Nat.le_of_ble_eq_true rfl) ⟨Nat.le_refl _, Nat.le_add_right _ _⟩ ⟨rfl, ⟨w_29, fun _ => u_29 (by have := hT.1.sg hx; have := hT.1.so; omega), by unfold pP; rw [if_pos h0, if_pos ((hT.1.sg hx).1 (by omega))]; exact r_29⟩⟩

set_option maxHeartbeats 4000000 in
set_option maxRecDepth 100000 in
theorem y_number {l : Launch} {G : tb_G} (hl : l.stackTraces = false) (n : Nat) (J : zJ) (a : Int) (b : Int) (hr_a : -2147483648 ≤ a ∧ a < 2147483648) (hr_b : -2147483648 ≤ b ∧ b < 2147483648) (g : zJ) (hR : RelM J g) (hS : SI g) (hP : RSP J) (hab : (a = 0 ∨ a = 1) ∧ a ≤ b ∧ b ≤ 9) : tz_Ok l G M_X12_number 3 0 0 [.ref 164, zi a, zi b] n J (zqi (fun z J' => RGw J' J ∧ (a ≤ z ∧ z ≤ b) ∧ RelM J' (pU g a b).1 ∧ ((pU g a b).1 0 4 = 0 → z = (pU g a b).2))) zN := by
  refine tz_Ok.of hl (by decide +kernel) rfl (tb_c1 rfl) (Nat.le_of_ble_eq_true rfl) ?_
  show tz_At l G M_X12_number (tb_rm 3 0 0) none (tb_ZM G 0 0 (zQ n 0 (zqi (fun z J' => RGw J' J ∧ (a ≤ z ∧ z ≤ b) ∧ RelM J' (pU g a b).1 ∧ ((pU g a b).1 0 4 = 0 → z = (pU g a b).2)))) (zX n 0 zN)) 0 0 n J 0 [some (.ref 164), some (zi a), some (zi b), none] []
  refine tz_aload_n (pc := 0) dX12_number_0 rfl rfl ?_
  refine tz_fI (pc := 1) (kz := 43) (v := (J 164 43)) dX12_number_1 fl_X12_273 i_164_43 rfl rfl (fun r_1 => ?_)
  refine tz_if_ne (pc := 4) (tgt := 45) dX12_number_4 (by decide) (by omega) (fun h_4 => ?_) (fun h_4 => ?_)
  · refine tz_iload_n (pc := 45) dX12_number_45 rfl rfl ?_
    exact tz_iret (pc := 46) (z := a) dX12_number_46 rfl (Nat.le_of_ble_eq_true rfl) (Nat.le_of_ble_eq_true rfl) ⟨Nat.le_refl _, Nat.le_add_right _ _⟩ ⟨_, rfl, (by omega), ⟨RGw.rf hP, by omega, by unfold pU; rw [if_neg (by rw [← hR.1]; omega)]; exact hR, fun q9 => absurd ((hR.1).trans (by unfold pU at q9; rw [if_neg (by rw [← hR.1]; omega)] at q9; exact q9)) (by omega)⟩⟩
  · have h0 : g 0 4 = 0 := by rw [← hR.1]; omega
    have hT := hR.2.2 h0
    have hso := hT.1.so
    refine tz_aload_n (pc := 7) dX12_number_7 rfl rfl ?_
    refine tz_aload_n (pc := 8) dX12_number_8 rfl rfl ?_
    refine tz_fI (pc := 9) (kz := 38) (v := (J 164 38)) dX12_number_9 fl_X12_261 i_164_38 rfl rfl (fun r_9 => ?_)
    refine tz_iconst (pc := 12) dX12_number_12 ?_
    refine tz_icmp_ne (pc := 13) (tgt := 20) dX12_number_13 (by decide) (by omega) (by decide) (fun h_13 => ?_) (fun h_13 => ?_)
    · refine tz_iconst (pc := 20) dX12_number_20 ?_
      refine tz_iconst (pc := 21) dX12_number_21 ?_
      refine tz_cV (pc := 22) (y_wants hl n _ _ _ (by decide) (by decide) g hR hP (by decide)) vl_X12_276 dX12_number_22 o_164 rfl rfl (Nat.le_of_ble_eq_true rfl) ⟨(Nat.le_of_ble_eq_true rfl), (Nat.le_of_ble_eq_true rfl)⟩ rfl rfl (Nat.le_of_ble_eq_true rfl) (Nat.le_of_ble_eq_true rfl) (fun r9 J_22 hq9 => ?_)
      obtain ⟨z_22, rfl, hz_22, w_22, o_22⟩ := hq9
      obtain ⟨rfl, v_22, r_22⟩ : z_22 = 0 ∧ ¬ J_22 164 43 = 0 ∧ RelM J_22 (pF g 1) := by rcases o_22 with q | q | q; exact absurd rfl q.2.1; exact ⟨q.2.2.1, q.2.2.2⟩; exact absurd h0 q.1
      refine tz_if_eqT (pc := 25) (tgt := 45) (by decide) dX12_number_25 (by decide) (by decide) ?_
      refine tz_iload_n (pc := 45) dX12_number_45 rfl rfl ?_
      exact tz_iret (pc := 46) (z := a) dX12_number_46 rfl (Nat.le_of_ble_eq_true rfl) (Nat.le_of_ble_eq_true rfl) ⟨Nat.le_refl _, Nat.le_add_right _ _⟩ ⟨_, rfl, (by omega), ⟨w_22, by omega, by rw [show (pU g a b).1 = pF g 1 from by unfold pU; rw [if_pos h0, if_neg (by have := hT.1.so; omega)]]; exact r_22, fun q9 => absurd (r_22.1.trans (show pF g 1 0 4 = 0 from by rw [show (pU g a b).1 = pF g 1 from by unfold pU; rw [if_pos h0, if_neg (by have := hT.1.so; omega)]] at q9; exact q9)) v_22⟩⟩
    · refine tz_iconst (pc := 16) dX12_number_16 ?_
      refine tz_goto (pc := 17) (tgt := 21) dX12_number_17 (by decide) ?_
      refine tz_iconst (pc := 21) dX12_number_21 ?_
      refine tz_cV (pc := 22) (y_wants hl n _ _ _ (by decide) (by decide) g hR hP (by decide)) vl_X12_276 dX12_number_22 o_164 rfl rfl (Nat.le_of_ble_eq_true rfl) ⟨(Nat.le_of_ble_eq_true rfl), (Nat.le_of_ble_eq_true rfl)⟩ rfl rfl (Nat.le_of_ble_eq_true rfl) (Nat.le_of_ble_eq_true rfl) (fun r9 J_22 hq9 => ?_)
      obtain ⟨z_22, rfl, hz_22, w_22, o_22⟩ := hq9
      obtain ⟨rfl, rfl⟩ : z_22 = 1 ∧ J = J_22 := by rcases o_22 with q | q | q; exact ⟨q.2.2.1, q.2.2.2⟩; exact absurd q.2.1 (by decide); exact absurd h0 q.1
      refine tz_if_eqF (pc := 25) (tgt := 45) (by decide) dX12_number_25 (by decide) (by decide) ?_
      have k3 : g 0 3 = 3 := by omega
      have vl := hT.1.vl k3
      have e2 : ¬ (g 0 2 = g 0 1 + 1 ∧ a ≤ g 1 (g 0 1) - 48 ∧ g 1 (g 0 1) - 48 ≤ b) → pU g a b = (pF g 2, a) := fun q => by unfold pU; rw [if_pos h0, if_pos k3, if_neg q]
      have e3 : (g 0 2 = g 0 1 + 1 ∧ a ≤ g 1 (g 0 1) - 48 ∧ g 1 (g 0 1) - 48 ≤ b) → pU g a b = (pN g, g 1 (g 0 1) - 48) := fun q => by unfold pU; rw [if_pos h0, if_pos k3, if_pos q]
      refine tz_aload_n (pc := 28) dX12_number_28 rfl rfl ?_
      refine tz_aload_n (pc := 29) dX12_number_29 rfl rfl ?_
      refine tz_fI (pc := 30) (kz := 39) (v := (J 164 39)) dX12_number_30 fl_X12_255 i_164_39 rfl rfl (fun r_30 => ?_)
      refine tz_iload_n (pc := 33) dX12_number_33 rfl rfl ?_
      refine tz_iload_n (pc := 34) dX12_number_34 rfl rfl ?_
      refine tz_cS (pc := 35) (m_within hl n _ _ _ _ (by omega) (by omega) (by omega)) sl_X12_283 dX12_number_35 rfl rfl (Nat.le_of_ble_eq_true rfl) ⟨(Nat.le_of_ble_eq_true rfl), (Nat.le_of_ble_eq_true rfl)⟩ rfl rfl (Nat.le_of_ble_eq_true rfl) (Nat.le_of_ble_eq_true rfl) (fun r9 J_35 hq9 => ?_)
      obtain ⟨zw9, rfl, hz_35, rfl, hw⟩ := hq9
      rcases hw with ⟨rfl, hw8⟩ | ⟨rfl, hw8⟩
      · refine tz_iconst (pc := 38) dX12_number_38 ?_
        refine tz_cV (pc := 39) (y_wants hl n _ _ _ (by decide) (by decide) g hR hP (by decide)) vl_X12_276 dX12_number_39 o_164 rfl rfl (Nat.le_of_ble_eq_true rfl) ⟨(Nat.le_of_ble_eq_true rfl), (Nat.le_of_ble_eq_true rfl)⟩ rfl rfl (Nat.le_of_ble_eq_true rfl) (Nat.le_of_ble_eq_true rfl) (fun r9 J_39 hq9 => ?_)
        obtain ⟨z_39, rfl, hz_39, w_39, o_39⟩ := hq9
        obtain ⟨rfl, rfl⟩ : z_39 = 1 ∧ J = J_39 := by rcases o_39 with q | q | q; exact ⟨q.2.2.1, q.2.2.2⟩; exact absurd q.2.1 (by decide); exact absurd h0 q.1
        refine tz_if_neT (pc := 42) (tgt := 47) (by decide) dX12_number_42 (by decide) (by decide) ?_
        refine tz_aload_n (pc := 47) dX12_number_47 rfl rfl ?_
        refine tz_fI (pc := 48) (kz := 39) (v := (J 164 39)) dX12_number_48 fl_X12_255 i_164_39 rfl rfl (fun r_48 => ?_)
        refine tz_istore_n (pc := 51) (L2 := [_, _, _, _]) dX12_number_51 rfl (by decide) rfl ?_
        refine tz_aload_n (pc := 52) dX12_number_52 rfl rfl ?_
        refine tz_cV (pc := 53) (y_go hl n _ g hR h0 hS) vl_X12_280 dX12_number_53 o_164 rfl rfl (Nat.le_of_ble_eq_true rfl) ⟨(Nat.le_of_ble_eq_true rfl), (Nat.le_of_ble_eq_true rfl)⟩ rfl rfl (Nat.le_of_ble_eq_true rfl) (Nat.le_of_ble_eq_true rfl) (fun r9 J_53 hq9 => ?_)
        obtain ⟨rfl, r_53, w_53, u_53⟩ := hq9
        refine tz_iload_n (pc := 56) dX12_number_56 rfl rfl ?_
        exact tz_iret (pc := 57) (z := (J 164 39)) dX12_number_57 rfl (Nat.le_of_ble_eq_true rfl) (Nat.le_of_ble_eq_true rfl) ⟨Nat.le_refl _, Nat.le_add_right _ _⟩ ⟨_, rfl, (by omega), ⟨w_53, by omega, by rw [e3 (by omega)]; exact r_53, fun _ => by rw [e3 (by omega)]; show _ = g 1 (g 0 1) - 48; omega⟩⟩
      · refine tz_iconst (pc := 38) dX12_number_38 ?_
        refine tz_cV (pc := 39) (y_wants hl n _ _ _ (by decide) (by decide) g hR hP (by decide)) vl_X12_276 dX12_number_39 o_164 rfl rfl (Nat.le_of_ble_eq_true rfl) ⟨(Nat.le_of_ble_eq_true rfl), (Nat.le_of_ble_eq_true rfl)⟩ rfl rfl (Nat.le_of_ble_eq_true rfl) (Nat.le_of_ble_eq_true rfl) (fun r9 J_39 hq9 => ?_)
        obtain ⟨z_39, rfl, hz_39, w_39, o_39⟩ := hq9
        obtain ⟨rfl, v_39, r_39⟩ : z_39 = 0 ∧ ¬ J_39 164 43 = 0 ∧ RelM J_39 (pF g 2) := by rcases o_39 with q | q | q; exact absurd rfl q.2.1; exact ⟨q.2.2.1, q.2.2.2⟩; exact absurd h0 q.1
        refine tz_if_neF (pc := 42) (tgt := 47) (by decide) dX12_number_42 (by decide) (by decide) ?_
        refine tz_iload_n (pc := 45) dX12_number_45 rfl rfl ?_
        exact tz_iret (pc := 46) (z := a) dX12_number_46 rfl (Nat.le_of_ble_eq_true rfl) (Nat.le_of_ble_eq_true rfl) ⟨Nat.le_refl _, Nat.le_add_right _ _⟩ ⟨_, rfl, (by omega), ⟨w_39, by omega, by rw [e2 (by omega)]; exact r_39, fun q9 => absurd (r_39.1.trans (by rw [e2 (by omega)] at q9; exact q9)) v_39⟩⟩

