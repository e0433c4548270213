/-! ===== the class follows the reading: leaves ===== -/
/-- the rest of the row -/
def EB (f h : Int → Int) : Prop := f 1 = h 165 ∧ (f 2 = h 187 ∧ f 3 = h 188 ∧ f 6 = 0) ∧ ∀ v, 0 ≤ v → v < 8 → f (7 + v) + 1 = h (127 + v)
/-- the tables of the class, as the reading has them -/
def ET (J g : zJ) : Prop := (J 1 3 = g 164 44 ∧ ∀ k, 0 ≤ k → k < g 164 44 → J 2 k = g 169 (10 + k) ∧ J 3 k = g 170 (10 + k) ∧ J 4 k = g 171 (10 + k)) ∧ (J 6 12 = g 165 126 ∧ (∀ t, 0 ≤ t → t < g 165 126 → J 7 t = g 166 (800 + t) ∧ J 12 t = g 168 (800 + t)) ∧ (∀ t i, 0 ≤ t → t < g 165 126 → 0 ≤ i → i < J 8 t → J 9 (t * 3 + i) = g 167 (3 * (800 + t) + i))) ∧ (J 19 4 = g 165 135 ∧ ∀ i, 0 ≤ i → i < g 165 135 → J 19 (15 + i) = g 165 (136 + 2 * i) ∧ J 19 (23 + i) = g 165 (137 + 2 * i)) ∧ (J 19 5 = g 165 152 ∧ ∀ i, 0 ≤ i → i < g 165 152 → J 19 (31 + i) = g 165 (153 + i)) ∧ EB (J 19) (g 165)
def EC (J g : zJ) : Prop := J 163 4 = g 0 0 ∧ J 162 = g 1 ∧ J 163 10 = g 164 45 ∧ ET J g
def RelC (J g : zJ) : Prop := J 163 8 = g 0 4 ∧ (¬ g 0 4 = 0 → J 163 9 = g 0 5) ∧ (g 0 4 = 0 → (J 163 6 = g 0 1 ∧ J 163 5 = g 0 3 ∧ J 163 7 = g 0 2) ∧ EC J g)
def XC (J g : zJ) : Prop := g 0 4 = 99 ∨ RelC J g
theorem ET.of {J' J g : zJ} (h : ET J g) (f : zOf (zbut [163]) J' J) : ET J' g := by
  unfold ET
  rw [f 1 rfl, f 2 rfl, f 3 rfl, f 4 rfl, f 6 rfl, f 7 rfl, f 8 rfl, f 12 rfl, f 9 rfl, f 19 rfl]
  exact h
theorem ET.g {J g' g : zJ} (h : ET J g) (f : ∀ c, ¬ c = 0 → g' c = g c) : ET J g' := by
  unfold ET
  rw [f 164 (by decide), f 165 (by decide), f 166 (by decide), f 167 (by decide), f 168 (by decide), f 169 (by decide), f 170 (by decide), f 171 (by decide)]
  exact h
theorem XC.bad {J g : zJ} (h : XC J g) (h0 : J 163 8 = 0) : g 0 4 = 99 ∨ (g 0 4 = 0 ∧ RelC J g) := h.imp id (fun q => ⟨by rw [← q.1]; exact h0, q⟩)
theorem XC.no {J g : zJ} (h : XC J g) (h0 : ¬ J 163 8 = 0) : ¬ g 0 4 = 0 := by
  rcases h with q | q
  · omega
  · rw [← q.1]; exact h0
theorem RelC.next {J' J g : zJ} (h : RelC J g) (h0 : g 0 4 = 0) (f : zOf (zbut [163]) J' J ∧ ∀ k, ¬ k = 5 → ¬ k = 6 → ¬ k = 7 → J' 163 k = J 163 k) (e6 : J' 163 6 = tkS (J 162) (J 163 4) (J 163 7)) (e5 : J' 163 5 = tkK (J 162) (J 163 4) (J 163 7)) (e7 : J' 163 7 = tkE (J 162) (J 163 4) (J 163 7)) : RelC J' (pN g) := by
  obtain ⟨h1, h2, h3⟩ := h
  obtain ⟨⟨a1, a2, a3⟩, b1, b2, b3, b4⟩ := h3 h0
  rw [b2, b1, a3] at e6 e5 e7
  refine ⟨by rw [f.2 8 (by decide) (by decide) (by decide)]; exact h1, fun q => absurd h0 q, fun _ => ⟨⟨e6, e5, e7⟩, ?_, ?_, ?_, ?_⟩⟩
  · rw [f.2 4 (by decide) (by decide) (by decide)]; exact b1
  · rw [f.1 162 rfl, pN_c (by decide)]; exact b2
  · rw [f.2 10 (by decide) (by decide) (by decide), pN_c (by decide)]; exact b3
  · exact (b4.of f.1).g (fun c hc => pN_c hc)
theorem w_next {l : Launch} {G : tb_G} (hl : l.stackTraces = false) (n : Nat) (J : zJ) (g : zJ) (hD : RD2 J) (hX : XC J g) (hb : J 163 8 = 0) : tz_Ok l G M_X5_next 1 0 0 [.ref 163] n J (zqv (fun J' => RN J' J ∧ RD2 J' ∧ J' 163 8 = J 163 8 ∧ XC J' (pNx g))) zN := by
  obtain ⟨⟨d1, d2⟩, d3⟩ := id hD
  rcases hX.bad hb with q | ⟨q, hR⟩
  · exact (c_next hl n J (by omega) d2.2).mono (fun r J' _ ⟨a, b, c, d⟩ => ⟨a, b, c, d, by unfold pNx; rw [if_neg (by omega)]; exact Or.inl q⟩) (fun _ _ _ h => h)
  · refine (x_next hl n J (by omega) d2.2).mono (fun r J' _ ⟨a, f, e6, e5, e7⟩ => ⟨a, ?_⟩) (fun _ _ _ h => h)
    have e8 := f.2 8 (by decide) (by decide) (by decide)
    have e4 := f.2 4 (by decide) (by decide) (by decide)
    have rg := tk_rg (f := J 162) (N := J 163 4) (a := J 163 7) (by omega)
    refine ⟨⟨f.1, e4, fun p => by rw [← e8]; exact p⟩, ⟨⟨?_, ?_⟩, ?_⟩, e8, by unfold pNx; rw [if_pos q]; exact Or.inr (hR.next q f e6 e5 e7)⟩
    · rw [e6, e7]; omega
    · rw [e7, e4]; omega
    · rw [e5, e6, e4]
      exact rg.2.imp id (fun p => p.1)
theorem RelC.fail {J g : zJ} {c : Int} (h : RelC J g) (h0 : g 0 4 = 0) (hc : ¬ c = 0) : RelC (zup (zup J 163 8 c) 163 9 (J 163 6)) (pF g c) := by
  obtain ⟨h1, h2, h3⟩ := h
  obtain ⟨⟨a1, a2, a3⟩, _⟩ := h3 h0
  exact ⟨rfl, fun _ => a1, fun q => absurd q hc⟩
set_option maxHeartbeats 4000000 in
set_option maxRecDepth 100000 in
theorem x_failC {l : Launch} {G : tb_G} (hl : l.stackTraces = false) (n : Nat) (J : zJ) (k : Int) (hr_k : -2147483648 ≤ k ∧ k < 2147483648)  (hk : ¬ k = 0) : tz_Ok l G M_X5_fail 0 0 0 [.ref 163, zi k] n J (zqi (fun z J' => z = -1 ∧ ((J 163 8 = 0 ∧ J' = zup (zup J 163 8 k) 163 9 (J 163 6)) ∨ (¬ J 163 8 = 0 ∧ J = J')))) zN := by
  refine tz_Ok.of hl (by decide +kernel) rfl (tb_c1 rfl) (Nat.le_of_ble_eq_true rfl) ?_
  show tz_At l G M_X5_fail (tb_rm 0 0 0) none (tb_ZM G 0 0 (zQ n 0 (zqi (fun z J' => z = -1 ∧ ((J 163 8 = 0 ∧ J' = zup (zup J 163 8 k) 163 9 (J 163 6)) ∨ (¬ J 163 8 = 0 ∧ J = J'))))) (zX n 0 zN)) 0 0 n J 0 [some (.ref 163), some (zi k)] []
  refine tz_aload_n (pc := 0) dX5_fail_0 rfl rfl ?_
  refine tz_fI (pc := 1) (kz := 8) (v := (J 163 8)) dX5_fail_1 fl_X5_24 i_163_8 rfl rfl (fun r_1 => ?_)
  refine tz_if_ne (pc := 4) (tgt := 20) dX5_fail_4 (by decide) (by omega) (fun h_4 => ?_) (fun h_4 => ?_)
  · refine tz_iconst (pc := 20) dX5_fail_20 ?_
    exact tz_iret (pc := 21) (z := (-1)) dX5_fail_21 rfl (Nat.le_of_ble_eq_true rfl) (Nat.le_of_ble_eq_true rfl) ⟨Nat.le_refl _, Nat.le_add_right _ _⟩ ⟨_, rfl, (by decide), ⟨rfl, by first | exact Or.inl ⟨by omega, rfl⟩ | exact Or.inr ⟨by omega, rfl⟩⟩⟩
  · refine tz_aload_n (pc := 7) dX5_fail_7 rfl rfl ?_
    refine tz_iload_n (pc := 8) dX5_fail_8 rfl rfl ?_
    refine tz_pI (pc := 9) (kz := 8) dX5_fail_9 fl_X5_24 i_163_8 rfl rfl (by omega) ?_
    refine tz_aload_n (pc := 12) dX5_fail_12 rfl rfl ?_
    refine tz_aload_n (pc := 13) dX5_fail_13 rfl rfl ?_
    refine tz_fI (pc := 14) (kz := 6) (v := (J 163 6)) dX5_fail_14 fl_X5_18 i_163_6 rfl rfl (fun r_14 => ?_)
    refine tz_pI (pc := 17) (kz := 9) dX5_fail_17 fl_X5_27 i_163_9 rfl rfl (by omega) ?_
    refine tz_iconst (pc := 20) dX5_fail_20 ?_
    exact tz_iret (pc := 21) (z := (-1)) dX5_fail_21 rfl (Nat.le_of_ble_eq_true rfl) (Nat.le_of_ble_eq_true rfl) ⟨Nat.le_refl _, Nat.le_add_right _ _⟩ ⟨_, rfl, (by decide), ⟨rfl, by first | exact Or.inl ⟨by omega, rfl⟩ | exact Or.inr ⟨by omega, rfl⟩⟩⟩

theorem w_fail {l : Launch} {G : tb_G} (hl : l.stackTraces = false) (n : Nat) (J : zJ) (k : Int) (hr_k : -2147483648 ≤ k ∧ k < 2147483648) (g : zJ) (hk : ¬ k = 0) (hX : XC J g) : tz_Ok l G M_X5_fail 0 0 0 [.ref 163, zi k] n J (zqi (fun z J' => RN J' J ∧ (RD2 J → RD2 J') ∧ z = -1 ∧ ¬ J' 163 8 = 0 ∧ XC J' (pFx g k))) zN := by
  refine (x_failC hl n J k hr_k hk).mono (fun r J' _ ⟨z, a, b, c, d⟩ => ⟨z, a, b, ?_⟩) (fun _ _ _ h => h)
  rcases d with ⟨p, e⟩ | ⟨p, e⟩
  · subst e
    refine ⟨⟨zOf.up rfl (zOf.up rfl zOf.rf), rfl, fun _ => p⟩, id, c, hk, ?_⟩
    unfold pFx
    rcases hX.bad p with q | ⟨q, hR⟩
    · rw [if_neg (by omega)]; exact Or.inl q
    · rw [if_pos q]; exact Or.inr (hR.fail q hk)
  · subst e
    refine ⟨RN.rf, id, c, p, ?_⟩
    unfold pFx
    rw [if_neg (hX.no p)]
    exact hX
theorem XC.k {J g : zJ} (h : XC J g) (h0 : J 163 8 = 0) : g 0 4 = 99 ∨ (g 0 4 = 0 ∧ g 0 3 = J 163 5 ∧ g 0 2 = J 163 7 ∧ g 0 1 = J 163 6 ∧ g 1 = J 162 ∧ EC J g) := (h.bad h0).imp id (fun q => by
  obtain ⟨a, b⟩ := q.2.2.2 q.1
  exact ⟨q.1, a.2.1.symm, a.2.2.symm, a.1.symm, b.2.1.symm, b⟩)
theorem pP_1 {J g : zJ} {k : Int} (h : XC J g) (h0 : J 163 8 = 0) (hk : J 163 5 = k) : pP g k = pNx g := by
  unfold pP pNx
  rcases h.k h0 with q | ⟨q, e, _⟩
  · rw [if_neg (by omega), if_neg (by omega)]
  · rw [if_pos q, if_pos q, if_pos (by omega)]
theorem pP_2 {J g : zJ} {k : Int} (h : XC J g) (h0 : J 163 8 = 0) (hk : ¬ J 163 5 = k) : pP g k = pFx g 1 := by
  unfold pP pFx
  rcases h.k h0 with q | ⟨q, e, _⟩
  · rw [if_neg (by omega), if_neg (by omega)]
  · rw [if_pos q, if_pos q, if_neg (by omega)]
theorem pU_1 {J g : zJ} {a b : Int} (h : XC J g) (h0 : J 163 8 = 0) (hk : ¬ J 163 5 = 3) : (pU g a b).1 = pFx g 1 := by
  unfold pU pFx
  rcases h.k h0 with q | ⟨q, e, _⟩
  · rw [if_neg (by omega), if_neg (by omega)]
  · rw [if_pos q, if_pos q, if_neg (by omega)]
theorem zw48 {x a b : Int} (hx : -2147483648 ≤ x ∧ x < 2147483648) (ha : 0 ≤ a) (hb : b ≤ 9) : (a ≤ zw (x - 48) ∧ zw (x - 48) ≤ b ∧ zw (x - 48) = x - 48) ∨ (¬ (a ≤ zw (x - 48) ∧ zw (x - 48) ≤ b) ∧ ¬ (a ≤ x - 48 ∧ x - 48 ≤ b)) := by
  by_cases h : -2147483648 ≤ x - 48
  · rw [zw_eq (by omega)]
    omega
  · refine Or.inr ⟨?_, by omega⟩
    have e : zw (x - 48) = x - 48 + 4294967296 := by
      unfold zw
      rw [Int32.toInt_ofInt]
      show Int.bmod (x - 48) 4294967296 = _
      unfold Int.bmod
      show (if (x - 48) % 4294967296 < (4294967296 + 1) / 2 then (x - 48) % 4294967296 else (x - 48) % 4294967296 - 4294967296) = _
      split <;> omega
    omega
theorem XC.w {J g : zJ} (h : XC J g) (hS : SI g) (h0 : J 163 8 = 0) (hk : ¬ J 163 5 = 0) : g 0 4 = 99 ∨ J 163 6 < J 163 7 := by
  rcases h.k h0 with q | ⟨q, e3, e2, e1, e, _⟩
  · exact Or.inl q
  · have := hS.2.2
    omega
theorem pU_2 {J g : zJ} {a b : Int} (h : XC J g) (h0 : J 163 8 = 0) (hk : J 163 5 = 3) (hx : -2147483648 ≤ J 162 (J 163 6) ∧ J 162 (J 163 6) < 2147483648) (ha : a = 0 ∨ a = 1) (hb : 0 ≤ b ∧ b ≤ 9) (hn : ¬ (J 163 7 - J 163 6 ≤ 1 ∧ a ≤ zw (J 162 (J 163 6) - 48) ∧ zw (J 162 (J 163 6) - 48) ≤ b)) : (pU g a b).1 = pFx g 2 := by
  have w := zw48 (a := a) (b := b) hx (by omega) hb.2
  unfold pU pFx
  rcases h.k h0 with q | ⟨q, e3, e2, e1, e, _⟩
  · rw [if_neg (by omega), if_neg (by omega)]
  · rw [if_pos q, if_pos q, if_pos (by omega), e1, e2, e, if_neg (by omega)]
theorem pU_3 {J g : zJ} {a b : Int} (h : XC J g) (hS : SI g) (h0 : J 163 8 = 0) (hk : J 163 5 = 3) (hx : -2147483648 ≤ J 162 (J 163 6) ∧ J 162 (J 163 6) < 2147483648) (ha : a = 0 ∨ a = 1) (hb : 0 ≤ b ∧ b ≤ 9) (hn : J 163 7 - J 163 6 ≤ 1 ∧ a ≤ zw (J 162 (J 163 6) - 48) ∧ zw (J 162 (J 163 6) - 48) ≤ b) : (pU g a b).1 = pNx g ∧ (g 0 4 = 99 ∨ (pU g a b).2 = zw (J 162 (J 163 6) - 48)) := by
  have w := zw48 (a := a) (b := b) hx (by omega) hb.2
  have v := h.w hS h0 (by omega)
  unfold pU pNx
  rcases h.k h0 with q | ⟨q, e3, e2, e1, e, _⟩
  · rw [if_neg (by omega), if_neg (by omega)]
    exact ⟨rfl, Or.inl q⟩
  · rw [if_pos q, if_pos q, if_pos (by omega), e1, e2, e, if_pos (by omega)]
    exact ⟨rfl, Or.inr (by show J 162 (J 163 6) - 48 = _; omega)⟩
theorem pFx_n {g : zJ} {c : Int} (hc : ¬ c = 0) : ¬ pFx g c 0 4 = 0 := by
  unfold pFx
  split
  · exact hc
  · next q => exact q
theorem pNx_4 {g : zJ} : pNx g 0 4 = g 0 4 := by
  unfold pNx
  split
  · rfl
  · rfl
set_option maxHeartbeats 4000000 in
set_option maxRecDepth 100000 in
theorem w_pass {l : Launch} {G : tb_G} (hl : l.stackTraces = false) (n : Nat) (J : zJ) (k : Int) (hr_k : -2147483648 ≤ k ∧ k < 2147483648) (g : zJ) (hD : RD2 J) (hX : XC J g) (hS : SI g) : tz_Ok l G M_X5_pass 2 0 0 [.ref 163, zi k] n J (zqv (fun J' => RN J' J ∧ RD2 J' ∧ XC J' (pP g k))) zN := by
  refine tz_Ok.of hl (by decide +kernel) rfl (tb_c1 rfl) (Nat.le_of_ble_eq_true rfl) ?_
  show tz_At l G M_X5_pass (tb_rm 2 0 0) none (tb_ZM G 0 0 (zQ n 0 (zqv (fun J' => RN J' J ∧ RD2 J' ∧ XC J' (pP g k)))) (zX n 0 zN)) 0 0 n J 0 [some (.ref 163), some (zi k)] []
  refine tz_aload_n (pc := 0) dX5_pass_0 rfl rfl ?_
  refine tz_fI (pc := 1) (kz := 8) (v := (J 163 8)) dX5_pass_1 fl_X5_24 i_163_8 rfl rfl (fun r_1 => ?_)
  refine tz_if_eq (pc := 4) (tgt := 8) dX5_pass_4 (by decide) (by omega) (fun h_4 => ?_) (fun h_4 => ?_)
  · refine tz_aload_n (pc := 8) dX5_pass_8 rfl rfl ?_
    refine tz_fI (pc := 9) (kz := 5) (v := (J 163 5)) dX5_pass_9 fl_X5_15 i_163_5 rfl rfl (fun r_9 => ?_)
    refine tz_iload_n (pc := 12) dX5_pass_12 rfl rfl ?_
    refine tz_icmp_eq (pc := 13) (tgt := 23) dX5_pass_13 (by decide) (by omega) (by omega) (fun h_13 => ?_) (fun h_13 => ?_)
    · refine tz_aload_n (pc := 23) dX5_pass_23 rfl rfl ?_
      refine tz_cV (pc := 24) (w_next hl n _ g hD hX (by omega)) vl_X5_65 dX5_pass_24 o_163 rfl rfl (Nat.le_of_ble_eq_true rfl) ⟨(Nat.le_of_ble_eq_true rfl), (Nat.le_of_ble_eq_true rfl)⟩ rfl rfl (Nat.le_of_ble_eq_true rfl) (Nat.le_of_ble_eq_true rfl) (fun r9 J_24 hq9 => ?_)
      obtain ⟨rfl, g9, d9, v9, x9⟩ := hq9
      exact tz_vret (pc := 27) dX5_pass_27 rfl (Nat.le_of_ble_eq_true rfl) (Nat.le_of_ble_eq_true rfl) ⟨Nat.le_refl _, Nat.le_add_right _ _⟩ ⟨rfl, (by first | exact ⟨g9, d9 hD, by rw [pP_2 hX (by omega) (by omega)]; exact x9⟩ | exact ⟨g9, d9, by rw [pP_1 hX (by omega) (by omega)]; exact x9⟩ | exact ⟨RN.rf, hD, by rw [pP_f (hX.no (by omega))]; exact hX⟩)⟩
    · refine tz_aload_n (pc := 16) dX5_pass_16 rfl rfl ?_
      refine tz_iconst (pc := 17) dX5_pass_17 ?_
      refine tz_cV (pc := 18) (w_fail hl n _ _ (by decide) g (by decide) hX) vl_X5_97 dX5_pass_18 o_163 rfl rfl (Nat.le_of_ble_eq_true rfl) ⟨(Nat.le_of_ble_eq_true rfl), (Nat.le_of_ble_eq_true rfl)⟩ rfl rfl (Nat.le_of_ble_eq_true rfl) (Nat.le_of_ble_eq_true rfl) (fun r9 J_18 hq9 => ?_)
      obtain ⟨z_18, rfl, hz_18, g9, d9, e9, v9, x9⟩ := hq9
      refine tz_pop (pc := 21) dX5_pass_21 rfl ?_
      exact tz_vret (pc := 22) dX5_pass_22 rfl (Nat.le_of_ble_eq_true rfl) (Nat.le_of_ble_eq_true rfl) ⟨Nat.le_refl _, Nat.le_add_right _ _⟩ ⟨rfl, (by first | exact ⟨g9, d9 hD, by rw [pP_2 hX (by omega) (by omega)]; exact x9⟩ | exact ⟨g9, d9, by rw [pP_1 hX (by omega) (by omega)]; exact x9⟩ | exact ⟨RN.rf, hD, by rw [pP_f (hX.no (by omega))]; exact hX⟩)⟩
  · exact tz_vret (pc := 7) dX5_pass_7 rfl (Nat.le_of_ble_eq_true rfl) (Nat.le_of_ble_eq_true rfl) ⟨Nat.le_refl _, Nat.le_add_right _ _⟩ ⟨rfl, (by first | exact ⟨g9, d9 hD, by rw [pP_2 hX (by omega) (by omega)]; exact x9⟩ | exact ⟨g9, d9, by rw [pP_1 hX (by omega) (by omega)]; exact x9⟩ | exact ⟨RN.rf, hD, by rw [pP_f (hX.no (by omega))]; exact hX⟩)⟩

set_option maxHeartbeats 4000000 in
set_option maxRecDepth 100000 in
theorem w_readNum {l : Launch} {G : tb_G} (hl : l.stackTraces = false) (n : Nat) (J : zJ) (a : Int) (b : Int) (hr_a : -2147483648 ≤ a ∧ a < 2147483648) (hr_b : -2147483648 ≤ b ∧ b < 2147483648) (g : zJ) (hD : RD2 J) (hX : XC J g) (hS : SI g) (ha : a = 0 ∨ a = 1) (hb : 0 ≤ b ∧ b ≤ 9) : tz_Ok l G M_X5_readNumber 2 0 0 [.ref 163, zi a, zi b] n J (zqi (fun z J' => RN J' J ∧ RD2 J' ∧ (J' 163 8 = 0 → a ≤ z ∧ z ≤ b) ∧ XC J' (pU g a b).1 ∧ VQ z (pU g a b))) zN := by
  refine tz_Ok.of hl (by decide +kernel) rfl (tb_c1 rfl) (Nat.le_of_ble_eq_true rfl) ?_
  show tz_At l G M_X5_readNumber (tb_rm 2 0 0) none (tb_ZM G 0 0 (zQ n 0 (zqi (fun z J' => RN J' J ∧ RD2 J' ∧ (J' 163 8 = 0 → a ≤ z ∧ z ≤ b) ∧ XC J' (pU g a b).1 ∧ VQ z (pU g a b)))) (zX n 0 zN)) 0 0 n J 0 [some (.ref 163), some (zi a), some (zi b), none] []
  obtain ⟨⟨⟨hD1, hD2⟩, hD3, hD4⟩, hD5⟩ := id hD
  refine tz_aload_n (pc := 0) dX5_readNumber_0 rfl rfl ?_
  refine tz_fI (pc := 1) (kz := 8) (v := (J 163 8)) dX5_readNumber_1 fl_X5_24 i_163_8 rfl rfl (fun r_1 => ?_)
  refine tz_if_eq (pc := 4) (tgt := 9) dX5_readNumber_4 (by decide) (by omega) (fun h_4 => ?_) (fun h_4 => ?_)
  · refine tz_aload_n (pc := 9) dX5_readNumber_9 rfl rfl ?_
    refine tz_fI (pc := 10) (kz := 5) (v := (J 163 5)) dX5_readNumber_10 fl_X5_15 i_163_5 rfl rfl (fun r_10 => ?_)
    refine tz_iconst (pc := 13) dX5_readNumber_13 ?_
    refine tz_icmp_eq (pc := 14) (tgt := 23) dX5_readNumber_14 (by decide) (by omega) (by decide) (fun h_14 => ?_) (fun h_14 => ?_)
    · refine tz_aload_n (pc := 23) dX5_readNumber_23 rfl rfl ?_
      refine tz_fR (pc := 24) dX5_readNumber_24 fl_X5_34 r_163_0 ?_
      refine tz_aload_n (pc := 27) dX5_readNumber_27 rfl rfl ?_
      refine tz_fI (pc := 28) (kz := 6) (v := (J 163 6)) dX5_readNumber_28 fl_X5_18 i_163_6 rfl rfl (fun r_28 => ?_)
      refine tz_aL (pc := 31) (z := (J 163 6)) (v := (J 162 (J 163 6))) dX5_readNumber_31 a_162 rfl (by omega) rfl (fun r_31 => ?_)
      refine tz_bipush (pc := 32) dX5_readNumber_32 (by decide) ?_
      refine tz_isub (pc := 34) (v := (J 162 (J 163 6)) - 48) dX5_readNumber_34 rfl ?_
      refine tz_tw ?_
      have rw_35 := zw_rg ((J 162 (J 163 6)) - 48)
      refine tz_istore_n (pc := 35) (L2 := [_, _, _, _]) dX5_readNumber_35 rfl (by decide) rfl ?_
      refine tz_aload_n (pc := 36) dX5_readNumber_36 rfl rfl ?_
      refine tz_fI (pc := 37) (kz := 7) (v := (J 163 7)) dX5_readNumber_37 fl_X5_21 i_163_7 rfl rfl (fun r_37 => ?_)
      refine tz_aload_n (pc := 40) dX5_readNumber_40 rfl rfl ?_
      refine tz_fI (pc := 41) (kz := 6) (v := (J 163 6)) dX5_readNumber_41 fl_X5_18 i_163_6 rfl rfl (fun r_41 => ?_)
      refine tz_isub (pc := 44) (v := (J 163 7) - (J 163 6)) dX5_readNumber_44 rfl ?_
      refine tz_iconst (pc := 45) dX5_readNumber_45 ?_
      refine tz_icmp_gt (pc := 46) (tgt := 59) dX5_readNumber_46 (by decide) (by omega) (by decide) (fun h_46 => ?_) (fun h_46 => ?_)
      · refine tz_aload_n (pc := 59) dX5_readNumber_59 rfl rfl ?_
        refine tz_iconst (pc := 60) dX5_readNumber_60 ?_
        refine tz_cV (pc := 61) (w_fail hl n _ _ (by decide) g (by decide) hX) vl_X5_97 dX5_readNumber_61 o_163 rfl rfl (Nat.le_of_ble_eq_true rfl) ⟨(Nat.le_of_ble_eq_true rfl), (Nat.le_of_ble_eq_true rfl)⟩ rfl rfl (Nat.le_of_ble_eq_true rfl) (Nat.le_of_ble_eq_true rfl) (fun r9 J_61 hq9 => ?_)
        obtain ⟨z_61, rfl, hz_61, g9, d9, e9, v9, x9⟩ := hq9
        exact tz_iret (pc := 64) (z := z_61) dX5_readNumber_64 rfl (Nat.le_of_ble_eq_true rfl) (Nat.le_of_ble_eq_true rfl) ⟨Nat.le_refl _, Nat.le_add_right _ _⟩ ⟨_, rfl, (by omega), (by first | exact ⟨RN.rf, hD, fun q => by omega, by rw [pU_f (hX.no (by omega))]; exact hX, fun q => by rw [pU_f (hX.no (by omega))] at q; exact absurd q (hX.no (by omega))⟩ | exact ⟨g9, d9 hD, fun q => absurd q v9, by rw [pU_1 hX (by omega) (by omega)]; exact x9, fun q => by rw [pU_1 hX (by omega) (by omega)] at q; exact absurd q (pFx_n (by decide))⟩ | exact ⟨g9, d9 hD, fun q => absurd q v9, by rw [pU_2 hX (by omega) (by omega) (by omega) ha hb (by omega)]; exact x9, fun q => by rw [pU_2 hX (by omega) (by omega) (by omega) ha hb (by omega)] at q; exact absurd q (pFx_n (by decide))⟩ | exact ⟨g9, d9, fun q => by omega, by rw [(pU_3 hX hS (by omega) (by omega) (by omega) ha hb (by omega)).1]; exact x9, fun q => by have u := pU_3 hX hS (by omega) (by omega) (by omega) ha hb (by omega); rw [u.1, pNx_4] at q; rcases u.2 with p | p; omega; exact p.symm⟩)⟩
      · refine tz_iload_n (pc := 49) dX5_readNumber_49 rfl rfl ?_
        refine tz_iload_n (pc := 50) dX5_readNumber_50 rfl rfl ?_
        refine tz_icmp_lt (pc := 51) (tgt := 59) dX5_readNumber_51 (by decide) (zw_rg _) (by omega) (fun h_51 => ?_) (fun h_51 => ?_)
        · refine tz_aload_n (pc := 59) dX5_readNumber_59 rfl rfl ?_
          refine tz_iconst (pc := 60) dX5_readNumber_60 ?_
          refine tz_cV (pc := 61) (w_fail hl n _ _ (by decide) g (by decide) hX) vl_X5_97 dX5_readNumber_61 o_163 rfl rfl (Nat.le_of_ble_eq_true rfl) ⟨(Nat.le_of_ble_eq_true rfl), (Nat.le_of_ble_eq_true rfl)⟩ rfl rfl (Nat.le_of_ble_eq_true rfl) (Nat.le_of_ble_eq_true rfl) (fun r9 J_61 hq9 => ?_)
          obtain ⟨z_61, rfl, hz_61, g9, d9, e9, v9, x9⟩ := hq9
          exact tz_iret (pc := 64) (z := z_61) dX5_readNumber_64 rfl (Nat.le_of_ble_eq_true rfl) (Nat.le_of_ble_eq_true rfl) ⟨Nat.le_refl _, Nat.le_add_right _ _⟩ ⟨_, rfl, (by omega), (by first | exact ⟨RN.rf, hD, fun q => by omega, by rw [pU_f (hX.no (by omega))]; exact hX, fun q => by rw [pU_f (hX.no (by omega))] at q; exact absurd q (hX.no (by omega))⟩ | exact ⟨g9, d9 hD, fun q => absurd q v9, by rw [pU_1 hX (by omega) (by omega)]; exact x9, fun q => by rw [pU_1 hX (by omega) (by omega)] at q; exact absurd q (pFx_n (by decide))⟩ | exact ⟨g9, d9 hD, fun q => absurd q v9, by rw [pU_2 hX (by omega) (by omega) (by omega) ha hb (by omega)]; exact x9, fun q => by rw [pU_2 hX (by omega) (by omega) (by omega) ha hb (by omega)] at q; exact absurd q (pFx_n (by decide))⟩ | exact ⟨g9, d9, fun q => by omega, by rw [(pU_3 hX hS (by omega) (by omega) (by omega) ha hb (by omega)).1]; exact x9, fun q => by have u := pU_3 hX hS (by omega) (by omega) (by omega) ha hb (by omega); rw [u.1, pNx_4] at q; rcases u.2 with p | p; omega; exact p.symm⟩)⟩
        · refine tz_iload_n (pc := 54) dX5_readNumber_54 rfl rfl ?_
          refine tz_iload_n (pc := 55) dX5_readNumber_55 rfl rfl ?_
          refine tz_icmp_le (pc := 56) (tgt := 65) dX5_readNumber_56 (by decide) (zw_rg _) (by omega) (fun h_56 => ?_) (fun h_56 => ?_)
          · refine tz_aload_n (pc := 65) dX5_readNumber_65 rfl rfl ?_
            refine tz_cV (pc := 66) (w_next hl n _ g hD hX (by omega)) vl_X5_65 dX5_readNumber_66 o_163 rfl rfl (Nat.le_of_ble_eq_true rfl) ⟨(Nat.le_of_ble_eq_true rfl), (Nat.le_of_ble_eq_true rfl)⟩ rfl rfl (Nat.le_of_ble_eq_true rfl) (Nat.le_of_ble_eq_true rfl) (fun r9 J_66 hq9 => ?_)
            obtain ⟨rfl, g9, d9, v9, x9⟩ := hq9
            refine tz_iload_n (pc := 69) dX5_readNumber_69 rfl rfl ?_
            exact tz_iret (pc := 70) (z := (zw ((J 162 (J 163 6)) - 48))) dX5_readNumber_70 rfl (Nat.le_of_ble_eq_true rfl) (Nat.le_of_ble_eq_true rfl) ⟨Nat.le_refl _, Nat.le_add_right _ _⟩ ⟨_, rfl, (zw_rg _), (by first | exact ⟨RN.rf, hD, fun q => by omega, by rw [pU_f (hX.no (by omega))]; exact hX, fun q => by rw [pU_f (hX.no (by omega))] at q; exact absurd q (hX.no (by omega))⟩ | exact ⟨g9, d9 hD, fun q => absurd q v9, by rw [pU_1 hX (by omega) (by omega)]; exact x9, fun q => by rw [pU_1 hX (by omega) (by omega)] at q; exact absurd q (pFx_n (by decide))⟩ | exact ⟨g9, d9 hD, fun q => absurd q v9, by rw [pU_2 hX (by omega) (by omega) (by omega) ha hb (by omega)]; exact x9, fun q => by rw [pU_2 hX (by omega) (by omega) (by omega) ha hb (by omega)] at q; exact absurd q (pFx_n (by decide))⟩ | exact ⟨g9, d9, fun q => by omega, by rw [(pU_3 hX hS (by omega) (by omega) (by omega) ha hb (by omega)).1]; exact x9, fun q => by have u := pU_3 hX hS (by omega) (by omega) (by omega) ha hb (by omega); rw [u.1, pNx_4] at q; rcases u.2 with p | p; omega; exact p.symm⟩)⟩
          · refine tz_aload_n (pc := 59) dX5_readNumber_59 rfl rfl ?_
            refine tz_iconst (pc := 60) dX5_readNumber_60 ?_
            refine tz_cV (pc := 61) (w_fail hl n _ _ (by decide) g (by decide) hX) vl_X5_97 dX5_readNumber_61 o_163 rfl rfl (Nat.le_of_ble_eq_true rfl) ⟨(Nat.le_of_ble_eq_true rfl), (Nat.le_of_ble_eq_true rfl)⟩ rfl rfl (Nat.le_of_ble_eq_true rfl) (Nat.le_of_ble_eq_true rfl) (fun r9 J_61 hq9 => ?_)
            obtain ⟨z_61, rfl, hz_61, g9, d9, e9, v9, x9⟩ := hq9
            exact tz_iret (pc := 64) (z := z_61) dX5_readNumber_64 rfl (Nat.le_of_ble_eq_true rfl) (Nat.le_of_ble_eq_true rfl) ⟨Nat.le_refl _, Nat.le_add_right _ _⟩ ⟨_, rfl, (by omega), (by first | exact ⟨RN.rf, hD, fun q => by omega, by rw [pU_f (hX.no (by omega))]; exact hX, fun q => by rw [pU_f (hX.no (by omega))] at q; exact absurd q (hX.no (by omega))⟩ | exact ⟨g9, d9 hD, fun q => absurd q v9, by rw [pU_1 hX (by omega) (by omega)]; exact x9, fun q => by rw [pU_1 hX (by omega) (by omega)] at q; exact absurd q (pFx_n (by decide))⟩ | exact ⟨g9, d9 hD, fun q => absurd q v9, by rw [pU_2 hX (by omega) (by omega) (by omega) ha hb (by omega)]; exact x9, fun q => by rw [pU_2 hX (by omega) (by omega) (by omega) ha hb (by omega)] at q; exact absurd q (pFx_n (by decide))⟩ | exact ⟨g9, d9, fun q => by omega, by rw [(pU_3 hX hS (by omega) (by omega) (by omega) ha hb (by omega)).1]; exact x9, fun q => by have u := pU_3 hX hS (by omega) (by omega) (by omega) ha hb (by omega); rw [u.1, pNx_4] at q; rcases u.2 with p | p; omega; exact p.symm⟩)⟩
    · refine tz_aload_n (pc := 17) dX5_readNumber_17 rfl rfl ?_
      refine tz_iconst (pc := 18) dX5_readNumber_18 ?_
      refine tz_cV (pc := 19) (w_fail hl n _ _ (by decide) g (by decide) hX) vl_X5_97 dX5_readNumber_19 o_163 rfl rfl (Nat.le_of_ble_eq_true rfl) ⟨(Nat.le_of_ble_eq_true rfl), (Nat.le_of_ble_eq_true rfl)⟩ rfl rfl (Nat.le_of_ble_eq_true rfl) (Nat.le_of_ble_eq_true rfl) (fun r9 J_19 hq9 => ?_)
      obtain ⟨z_19, rfl, hz_19, g9, d9, e9, v9, x9⟩ := hq9
      exact tz_iret (pc := 22) (z := z_19) dX5_readNumber_22 rfl (Nat.le_of_ble_eq_true rfl) (Nat.le_of_ble_eq_true rfl) ⟨Nat.le_refl _, Nat.le_add_right _ _⟩ ⟨_, rfl, (by omega), (by first | exact ⟨RN.rf, hD, fun q => by omega, by rw [pU_f (hX.no (by omega))]; exact hX, fun q => by rw [pU_f (hX.no (by omega))] at q; exact absurd q (hX.no (by omega))⟩ | exact ⟨g9, d9 hD, fun q => absurd q v9, by rw [pU_1 hX (by omega) (by omega)]; exact x9, fun q => by rw [pU_1 hX (by omega) (by omega)] at q; exact absurd q (pFx_n (by decide))⟩ | exact ⟨g9, d9 hD, fun q => absurd q v9, by rw [pU_2 hX (by omega) (by omega) (by omega) ha hb (by omega)]; exact x9, fun q => by rw [pU_2 hX (by omega) (by omega) (by omega) ha hb (by omega)] at q; exact absurd q (pFx_n (by decide))⟩ | exact ⟨g9, d9, fun q => by omega, by rw [(pU_3 hX hS (by omega) (by omega) (by omega) ha hb (by omega)).1]; exact x9, fun q => by have u := pU_3 hX hS (by omega) (by omega) (by omega) ha hb (by omega); rw [u.1, pNx_4] at q; rcases u.2 with p | p; omega; exact p.symm⟩)⟩
  · refine tz_iconst (pc := 7) dX5_readNumber_7 ?_
    exact tz_iret (pc := 8) (z := (-1)) dX5_readNumber_8 rfl (Nat.le_of_ble_eq_true rfl) (Nat.le_of_ble_eq_true rfl) ⟨Nat.le_refl _, Nat.le_add_right _ _⟩ ⟨_, rfl, (by decide), (by first | exact ⟨RN.rf, hD, fun q => by omega, by rw [pU_f (hX.no (by omega))]; exact hX, fun q => by rw [pU_f (hX.no (by omega))] at q; exact absurd q (hX.no (by omega))⟩ | exact ⟨g9, d9 hD, fun q => absurd q v9, by rw [pU_1 hX (by omega) (by omega)]; exact x9, fun q => by rw [pU_1 hX (by omega) (by omega)] at q; exact absurd q (pFx_n (by decide))⟩ | exact ⟨g9, d9 hD, fun q => absurd q v9, by rw [pU_2 hX (by omega) (by omega) (by omega) ha hb (by omega)]; exact x9, fun q => by rw [pU_2 hX (by omega) (by omega) (by omega) ha hb (by omega)] at q; exact absurd q (pFx_n (by decide))⟩ | exact ⟨g9, d9, fun q => by omega, by rw [(pU_3 hX hS (by omega) (by omega) (by omega) ha hb (by omega)).1]; exact x9, fun q => by have u := pU_3 hX hS (by omega) (by omega) (by omega) ha hb (by omega); rw [u.1, pNx_4] at q; rcases u.2 with p | p; omega; exact p.symm⟩)⟩

