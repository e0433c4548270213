/-! ===== the law: what its wrappers do ===== -/
theorem CI.lo {J' J : zJ} {m : Int} (h : CI J m) (e : ∀ c, c < 164 → J' c = J c) : CI J' m := ⟨⟨⟨h.1.1.1.of (fun c hc => e c (by omega)), by rw [e 6 (by decide)]; exact h.1.1.2.1, by rw [e 19 (by decide)]; exact h.1.1.2.2⟩, h.1.2.1.of (e 145 (by decide)) (e 146 (by decide)), h.1.2.2.of (fun c hc => e c (by omega))⟩, h.2.of (Int.le_refl _) (congrFun (e 5 (by decide)) 5) (congrFun (e 5 (by decide)) 6) (fun i a b => e _ (by unfold zU; omega))⟩
theorem MI.mid {J' J : zJ} {m : Int} (h : MI J m) (e : ∀ c, 164 ≤ c → c < 183 → J' c = J c) : MI J' m := by
  unfold MI MS MTT IM MK MTT
  rw [e 164 (by decide) (by decide), e 165 (by decide) (by decide), e 166 (by decide) (by decide), e 167 (by decide) (by decide), e 168 (by decide) (by decide), e 170 (by decide) (by decide)]
  exact h
theorem CAL.lo {J' J S : zJ} {n m : Int} {R : Int → Int → Int} (c : CAL J S n R) (hI : CI J m) (e : ∀ c, c < 164 → J' c = J c) : CAL J' S n R := c.fr hI (fun q _ _ => e q (by omega))
theorem MUr.mid {J' J : zJ} {n : Int} {R : Int → Int → Int} (u : MUr J n R) (e : ∀ c, 164 ≤ c → c < 183 → J' c = J c) : MUr J' n R := by
  unfold MUr
  rw [e 164 (by decide) (by decide), e 165 (by decide) (by decide)]
  exact u
/-- what a call of the class leaves -/
def CW (J' J : zJ) : Prop := (∃ m, CI J' m) ∧ J' 145 10 ≤ J 145 10 + 24000 ∧ (J' 0 13 = J 0 13 ∧ J' 0 15 = J 0 15 ∧ J' 0 14 = J 0 14) ∧ ∀ c, (63 ≤ c ∧ c ≤ 120) ∨ c = 162 ∨ (164 ≤ c ∧ c < 183) → J' c = J c
theorem CW.rf {J : zJ} {m : Int} (h : CI J m) : CW J J := ⟨⟨m, h⟩, by omega, ⟨rfl, rfl, rfl⟩, fun _ _ => rfl⟩
theorem CW.c {J' J : zJ} (h : CQ J' J) : CW J' J := ⟨h.1, h.2.1, ⟨by rw [h.2.2.1], by rw [h.2.2.1], by rw [h.2.2.1]⟩, fun c a => h.2.2.2 c (decide_eq_true (by omega))⟩
theorem CW.o {J1 J : zJ} {z : Int} (h : CW J1 J) : CW (zup J1 183 0 z) J := ⟨h.1.elim (fun m q => ⟨m, q.lo (fun c hc => zup_nc (by omega))⟩), h.2.1, h.2.2.1, fun c a => (zup_nc (by omega)).trans (h.2.2.2 c a)⟩
theorem CAL.o {J1 J S : zJ} {z n : Int} {R : Int → Int → Int} (h : CQ J1 J) (c : CAL J1 S n R) : CAL (zup J1 183 0 z) S n R := h.1.elim (fun m q => c.lo q (fun c hc => zup_nc (by omega)))
/-- the same of bank -/
def CB3 (a k n : Int) (R : Int → Int → Int) (J' J : zJ) : Prop := (∃ m, CI J' m) ∧ J' 145 10 ≤ J 145 10 + 24000 ∧ (∀ c, c = 162 ∨ (164 ≤ c ∧ c < 183) → J' c = J c) ∧ ((k = 0 ∧ (0 ≤ a ∧ a ≤ J 0 13) ∧ J' 0 13 = 0 ∧ J' 183 0 = (pAl 703 (pN (pG J a))) 0 4 ∧ (¬ (pAl 703 (pN (pG J a))) 0 4 = 0 → (J' 0 14 = (pAl 703 (pN (pG J a))) 0 5 ∧ J' 0 15 = J 0 15) ∧ CAL J' (tbz J) n R ∧ ∀ c, 63 ≤ c → c ≤ 120 → J' c = J c) ∧ ((pAl 703 (pN (pG J a))) 0 4 = 0 → (J' 0 14 = -1 ∧ J' 0 15 = 0) ∧ ET J' (pAl 703 (pN (pG J a))) ∧ J' 5 6 = 0)) ∨ (k = 1 ∧ ¬ (0 ≤ a ∧ a ≤ J 0 13) ∧ (J' 0 13 = J 0 13 ∧ J' 0 15 = J 0 15 ∧ J' 0 14 = J 0 14) ∧ CAL J' (tbz J) n R ∧ ∀ c, 63 ≤ c → c ≤ 120 → J' c = J c))
set_option maxHeartbeats 4000000 in
set_option maxRecDepth 100000 in
theorem x_thrown {l : Launch} {G : tb_G} (hl : l.stackTraces = false) (n : Nat) (J : zJ)     : tz_Ok l G M_X12_thrown 0 0 0 [.ref 164] n J (zqi (fun z J' => J = J' ∧ J 164 8 = z)) zN := by
  refine tz_Ok.of hl (by decide +kernel) rfl (tb_c1 rfl) (Nat.le_of_ble_eq_true rfl) ?_
  show tz_At l G M_X12_thrown (tb_rm 0 0 0) none (tb_ZM G 0 0 (zQ n 0 (zqi (fun z J' => J = J' ∧ J 164 8 = z))) (zX n 0 zN)) 0 0 n J 0 [some (.ref 164)] []
  refine tz_aload_n (pc := 0) dX12_thrown_0 rfl rfl ?_
  refine tz_fI (pc := 1) (kz := 8) (v := (J 164 8)) dX12_thrown_1 fl_X12_68 i_164_8 rfl rfl (fun r_1 => ?_)
  exact tz_iret (pc := 4) (z := (J 164 8)) dX12_thrown_4 rfl (Nat.le_of_ble_eq_true rfl) (Nat.le_of_ble_eq_true rfl) ⟨Nat.le_refl _, Nat.le_add_right _ _⟩ ⟨_, rfl, (by omega), ⟨rfl, rfl⟩⟩

set_option maxHeartbeats 4000000 in
set_option maxRecDepth 100000 in
theorem lw_bank {l : Launch} {G : tb_G} (hl : l.stackTraces = false) (n : Nat) (J : zJ) (a : Int) (hr_a : -2147483648 ≤ a ∧ a < 2147483648) (m : Int) (pn : Int) (RR : Int → Int → Int) (hnb : n ≤ tb_sc) (hI : CI J m) (h9 : J 145 10 < 1000000000) (cc : CAL J (tbz J) pn RR) (hT : J 162 = J 173) : tz_Okw l G M_L_bank 38 1 6 [.ref 0, zi a, .ref 183] n J (zqi (fun z J' => CB3 a z pn RR J' J)) zN := by
  refine tz_Okw.of hl (by decide +kernel) (tb_c1 rfl) (Nat.le_of_ble_eq_true rfl) ?_
  show tz_At l G M_L_bank (tb_rm 38 1 6) none (tb_ZM G 1 6 (zQ n 1 (zqi (fun z J' => CB3 a z pn RR J' J))) (zX n 1 zN)) 0 0 n J 0 [some (.ref 0), some (zi a), some (.ref 183), none] []
  refine tz_aload_n (pc := 0) dL_bank_0 rfl rfl ?_
  refine tz_iconst (pc := 1) dL_bank_1 ?_
  refine tz_aload_n (pc := 2) dL_bank_2 rfl rfl ?_
  refine tz_iload_n (pc := 3) dL_bank_3 rfl rfl ?_
  refine tz_cVX (pc := 4) (v_bankC hl _ _ _ hr_a m (tbz J) pn RR hnb hI h9 cc rfl hT) vl_L_7 dL_bank_4 o_0 rfl rfl (Nat.le_of_ble_eq_true rfl) ⟨(Nat.le_of_ble_eq_true rfl), (Nat.le_of_ble_eq_true rfl)⟩ rfl rfl (Nat.le_of_ble_eq_true rfl) (Nat.le_of_ble_eq_true rfl) (fun r9 n_4 J_4 hn1_4 hn2_4 hq9 => ?_) (fun E9 n_4 J_4 hn1_4 hn2_4 hx9 => ?_)
  · obtain ⟨z_4, rfl, hz_4, ⟨hc1, hc2, hc3, hc4, hc5⟩, hc6, hc7⟩ := hq9
    refine tz_i2l (pc := 7) dL_bank_7 ?_
    refine tz_last (pc := 8) (z := 0) dL_bank_8 l_183 rfl (by decide) (by omega) ?_
    refine tz_goto (pc := 9) (tgt := 15) dL_bank_9 (by decide) ?_
    refine tz_iconst (pc := 15) dL_bank_15 ?_
    exact tz_iret (pc := 16) (z := 0) dL_bank_16 rfl (Nat.le_of_ble_eq_true rfl) (Nat.le_of_ble_eq_true rfl) ⟨by omega, by omega⟩ ⟨_, rfl, (by decide), ⟨hc1.elim (fun m q => ⟨m, q.lo (fun c hc => zup_nc (by omega))⟩), hc2, fun c x => (zup_nc (by omega)).trans (hc4 c (decide_eq_true (by omega))), Or.inl ⟨rfl, hc3.2, hc3.1, zup_at.trans hc5.1, fun q => ⟨hc5.2.1 q, hc1.elim (fun m w => (hc6 q).1.lo w (fun c hc => zup_nc (by omega))), fun c x y => (zup_nc (by omega)).trans ((hc6 q).2 c (decide_eq_true (by omega)))⟩, fun q => ⟨hc5.2.2 q, (hc7 q).1.f (fun c x y _ => zup_nc (by omega)), (hc7 q).2⟩⟩⟩⟩
  · obtain ⟨rfl, rfl, hc9⟩ := hx9
    refine tz_catch [] _ [] rfl (fun _ h => nomatch h) (by decide) (by decide) cw_L_13 (by decide) dL_bank_12 rfl (by decide) ?_
    show tz_At l G M_L_bank (tb_rm 38 1 6) none (tb_ZM G 1 6 (zQ n 1 (zqi (fun z J' => CB3 a z pn RR J' J))) (zX n 1 zN)) _ _ _ _ 13 [some (.ref 0), some (zi a), some (.ref 183), none] []
    refine tz_iconst (pc := 13) dL_bank_13 ?_
    exact tz_iret (pc := 14) (z := 1) dL_bank_14 rfl (Nat.le_of_ble_eq_true rfl) (Nat.le_of_ble_eq_true rfl) ⟨by omega, by omega⟩ ⟨_, rfl, (by decide), ⟨⟨m, hI⟩, by omega, fun _ _ => rfl, Or.inr ⟨rfl, hc9, ⟨rfl, rfl, rfl⟩, cc, fun _ _ _ => rfl⟩⟩⟩

set_option maxHeartbeats 4000000 in
set_option maxRecDepth 100000 in
theorem lw_count {l : Launch} {G : tb_G} (hl : l.stackTraces = false) (n : Nat) (J : zJ) (a : Int) (hr_a : -2147483648 ≤ a ∧ a < 2147483648) (m : Int) (pn : Int) (RR : Int → Int → Int) (hI : CI J m) (h9 : J 145 10 < 1000000000) (cc : CAL J (tbz J) pn RR) : tz_Okw l G M_L_count 8 1 6 [.ref 0, zi a, .ref 183] n J (zqi (fun z J' => CW J' J ∧ CAL J' (tbz J) pn RR)) zN := by
  refine tz_Okw.of hl (by decide +kernel) (tb_c1 rfl) (Nat.le_of_ble_eq_true rfl) ?_
  show tz_At l G M_L_count (tb_rm 8 1 6) none (tb_ZM G 1 6 (zQ n 1 (zqi (fun z J' => CW J' J ∧ CAL J' (tbz J) pn RR))) (zX n 1 zN)) 0 0 n J 0 [some (.ref 0), some (zi a), some (.ref 183), none] []
  refine tz_aload_n (pc := 0) dL_count_0 rfl rfl ?_
  refine tz_iconst (pc := 1) dL_count_1 ?_
  refine tz_aload_n (pc := 2) dL_count_2 rfl rfl ?_
  refine tz_iload_n (pc := 3) dL_count_3 rfl rfl ?_
  refine tz_cVX (pc := 4) (l_count hl _ _ _ hr_a m (tbz J) pn RR hI h9 cc rfl) vl_L_15 dL_count_4 o_0 rfl rfl (Nat.le_of_ble_eq_true rfl) ⟨(Nat.le_of_ble_eq_true rfl), (Nat.le_of_ble_eq_true rfl)⟩ rfl rfl (Nat.le_of_ble_eq_true rfl) (Nat.le_of_ble_eq_true rfl) (fun r9 n_4 J_4 hn1_4 hn2_4 hq9 => ?_) (fun E9 n_4 J_4 hn1_4 hn2_4 hx9 => ?_)
  · obtain ⟨z_4, rfl, hz_4, hcq, hcc⟩ := hq9
    refine tz_i2l (pc := 7) dL_count_7 ?_
    refine tz_last (pc := 8) (z := 0) dL_count_8 l_183 rfl (by decide) (by omega) ?_
    refine tz_goto (pc := 9) (tgt := 15) dL_count_9 (by decide) ?_
    refine tz_iconst (pc := 15) dL_count_15 ?_
    exact tz_iret (pc := 16) (z := 0) dL_count_16 rfl (Nat.le_of_ble_eq_true rfl) (Nat.le_of_ble_eq_true rfl) ⟨by omega, by omega⟩ ⟨_, rfl, (by decide), ⟨CW.o (CW.c hcq), CAL.o hcq hcc⟩⟩
  · obtain ⟨rfl, rfl⟩ := hx9
    refine tz_catch [] _ [] rfl (fun _ h => nomatch h) (by decide) (by decide) cw_L_18 (by decide) dL_count_12 rfl (by decide) ?_
    show tz_At l G M_L_count (tb_rm 8 1 6) none (tb_ZM G 1 6 (zQ n 1 (zqi (fun z J' => CW J' J ∧ CAL J' (tbz J) pn RR))) (zX n 1 zN)) _ _ _ _ 13 [some (.ref 0), some (zi a), some (.ref 183), none] []
    refine tz_iconst (pc := 13) dL_count_13 ?_
    exact tz_iret (pc := 14) (z := 1) dL_count_14 rfl (Nat.le_of_ble_eq_true rfl) (Nat.le_of_ble_eq_true rfl) ⟨by omega, by omega⟩ ⟨_, rfl, (by decide), ⟨CW.rf hI, cc⟩⟩

set_option maxHeartbeats 4000000 in
set_option maxRecDepth 100000 in
theorem lw_symbol {l : Launch} {G : tb_G} (hl : l.stackTraces = false) (n : Nat) (J : zJ) (a : Int) (b : Int) (hr_a : -2147483648 ≤ a ∧ a < 2147483648) (hr_b : -2147483648 ≤ b ∧ b < 2147483648) (m : Int) (pn : Int) (RR : Int → Int → Int) (hI : CI J m) (h9 : J 145 10 < 1000000000) (cc : CAL J (tbz J) pn RR) : tz_Okw l G M_L_symbol 13 1 6 [.ref 0, zi a, zi b, .ref 183] n J (zqi (fun z J' => CW J' J ∧ CAL J' (tbz J) pn RR)) zN := by
  refine tz_Okw.of hl (by decide +kernel) (tb_c1 rfl) (Nat.le_of_ble_eq_true rfl) ?_
  show tz_At l G M_L_symbol (tb_rm 13 1 6) none (tb_ZM G 1 6 (zQ n 1 (zqi (fun z J' => CW J' J ∧ CAL J' (tbz J) pn RR))) (zX n 1 zN)) 0 0 n J 0 [some (.ref 0), some (zi a), some (zi b), some (.ref 183), none] []
  refine tz_aload_n (pc := 0) dL_symbol_0 rfl rfl ?_
  refine tz_iconst (pc := 1) dL_symbol_1 ?_
  refine tz_aload_n (pc := 2) dL_symbol_2 rfl rfl ?_
  refine tz_iload_n (pc := 3) dL_symbol_3 rfl rfl ?_
  refine tz_iload_n (pc := 4) dL_symbol_4 rfl rfl ?_
  refine tz_cVX (pc := 5) (l_symbol hl _ _ _ _ hr_a hr_b m (tbz J) pn RR hI h9 cc rfl) vl_L_20 dL_symbol_5 o_0 rfl rfl (Nat.le_of_ble_eq_true rfl) ⟨(Nat.le_of_ble_eq_true rfl), (Nat.le_of_ble_eq_true rfl)⟩ rfl rfl (Nat.le_of_ble_eq_true rfl) (Nat.le_of_ble_eq_true rfl) (fun r9 n_5 J_5 hn1_5 hn2_5 hq9 => ?_) (fun E9 n_5 J_5 hn1_5 hn2_5 hx9 => ?_)
  · obtain ⟨z_5, rfl, hz_5, hcq, hcc⟩ := hq9
    refine tz_i2l (pc := 8) dL_symbol_8 ?_
    refine tz_last (pc := 9) (z := 0) dL_symbol_9 l_183 rfl (by decide) (by omega) ?_
    refine tz_goto (pc := 10) (tgt := 17) dL_symbol_10 (by decide) ?_
    refine tz_iconst (pc := 17) dL_symbol_17 ?_
    exact tz_iret (pc := 18) (z := 0) dL_symbol_18 rfl (Nat.le_of_ble_eq_true rfl) (Nat.le_of_ble_eq_true rfl) ⟨by omega, by omega⟩ ⟨_, rfl, (by decide), ⟨CW.o (CW.c hcq), CAL.o hcq hcc⟩⟩
  · obtain ⟨rfl, rfl⟩ := hx9
    refine tz_catchA [] _ [] rfl (fun _ h => nomatch h) (by decide) (by decide) cw_L_18 (by decide) dL_symbol_13 (by decide) ?_
    show tz_At l G M_L_symbol (tb_rm 13 1 6) none (tb_ZM G 1 6 (zQ n 1 (zqi (fun z J' => CW J' J ∧ CAL J' (tbz J) pn RR))) (zX n 1 zN)) _ _ _ _ 15 [some (.ref 0), some (zi a), some (zi b), some (.ref 183), none] []
    refine tz_iconst (pc := 15) dL_symbol_15 ?_
    exact tz_iret (pc := 16) (z := 1) dL_symbol_16 rfl (Nat.le_of_ble_eq_true rfl) (Nat.le_of_ble_eq_true rfl) ⟨by omega, by omega⟩ ⟨_, rfl, (by decide), ⟨CW.rf hI, cc⟩⟩

set_option maxHeartbeats 4000000 in
set_option maxRecDepth 100000 in
theorem lw_term {l : Launch} {G : tb_G} (hl : l.stackTraces = false) (n : Nat) (J : zJ) (a : Int) (b : Int) (hr_a : -2147483648 ≤ a ∧ a < 2147483648) (hr_b : -2147483648 ≤ b ∧ b < 2147483648) (m : Int) (pn : Int) (RR : Int → Int → Int) (hI : CI J m) (h9 : J 145 10 < 1000000000) (cc : CAL J (tbz J) pn RR) : tz_Okw l G M_L_term 11 1 6 [.ref 0, zi a, zi b, .ref 183] n J (zqi (fun z J' => CW J' J ∧ CAL J' (tbz J) pn RR)) zN := by
  refine tz_Okw.of hl (by decide +kernel) (tb_c1 rfl) (Nat.le_of_ble_eq_true rfl) ?_
  show tz_At l G M_L_term (tb_rm 11 1 6) none (tb_ZM G 1 6 (zQ n 1 (zqi (fun z J' => CW J' J ∧ CAL J' (tbz J) pn RR))) (zX n 1 zN)) 0 0 n J 0 [some (.ref 0), some (zi a), some (zi b), some (.ref 183), none] []
  refine tz_aload_n (pc := 0) dL_term_0 rfl rfl ?_
  refine tz_iconst (pc := 1) dL_term_1 ?_
  refine tz_aload_n (pc := 2) dL_term_2 rfl rfl ?_
  refine tz_iload_n (pc := 3) dL_term_3 rfl rfl ?_
  refine tz_iload_n (pc := 4) dL_term_4 rfl rfl ?_
  refine tz_cVX (pc := 5) (l_term hl _ _ _ _ hr_a hr_b m (tbz J) pn RR hI h9 cc rfl) vl_L_24 dL_term_5 o_0 rfl rfl (Nat.le_of_ble_eq_true rfl) ⟨(Nat.le_of_ble_eq_true rfl), (Nat.le_of_ble_eq_true rfl)⟩ rfl rfl (Nat.le_of_ble_eq_true rfl) (Nat.le_of_ble_eq_true rfl) (fun r9 n_5 J_5 hn1_5 hn2_5 hq9 => ?_) (fun E9 n_5 J_5 hn1_5 hn2_5 hx9 => ?_)
  · obtain ⟨z_5, rfl, hz_5, hcq, hcc⟩ := hq9
    refine tz_i2l (pc := 8) dL_term_8 ?_
    refine tz_last (pc := 9) (z := 0) dL_term_9 l_183 rfl (by decide) (by omega) ?_
    refine tz_goto (pc := 10) (tgt := 17) dL_term_10 (by decide) ?_
    refine tz_iconst (pc := 17) dL_term_17 ?_
    exact tz_iret (pc := 18) (z := 0) dL_term_18 rfl (Nat.le_of_ble_eq_true rfl) (Nat.le_of_ble_eq_true rfl) ⟨by omega, by omega⟩ ⟨_, rfl, (by decide), ⟨CW.o (CW.c hcq), CAL.o hcq hcc⟩⟩
  · obtain ⟨rfl, rfl⟩ := hx9
    refine tz_catchA [] _ [] rfl (fun _ h => nomatch h) (by decide) (by decide) cw_L_18 (by decide) dL_term_13 (by decide) ?_
    show tz_At l G M_L_term (tb_rm 11 1 6) none (tb_ZM G 1 6 (zQ n 1 (zqi (fun z J' => CW J' J ∧ CAL J' (tbz J) pn RR))) (zX n 1 zN)) _ _ _ _ 15 [some (.ref 0), some (zi a), some (zi b), some (.ref 183), none] []
    refine tz_iconst (pc := 15) dL_term_15 ?_
    exact tz_iret (pc := 16) (z := 1) dL_term_16 rfl (Nat.le_of_ble_eq_true rfl) (Nat.le_of_ble_eq_true rfl) ⟨by omega, by omega⟩ ⟨_, rfl, (by decide), ⟨CW.rf hI, cc⟩⟩

set_option maxHeartbeats 4000000 in
set_option maxRecDepth 100000 in
theorem lw_argument {l : Launch} {G : tb_G} (hl : l.stackTraces = false) (n : Nat) (J : zJ) (a : Int) (b : Int) (hr_a : -2147483648 ≤ a ∧ a < 2147483648) (hr_b : -2147483648 ≤ b ∧ b < 2147483648) (m : Int) (pn : Int) (RR : Int → Int → Int) (hI : CI J m) (h9 : J 145 10 < 1000000000) (cc : CAL J (tbz J) pn RR) : tz_Okw l G M_L_argument 8 1 6 [.ref 0, zi a, zi b, .ref 183] n J (zqi (fun z J' => CW J' J ∧ CAL J' (tbz J) pn RR)) zN := by
  refine tz_Okw.of hl (by decide +kernel) (tb_c1 rfl) (Nat.le_of_ble_eq_true rfl) ?_
  show tz_At l G M_L_argument (tb_rm 8 1 6) none (tb_ZM G 1 6 (zQ n 1 (zqi (fun z J' => CW J' J ∧ CAL J' (tbz J) pn RR))) (zX n 1 zN)) 0 0 n J 0 [some (.ref 0), some (zi a), some (zi b), some (.ref 183), none] []
  refine tz_aload_n (pc := 0) dL_argument_0 rfl rfl ?_
  refine tz_iconst (pc := 1) dL_argument_1 ?_
  refine tz_aload_n (pc := 2) dL_argument_2 rfl rfl ?_
  refine tz_iload_n (pc := 3) dL_argument_3 rfl rfl ?_
  refine tz_iload_n (pc := 4) dL_argument_4 rfl rfl ?_
  refine tz_cVX (pc := 5) (l_argument hl _ _ _ _ hr_a hr_b m (tbz J) pn RR hI h9 cc rfl) vl_L_27 dL_argument_5 o_0 rfl rfl (Nat.le_of_ble_eq_true rfl) ⟨(Nat.le_of_ble_eq_true rfl), (Nat.le_of_ble_eq_true rfl)⟩ rfl rfl (Nat.le_of_ble_eq_true rfl) (Nat.le_of_ble_eq_true rfl) (fun r9 n_5 J_5 hn1_5 hn2_5 hq9 => ?_) (fun E9 n_5 J_5 hn1_5 hn2_5 hx9 => ?_)
  · obtain ⟨z_5, rfl, hz_5, hcq, hcc⟩ := hq9
    refine tz_i2l (pc := 8) dL_argument_8 ?_
    refine tz_last (pc := 9) (z := 0) dL_argument_9 l_183 rfl (by decide) (by omega) ?_
    refine tz_goto (pc := 10) (tgt := 17) dL_argument_10 (by decide) ?_
    refine tz_iconst (pc := 17) dL_argument_17 ?_
    exact tz_iret (pc := 18) (z := 0) dL_argument_18 rfl (Nat.le_of_ble_eq_true rfl) (Nat.le_of_ble_eq_true rfl) ⟨by omega, by omega⟩ ⟨_, rfl, (by decide), ⟨CW.o (CW.c hcq), CAL.o hcq hcc⟩⟩
  · obtain ⟨rfl, rfl⟩ := hx9
    refine tz_catchA [] _ [] rfl (fun _ h => nomatch h) (by decide) (by decide) cw_L_18 (by decide) dL_argument_13 (by decide) ?_
    show tz_At l G M_L_argument (tb_rm 8 1 6) none (tb_ZM G 1 6 (zQ n 1 (zqi (fun z J' => CW J' J ∧ CAL J' (tbz J) pn RR))) (zX n 1 zN)) _ _ _ _ 15 [some (.ref 0), some (zi a), some (zi b), some (.ref 183), none] []
    refine tz_iconst (pc := 15) dL_argument_15 ?_
    exact tz_iret (pc := 16) (z := 1) dL_argument_16 rfl (Nat.le_of_ble_eq_true rfl) (Nat.le_of_ble_eq_true rfl) ⟨by omega, by omega⟩ ⟨_, rfl, (by decide), ⟨CW.rf hI, cc⟩⟩

set_option maxHeartbeats 4000000 in
set_option maxRecDepth 100000 in
theorem lw_place {l : Launch} {G : tb_G} (hl : l.stackTraces = false) (n : Nat) (J : zJ) (a : Int) (b : Int) (hr_a : -2147483648 ≤ a ∧ a < 2147483648) (hr_b : -2147483648 ≤ b ∧ b < 2147483648) (m : Int) (pn : Int) (RR : Int → Int → Int) (hI : CI J m) (h9 : J 145 10 < 1000000000) (cc : CAL J (tbz J) pn RR) : tz_Okw l G M_L_place 8 1 6 [.ref 0, zi a, zi b, .ref 183] n J (zqi (fun z J' => CW J' J ∧ CAL J' (tbz J) pn RR)) zN := by
  refine tz_Okw.of hl (by decide +kernel) (tb_c1 rfl) (Nat.le_of_ble_eq_true rfl) ?_
  show tz_At l G M_L_place (tb_rm 8 1 6) none (tb_ZM G 1 6 (zQ n 1 (zqi (fun z J' => CW J' J ∧ CAL J' (tbz J) pn RR))) (zX n 1 zN)) 0 0 n J 0 [some (.ref 0), some (zi a), some (zi b), some (.ref 183), none] []
  refine tz_aload_n (pc := 0) dL_place_0 rfl rfl ?_
  refine tz_iconst (pc := 1) dL_place_1 ?_
  refine tz_aload_n (pc := 2) dL_place_2 rfl rfl ?_
  refine tz_iload_n (pc := 3) dL_place_3 rfl rfl ?_
  refine tz_iload_n (pc := 4) dL_place_4 rfl rfl ?_
  refine tz_cVX (pc := 5) (l_place hl _ _ _ _ hr_a hr_b m (tbz J) pn RR hI h9 cc rfl) vl_L_30 dL_place_5 o_0 rfl rfl (Nat.le_of_ble_eq_true rfl) ⟨(Nat.le_of_ble_eq_true rfl), (Nat.le_of_ble_eq_true rfl)⟩ rfl rfl (Nat.le_of_ble_eq_true rfl) (Nat.le_of_ble_eq_true rfl) (fun r9 n_5 J_5 hn1_5 hn2_5 hq9 => ?_) (fun E9 n_5 J_5 hn1_5 hn2_5 hx9 => ?_)
  · obtain ⟨z_5, rfl, hz_5, hcq, hcc⟩ := hq9
    refine tz_i2l (pc := 8) dL_place_8 ?_
    refine tz_last (pc := 9) (z := 0) dL_place_9 l_183 rfl (by decide) (by omega) ?_
    refine tz_goto (pc := 10) (tgt := 17) dL_place_10 (by decide) ?_
    refine tz_iconst (pc := 17) dL_place_17 ?_
    exact tz_iret (pc := 18) (z := 0) dL_place_18 rfl (Nat.le_of_ble_eq_true rfl) (Nat.le_of_ble_eq_true rfl) ⟨by omega, by omega⟩ ⟨_, rfl, (by decide), ⟨CW.o (CW.c hcq), CAL.o hcq hcc⟩⟩
  · obtain ⟨rfl, rfl⟩ := hx9
    refine tz_catchA [] _ [] rfl (fun _ h => nomatch h) (by decide) (by decide) cw_L_18 (by decide) dL_place_13 (by decide) ?_
    show tz_At l G M_L_place (tb_rm 8 1 6) none (tb_ZM G 1 6 (zQ n 1 (zqi (fun z J' => CW J' J ∧ CAL J' (tbz J) pn RR))) (zX n 1 zN)) _ _ _ _ 15 [some (.ref 0), some (zi a), some (zi b), some (.ref 183), none] []
    refine tz_iconst (pc := 15) dL_place_15 ?_
    exact tz_iret (pc := 16) (z := 1) dL_place_16 rfl (Nat.le_of_ble_eq_true rfl) (Nat.le_of_ble_eq_true rfl) ⟨by omega, by omega⟩ ⟨_, rfl, (by decide), ⟨CW.rf hI, cc⟩⟩

set_option maxHeartbeats 4000000 in
set_option maxRecDepth 100000 in
theorem lw_order {l : Launch} {G : tb_G} (hl : l.stackTraces = false) (n : Nat) (J : zJ) (a : Int) (b : Int) (hr_a : -2147483648 ≤ a ∧ a < 2147483648) (hr_b : -2147483648 ≤ b ∧ b < 2147483648) (m : Int) (pn : Int) (RR : Int → Int → Int) (hI : CI J m) (h9 : J 145 10 < 1000000000) (cc : CAL J (tbz J) pn RR) : tz_Okw l G M_L_order 11 1 6 [.ref 0, zi a, zi b, .ref 183] n J (zqi (fun z J' => CW J' J ∧ CAL J' (tbz J) pn RR)) zN := by
  refine tz_Okw.of hl (by decide +kernel) (tb_c1 rfl) (Nat.le_of_ble_eq_true rfl) ?_
  show tz_At l G M_L_order (tb_rm 11 1 6) none (tb_ZM G 1 6 (zQ n 1 (zqi (fun z J' => CW J' J ∧ CAL J' (tbz J) pn RR))) (zX n 1 zN)) 0 0 n J 0 [some (.ref 0), some (zi a), some (zi b), some (.ref 183), none] []
  refine tz_aload_n (pc := 0) dL_order_0 rfl rfl ?_
  refine tz_iconst (pc := 1) dL_order_1 ?_
  refine tz_aload_n (pc := 2) dL_order_2 rfl rfl ?_
  refine tz_iload_n (pc := 3) dL_order_3 rfl rfl ?_
  refine tz_iload_n (pc := 4) dL_order_4 rfl rfl ?_
  refine tz_cVX (pc := 5) (l_order hl _ _ _ _ hr_a hr_b m (tbz J) pn RR hI h9 cc rfl) vl_L_33 dL_order_5 o_0 rfl rfl (Nat.le_of_ble_eq_true rfl) ⟨(Nat.le_of_ble_eq_true rfl), (Nat.le_of_ble_eq_true rfl)⟩ rfl rfl (Nat.le_of_ble_eq_true rfl) (Nat.le_of_ble_eq_true rfl) (fun r9 n_5 J_5 hn1_5 hn2_5 hq9 => ?_) (fun E9 n_5 J_5 hn1_5 hn2_5 hx9 => ?_)
  · obtain ⟨z_5, rfl, hz_5, hcq, hcc⟩ := hq9
    refine tz_i2l (pc := 8) dL_order_8 ?_
    refine tz_last (pc := 9) (z := 0) dL_order_9 l_183 rfl (by decide) (by omega) ?_
    refine tz_goto (pc := 10) (tgt := 17) dL_order_10 (by decide) ?_
    refine tz_iconst (pc := 17) dL_order_17 ?_
    exact tz_iret (pc := 18) (z := 0) dL_order_18 rfl (Nat.le_of_ble_eq_true rfl) (Nat.le_of_ble_eq_true rfl) ⟨by omega, by omega⟩ ⟨_, rfl, (by decide), ⟨CW.o (CW.c hcq), CAL.o hcq hcc⟩⟩
  · obtain ⟨rfl, rfl⟩ := hx9
    refine tz_catchA [] _ [] rfl (fun _ h => nomatch h) (by decide) (by decide) cw_L_18 (by decide) dL_order_13 (by decide) ?_
    show tz_At l G M_L_order (tb_rm 11 1 6) none (tb_ZM G 1 6 (zQ n 1 (zqi (fun z J' => CW J' J ∧ CAL J' (tbz J) pn RR))) (zX n 1 zN)) _ _ _ _ 15 [some (.ref 0), some (zi a), some (zi b), some (.ref 183), none] []
    refine tz_iconst (pc := 15) dL_order_15 ?_
    exact tz_iret (pc := 16) (z := 1) dL_order_16 rfl (Nat.le_of_ble_eq_true rfl) (Nat.le_of_ble_eq_true rfl) ⟨by omega, by omega⟩ ⟨_, rfl, (by decide), ⟨CW.rf hI, cc⟩⟩

set_option maxHeartbeats 4000000 in
set_option maxRecDepth 100000 in
theorem lw_find {l : Launch} {G : tb_G} (hl : l.stackTraces = false) (n : Nat) (J : zJ) (a : Int) (b : Int) (hr_a : -2147483648 ≤ a ∧ a < 2147483648) (hr_b : -2147483648 ≤ b ∧ b < 2147483648) (m : Int) (pn : Int) (RR : Int → Int → Int) (hI : CI J m) (h9 : J 145 10 < 1000000000) (cc : CAL J (tbz J) pn RR) : tz_Okw l G M_L_find 11 1 6 [.ref 0, zi a, zi b, .ref 183] n J (zqi (fun z J' => CW J' J ∧ CAL J' (tbz J) pn RR)) zN := by
  refine tz_Okw.of hl (by decide +kernel) (tb_c1 rfl) (Nat.le_of_ble_eq_true rfl) ?_
  show tz_At l G M_L_find (tb_rm 11 1 6) none (tb_ZM G 1 6 (zQ n 1 (zqi (fun z J' => CW J' J ∧ CAL J' (tbz J) pn RR))) (zX n 1 zN)) 0 0 n J 0 [some (.ref 0), some (zi a), some (zi b), some (.ref 183), none] []
  refine tz_aload_n (pc := 0) dL_find_0 rfl rfl ?_
  refine tz_iconst (pc := 1) dL_find_1 ?_
  refine tz_aload_n (pc := 2) dL_find_2 rfl rfl ?_
  refine tz_iload_n (pc := 3) dL_find_3 rfl rfl ?_
  refine tz_iload_n (pc := 4) dL_find_4 rfl rfl ?_
  refine tz_cVX (pc := 5) (l_find hl _ _ _ _ hr_a hr_b m (tbz J) pn RR hI h9 cc rfl) vl_L_36 dL_find_5 o_0 rfl rfl (Nat.le_of_ble_eq_true rfl) ⟨(Nat.le_of_ble_eq_true rfl), (Nat.le_of_ble_eq_true rfl)⟩ rfl rfl (Nat.le_of_ble_eq_true rfl) (Nat.le_of_ble_eq_true rfl) (fun r9 n_5 J_5 hn1_5 hn2_5 hq9 => ?_) (fun E9 n_5 J_5 hn1_5 hn2_5 hx9 => ?_)
  · obtain ⟨z_5, rfl, hz_5, hcq, hcc⟩ := hq9
    refine tz_i2l (pc := 8) dL_find_8 ?_
    refine tz_last (pc := 9) (z := 0) dL_find_9 l_183 rfl (by decide) (by omega) ?_
    refine tz_goto (pc := 10) (tgt := 17) dL_find_10 (by decide) ?_
    refine tz_iconst (pc := 17) dL_find_17 ?_
    exact tz_iret (pc := 18) (z := 0) dL_find_18 rfl (Nat.le_of_ble_eq_true rfl) (Nat.le_of_ble_eq_true rfl) ⟨by omega, by omega⟩ ⟨_, rfl, (by decide), ⟨CW.o (CW.c hcq), CAL.o hcq hcc⟩⟩
  · obtain ⟨rfl, rfl⟩ := hx9
    refine tz_catchA [] _ [] rfl (fun _ h => nomatch h) (by decide) (by decide) cw_L_18 (by decide) dL_find_13 (by decide) ?_
    show tz_At l G M_L_find (tb_rm 11 1 6) none (tb_ZM G 1 6 (zQ n 1 (zqi (fun z J' => CW J' J ∧ CAL J' (tbz J) pn RR))) (zX n 1 zN)) _ _ _ _ 15 [some (.ref 0), some (zi a), some (zi b), some (.ref 183), none] []
    refine tz_iconst (pc := 15) dL_find_15 ?_
    exact tz_iret (pc := 16) (z := 1) dL_find_16 rfl (Nat.le_of_ble_eq_true rfl) (Nat.le_of_ble_eq_true rfl) ⟨by omega, by omega⟩ ⟨_, rfl, (by decide), ⟨CW.rf hI, cc⟩⟩

set_option maxHeartbeats 4000000 in
set_option maxRecDepth 100000 in
theorem lw_rule {l : Launch} {G : tb_G} (hl : l.stackTraces = false) (n : Nat) (J : zJ) (a : Int) (b : Int) (hr_a : -2147483648 ≤ a ∧ a < 2147483648) (hr_b : -2147483648 ≤ b ∧ b < 2147483648) (m : Int) (pn : Int) (RR : Int → Int → Int) (hI : CI J m) (h9 : J 145 10 < 1000000000) (cc : CAL J (tbz J) pn RR) : tz_Okw l G M_L_rule 7 1 6 [.ref 0, zi a, zi b, .ref 183] n J (zqi (fun z J' => CW J' J ∧ CAL J' (tbz J) pn RR)) zN := by
  refine tz_Okw.of hl (by decide +kernel) (tb_c1 rfl) (Nat.le_of_ble_eq_true rfl) ?_
  show tz_At l G M_L_rule (tb_rm 7 1 6) none (tb_ZM G 1 6 (zQ n 1 (zqi (fun z J' => CW J' J ∧ CAL J' (tbz J) pn RR))) (zX n 1 zN)) 0 0 n J 0 [some (.ref 0), some (zi a), some (zi b), some (.ref 183), none] []
  refine tz_aload_n (pc := 0) dL_rule_0 rfl rfl ?_
  refine tz_iconst (pc := 1) dL_rule_1 ?_
  refine tz_aload_n (pc := 2) dL_rule_2 rfl rfl ?_
  refine tz_iload_n (pc := 3) dL_rule_3 rfl rfl ?_
  refine tz_iload_n (pc := 4) dL_rule_4 rfl rfl ?_
  refine tz_cVX (pc := 5) (l_rule hl _ _ _ _ hr_a hr_b m (tbz J) pn RR hI h9 cc rfl) vl_L_39 dL_rule_5 o_0 rfl rfl (Nat.le_of_ble_eq_true rfl) ⟨(Nat.le_of_ble_eq_true rfl), (Nat.le_of_ble_eq_true rfl)⟩ rfl rfl (Nat.le_of_ble_eq_true rfl) (Nat.le_of_ble_eq_true rfl) (fun r9 n_5 J_5 hn1_5 hn2_5 hq9 => ?_) (fun E9 n_5 J_5 hn1_5 hn2_5 hx9 => ?_)
  · obtain ⟨z_5, rfl, hz_5, hcq, hcc⟩ := hq9
    refine tz_i2l (pc := 8) dL_rule_8 ?_
    refine tz_last (pc := 9) (z := 0) dL_rule_9 l_183 rfl (by decide) (by omega) ?_
    refine tz_goto (pc := 10) (tgt := 17) dL_rule_10 (by decide) ?_
    refine tz_iconst (pc := 17) dL_rule_17 ?_
    exact tz_iret (pc := 18) (z := 0) dL_rule_18 rfl (Nat.le_of_ble_eq_true rfl) (Nat.le_of_ble_eq_true rfl) ⟨by omega, by omega⟩ ⟨_, rfl, (by decide), ⟨CW.o (CW.c hcq), CAL.o hcq hcc⟩⟩
  · obtain ⟨rfl, rfl⟩ := hx9
    refine tz_catchA [] _ [] rfl (fun _ h => nomatch h) (by decide) (by decide) cw_L_18 (by decide) dL_rule_13 (by decide) ?_
    show tz_At l G M_L_rule (tb_rm 7 1 6) none (tb_ZM G 1 6 (zQ n 1 (zqi (fun z J' => CW J' J ∧ CAL J' (tbz J) pn RR))) (zX n 1 zN)) _ _ _ _ 15 [some (.ref 0), some (zi a), some (zi b), some (.ref 183), none] []
    refine tz_iconst (pc := 15) dL_rule_15 ?_
    exact tz_iret (pc := 16) (z := 1) dL_rule_16 rfl (Nat.le_of_ble_eq_true rfl) (Nat.le_of_ble_eq_true rfl) ⟨by omega, by omega⟩ ⟨_, rfl, (by decide), ⟨CW.rf hI, cc⟩⟩

set_option maxHeartbeats 4000000 in
set_option maxRecDepth 100000 in
theorem lw_entry {l : Launch} {G : tb_G} (hl : l.stackTraces = false) (n : Nat) (J : zJ) (a : Int) (hr_a : -2147483648 ≤ a ∧ a < 2147483648) (m : Int) (pn : Int) (RR : Int → Int → Int) (hI : CI J m) (h9 : J 145 10 < 1000000000) (cc : CAL J (tbz J) pn RR) : tz_Okw l G M_L_entry 7 1 6 [.ref 0, zi a, .ref 183] n J (zqi (fun z J' => CW J' J ∧ CAL J' (tbz J) pn RR)) zN := by
  refine tz_Okw.of hl (by decide +kernel) (tb_c1 rfl) (Nat.le_of_ble_eq_true rfl) ?_
  show tz_At l G M_L_entry (tb_rm 7 1 6) none (tb_ZM G 1 6 (zQ n 1 (zqi (fun z J' => CW J' J ∧ CAL J' (tbz J) pn RR))) (zX n 1 zN)) 0 0 n J 0 [some (.ref 0), some (zi a), some (.ref 183), none] []
  refine tz_aload_n (pc := 0) dL_entry_0 rfl rfl ?_
  refine tz_iconst (pc := 1) dL_entry_1 ?_
  refine tz_aload_n (pc := 2) dL_entry_2 rfl rfl ?_
  refine tz_iload_n (pc := 3) dL_entry_3 rfl rfl ?_
  refine tz_cVX (pc := 4) (l_entry hl _ _ _ hr_a m (tbz J) pn RR hI h9 cc rfl) vl_L_42 dL_entry_4 o_0 rfl rfl (Nat.le_of_ble_eq_true rfl) ⟨(Nat.le_of_ble_eq_true rfl), (Nat.le_of_ble_eq_true rfl)⟩ rfl rfl (Nat.le_of_ble_eq_true rfl) (Nat.le_of_ble_eq_true rfl) (fun r9 n_4 J_4 hn1_4 hn2_4 hq9 => ?_) (fun E9 n_4 J_4 hn1_4 hn2_4 hx9 => ?_)
  · obtain ⟨z_4, rfl, hz_4, hcq, hcc⟩ := hq9
    refine tz_i2l (pc := 7) dL_entry_7 ?_
    refine tz_last (pc := 8) (z := 0) dL_entry_8 l_183 rfl (by decide) (by omega) ?_
    refine tz_goto (pc := 9) (tgt := 15) dL_entry_9 (by decide) ?_
    refine tz_iconst (pc := 15) dL_entry_15 ?_
    exact tz_iret (pc := 16) (z := 0) dL_entry_16 rfl (Nat.le_of_ble_eq_true rfl) (Nat.le_of_ble_eq_true rfl) ⟨by omega, by omega⟩ ⟨_, rfl, (by decide), ⟨CW.o (CW.c hcq), CAL.o hcq hcc⟩⟩
  · obtain ⟨rfl, rfl⟩ := hx9
    refine tz_catch [] _ [] rfl (fun _ h => nomatch h) (by decide) (by decide) cw_L_18 (by decide) dL_entry_12 rfl (by decide) ?_
    show tz_At l G M_L_entry (tb_rm 7 1 6) none (tb_ZM G 1 6 (zQ n 1 (zqi (fun z J' => CW J' J ∧ CAL J' (tbz J) pn RR))) (zX n 1 zN)) _ _ _ _ 13 [some (.ref 0), some (zi a), some (.ref 183), none] []
    refine tz_iconst (pc := 13) dL_entry_13 ?_
    exact tz_iret (pc := 14) (z := 1) dL_entry_14 rfl (Nat.le_of_ble_eq_true rfl) (Nat.le_of_ble_eq_true rfl) ⟨by omega, by omega⟩ ⟨_, rfl, (by decide), ⟨CW.rf hI, cc⟩⟩

set_option maxHeartbeats 4000000 in
set_option maxRecDepth 100000 in
theorem lw_memo {l : Launch} {G : tb_G} (hl : l.stackTraces = false) (n : Nat) (J : zJ) (a : Int) (b : Int) (hr_a : -2147483648 ≤ a ∧ a < 2147483648) (hr_b : -2147483648 ≤ b ∧ b < 2147483648) (m : Int) (pn : Int) (RR : Int → Int → Int) (hI : CI J m) (h9 : J 145 10 < 1000000000) (cc : CAL J (tbz J) pn RR) : tz_Okw l G M_L_memo 7 1 6 [.ref 0, zi a, zi b, .ref 183] n J (zqi (fun z J' => CW J' J ∧ CAL J' (tbz J) pn RR)) zN := by
  refine tz_Okw.of hl (by decide +kernel) (tb_c1 rfl) (Nat.le_of_ble_eq_true rfl) ?_
  show tz_At l G M_L_memo (tb_rm 7 1 6) none (tb_ZM G 1 6 (zQ n 1 (zqi (fun z J' => CW J' J ∧ CAL J' (tbz J) pn RR))) (zX n 1 zN)) 0 0 n J 0 [some (.ref 0), some (zi a), some (zi b), some (.ref 183), none] []
  refine tz_aload_n (pc := 0) dL_memo_0 rfl rfl ?_
  refine tz_iconst (pc := 1) dL_memo_1 ?_
  refine tz_aload_n (pc := 2) dL_memo_2 rfl rfl ?_
  refine tz_iload_n (pc := 3) dL_memo_3 rfl rfl ?_
  refine tz_iload_n (pc := 4) dL_memo_4 rfl rfl ?_
  refine tz_cVX (pc := 5) (l_memo hl _ _ _ _ hr_a hr_b m (tbz J) pn RR hI h9 cc rfl) vl_L_45 dL_memo_5 o_0 rfl rfl (Nat.le_of_ble_eq_true rfl) ⟨(Nat.le_of_ble_eq_true rfl), (Nat.le_of_ble_eq_true rfl)⟩ rfl rfl (Nat.le_of_ble_eq_true rfl) (Nat.le_of_ble_eq_true rfl) (fun r9 n_5 J_5 hn1_5 hn2_5 hq9 => ?_) (fun E9 n_5 J_5 hn1_5 hn2_5 hx9 => ?_)
  · obtain ⟨z_5, rfl, hz_5, hcq, hcc⟩ := hq9
    refine tz_i2l (pc := 8) dL_memo_8 ?_
    refine tz_last (pc := 9) (z := 0) dL_memo_9 l_183 rfl (by decide) (by omega) ?_
    refine tz_goto (pc := 10) (tgt := 17) dL_memo_10 (by decide) ?_
    refine tz_iconst (pc := 17) dL_memo_17 ?_
    exact tz_iret (pc := 18) (z := 0) dL_memo_18 rfl (Nat.le_of_ble_eq_true rfl) (Nat.le_of_ble_eq_true rfl) ⟨by omega, by omega⟩ ⟨_, rfl, (by decide), ⟨CW.o (CW.c hcq), CAL.o hcq hcc⟩⟩
  · obtain ⟨rfl, rfl⟩ := hx9
    refine tz_catchA [] _ [] rfl (fun _ h => nomatch h) (by decide) (by decide) cw_L_18 (by decide) dL_memo_13 (by decide) ?_
    show tz_At l G M_L_memo (tb_rm 7 1 6) none (tb_ZM G 1 6 (zQ n 1 (zqi (fun z J' => CW J' J ∧ CAL J' (tbz J) pn RR))) (zX n 1 zN)) _ _ _ _ 15 [some (.ref 0), some (zi a), some (zi b), some (.ref 183), none] []
    refine tz_iconst (pc := 15) dL_memo_15 ?_
    exact tz_iret (pc := 16) (z := 1) dL_memo_16 rfl (Nat.le_of_ble_eq_true rfl) (Nat.le_of_ble_eq_true rfl) ⟨by omega, by omega⟩ ⟨_, rfl, (by decide), ⟨CW.rf hI, cc⟩⟩

set_option maxHeartbeats 4000000 in
set_option maxRecDepth 100000 in
theorem lw_bound {l : Launch} {G : tb_G} (hl : l.stackTraces = false) (n : Nat) (J : zJ) (a : Int) (hr_a : -2147483648 ≤ a ∧ a < 2147483648) (m : Int) (pn : Int) (RR : Int → Int → Int) (hI : CI J m) (h9 : J 145 10 < 1000000000) (cc : CAL J (tbz J) pn RR) : tz_Okw l G M_L_bound 7 1 6 [.ref 0, zi a, .ref 183] n J (zqi (fun z J' => CW J' J ∧ CAL J' (tbz J) pn RR)) zN := by
  refine tz_Okw.of hl (by decide +kernel) (tb_c1 rfl) (Nat.le_of_ble_eq_true rfl) ?_
  show tz_At l G M_L_bound (tb_rm 7 1 6) none (tb_ZM G 1 6 (zQ n 1 (zqi (fun z J' => CW J' J ∧ CAL J' (tbz J) pn RR))) (zX n 1 zN)) 0 0 n J 0 [some (.ref 0), some (zi a), some (.ref 183), none] []
  refine tz_aload_n (pc := 0) dL_bound_0 rfl rfl ?_
  refine tz_iconst (pc := 1) dL_bound_1 ?_
  refine tz_aload_n (pc := 2) dL_bound_2 rfl rfl ?_
  refine tz_iload_n (pc := 3) dL_bound_3 rfl rfl ?_
  refine tz_cVX (pc := 4) (l_bound hl _ _ _ hr_a m (tbz J) pn RR hI h9 cc rfl) vl_L_48 dL_bound_4 o_0 rfl rfl (Nat.le_of_ble_eq_true rfl) ⟨(Nat.le_of_ble_eq_true rfl), (Nat.le_of_ble_eq_true rfl)⟩ rfl rfl (Nat.le_of_ble_eq_true rfl) (Nat.le_of_ble_eq_true rfl) (fun r9 n_4 J_4 hn1_4 hn2_4 hq9 => ?_) (fun E9 n_4 J_4 hn1_4 hn2_4 hx9 => ?_)
  · obtain ⟨z_4, rfl, hz_4, hcq, hcc⟩ := hq9
    refine tz_i2l (pc := 7) dL_bound_7 ?_
    refine tz_last (pc := 8) (z := 0) dL_bound_8 l_183 rfl (by decide) (by omega) ?_
    refine tz_goto (pc := 9) (tgt := 15) dL_bound_9 (by decide) ?_
    refine tz_iconst (pc := 15) dL_bound_15 ?_
    exact tz_iret (pc := 16) (z := 0) dL_bound_16 rfl (Nat.le_of_ble_eq_true rfl) (Nat.le_of_ble_eq_true rfl) ⟨by omega, by omega⟩ ⟨_, rfl, (by decide), ⟨CW.o (CW.c hcq), CAL.o hcq hcc⟩⟩
  · obtain ⟨rfl, rfl⟩ := hx9
    refine tz_catch [] _ [] rfl (fun _ h => nomatch h) (by decide) (by decide) cw_L_18 (by decide) dL_bound_12 rfl (by decide) ?_
    show tz_At l G M_L_bound (tb_rm 7 1 6) none (tb_ZM G 1 6 (zQ n 1 (zqi (fun z J' => CW J' J ∧ CAL J' (tbz J) pn RR))) (zX n 1 zN)) _ _ _ _ 13 [some (.ref 0), some (zi a), some (.ref 183), none] []
    refine tz_iconst (pc := 13) dL_bound_13 ?_
    exact tz_iret (pc := 14) (z := 1) dL_bound_14 rfl (Nat.le_of_ble_eq_true rfl) (Nat.le_of_ble_eq_true rfl) ⟨by omega, by omega⟩ ⟨_, rfl, (by decide), ⟨CW.rf hI, cc⟩⟩

set_option maxHeartbeats 4000000 in
set_option maxRecDepth 100000 in
theorem lw_years {l : Launch} {G : tb_G} (hl : l.stackTraces = false) (n : Nat) (J : zJ) (a : Int) (b : Int) (c : Int) (hr_a : -2147483648 ≤ a ∧ a < 2147483648) (hr_b : -2147483648 ≤ b ∧ b < 2147483648) (hr_c : -2147483648 ≤ c ∧ c < 2147483648) (m : Int) (pn : Int) (RR : Int → Int → Int) (hI : CI J m) (h9 : J 145 10 < 1000000000) (cc : CAL J (tbz J) pn RR) (hr9 : tbz J 165 40 ≤ tbz J 165 39) (hW : ∀ k : Nat, (yrO (tbz J) a k).2.2.2 = 0 → 0 ≤ (yrO (tbz J) a k).2.2.1) : tz_Okw l G M_L_years 14 1 6 [.ref 0, zi a, zi b, zi c, .ref 183] n J (zqi (fun z J' => CW J' J ∧ CAL J' (tbz J) pn RR ∧ ((z = 0 ∧ ((0 ≤ c ∧ c ≤ 2) ∧ (0 ≤ b ∧ b ≤ 20)) ∧ (¬ (yrO (tbz J) a b.toNat).2.2.2 = 2 → J' 183 0 = yrA (tbz J) (yrO (tbz J) a b.toNat) c)) ∨ (z = 1 ∧ ¬ (0 ≤ c ∧ c ≤ 2)) ∨ (z = 2 ∧ (0 ≤ c ∧ c ≤ 2) ∧ ¬ (0 ≤ b ∧ b ≤ 20))))) zN := by
  refine tz_Okw.of hl (by decide +kernel) (tb_c1 rfl) (Nat.le_of_ble_eq_true rfl) ?_
  show tz_At l G M_L_years (tb_rm 14 1 6) none (tb_ZM G 1 6 (zQ n 1 (zqi (fun z J' => CW J' J ∧ CAL J' (tbz J) pn RR ∧ ((z = 0 ∧ ((0 ≤ c ∧ c ≤ 2) ∧ (0 ≤ b ∧ b ≤ 20)) ∧ (¬ (yrO (tbz J) a b.toNat).2.2.2 = 2 → J' 183 0 = yrA (tbz J) (yrO (tbz J) a b.toNat) c)) ∨ (z = 1 ∧ ¬ (0 ≤ c ∧ c ≤ 2)) ∨ (z = 2 ∧ (0 ≤ c ∧ c ≤ 2) ∧ ¬ (0 ≤ b ∧ b ≤ 20)))))) (zX n 1 zN)) 0 0 n J 0 [some (.ref 0), some (zi a), some (zi b), some (zi c), some (.ref 183), none] []
  refine tz_aload (pc := 0) dL_years_0 rfl ?_
  refine tz_iconst (pc := 2) dL_years_2 ?_
  refine tz_aload_n (pc := 3) dL_years_3 rfl rfl ?_
  refine tz_iload_n (pc := 4) dL_years_4 rfl rfl ?_
  refine tz_iload_n (pc := 5) dL_years_5 rfl rfl ?_
  refine tz_iload_n (pc := 6) dL_years_6 rfl rfl ?_
  refine tz_cVX (pc := 7) (e_years hl _ _ _ _ _ hr_a hr_b hr_c m (tbz J) pn RR hI h9 cc rfl hr9 hW) vl_L_51 dL_years_7 o_0 rfl rfl (Nat.le_of_ble_eq_true rfl) ⟨(Nat.le_of_ble_eq_true rfl), (Nat.le_of_ble_eq_true rfl)⟩ rfl rfl (Nat.le_of_ble_eq_true rfl) (Nat.le_of_ble_eq_true rfl) (fun r9 n_7 J_7 hn1_7 hn2_7 hq9 => ?_) (fun E9 n_7 J_7 hn1_7 hn2_7 hx9 => ?_)
  · obtain ⟨z_7, rfl, hz_7, hcq, hcc, hca⟩ := hq9
    refine tz_i2l (pc := 10) dL_years_10 ?_
    refine tz_last (pc := 11) (z := 0) dL_years_11 l_183 rfl (by decide) (by omega) ?_
    refine tz_goto (pc := 12) (tgt := 23) dL_years_12 (by decide) ?_
    refine tz_iconst (pc := 23) dL_years_23 ?_
    exact tz_iret (pc := 24) (z := 0) dL_years_24 rfl (Nat.le_of_ble_eq_true rfl) (Nat.le_of_ble_eq_true rfl) ⟨by omega, by omega⟩ ⟨_, rfl, (by decide), ⟨CW.o (CW.c hcq), CAL.o hcq hcc, Or.inl ⟨rfl, hca.1, by rw [zup_at]; exact hca.2⟩⟩⟩
  · rcases hx9 with ⟨rfl, rfl, hc9⟩ | ⟨rfl, rfl, hc9⟩
    · refine tz_catchA [] _ [_] rfl (fun _ h => nomatch h) (by decide) (by decide) cw_L_18 (by decide) dL_years_15 (by decide) ?_
      show tz_At l G M_L_years (tb_rm 14 1 6) none (tb_ZM G 1 6 (zQ n 1 (zqi (fun z J' => CW J' J ∧ CAL J' (tbz J) pn RR ∧ ((z = 0 ∧ ((0 ≤ c ∧ c ≤ 2) ∧ (0 ≤ b ∧ b ≤ 20)) ∧ (¬ (yrO (tbz J) a b.toNat).2.2.2 = 2 → J' 183 0 = yrA (tbz J) (yrO (tbz J) a b.toNat) c)) ∨ (z = 1 ∧ ¬ (0 ≤ c ∧ c ≤ 2)) ∨ (z = 2 ∧ (0 ≤ c ∧ c ≤ 2) ∧ ¬ (0 ≤ b ∧ b ≤ 20)))))) (zX n 1 zN)) _ _ _ _ 17 [some (.ref 0), some (zi a), some (zi b), some (zi c), some (.ref 183), none] []
      refine tz_iconst (pc := 17) dL_years_17 ?_
      exact tz_iret (pc := 18) (z := 1) dL_years_18 rfl (Nat.le_of_ble_eq_true rfl) (Nat.le_of_ble_eq_true rfl) ⟨by omega, by omega⟩ ⟨_, rfl, (by decide), ⟨CW.rf hI, cc, by first | exact Or.inr (Or.inl ⟨rfl, hc9⟩) | exact Or.inr (Or.inr ⟨rfl, hc9⟩)⟩⟩
    · refine tz_catchA [_] _ [] rfl (fun z hz => by rw [List.mem_singleton] at hz; subst hz; exact Or.inr ⟨by decide, _, cw_L_18, by decide⟩) (by decide) (by decide) cw_L_13 (by decide) dL_years_19 (by decide) ?_
      show tz_At l G M_L_years (tb_rm 14 1 6) none (tb_ZM G 1 6 (zQ n 1 (zqi (fun z J' => CW J' J ∧ CAL J' (tbz J) pn RR ∧ ((z = 0 ∧ ((0 ≤ c ∧ c ≤ 2) ∧ (0 ≤ b ∧ b ≤ 20)) ∧ (¬ (yrO (tbz J) a b.toNat).2.2.2 = 2 → J' 183 0 = yrA (tbz J) (yrO (tbz J) a b.toNat) c)) ∨ (z = 1 ∧ ¬ (0 ≤ c ∧ c ≤ 2)) ∨ (z = 2 ∧ (0 ≤ c ∧ c ≤ 2) ∧ ¬ (0 ≤ b ∧ b ≤ 20)))))) (zX n 1 zN)) _ _ _ _ 21 [some (.ref 0), some (zi a), some (zi b), some (zi c), some (.ref 183), none] []
      refine tz_iconst (pc := 21) dL_years_21 ?_
      exact tz_iret (pc := 22) (z := 2) dL_years_22 rfl (Nat.le_of_ble_eq_true rfl) (Nat.le_of_ble_eq_true rfl) ⟨by omega, by omega⟩ ⟨_, rfl, (by decide), ⟨CW.rf hI, cc, by first | exact Or.inr (Or.inl ⟨rfl, hc9⟩) | exact Or.inr (Or.inr ⟨rfl, hc9⟩)⟩⟩

