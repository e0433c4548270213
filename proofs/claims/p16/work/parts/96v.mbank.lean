/-! ===== bank of the reference, in the frame of states ===== -/
theorem MBT.x {J' J S : zJ} (h : MBT J S) (f : zOf (zbut [172]) J' J) : MBT J' S := by
  unfold MBT
  rw [f 164 rfl, f 165 rfl, f 166 rfl, f 167 rfl, f 168 rfl, f 169 rfl, f 170 rfl, f 171 rfl]
  exact h
theorem MUr.x {J' J : zJ} {n : Int} {R : Int → Int → Int} (h : MUr J n R) (f : zOf (zbut [172]) J' J) : MUr J' n R := by
  unfold MUr
  rw [f 164 rfl, f 165 rfl]
  exact h
theorem MFI.x {J' J : zJ} (f : zOf (zbut [172]) J' J) : MFI J' J := ⟨fun k _ => by rw [f 165 rfl], fun k _ _ => ⟨by rw [f 166 rfl], by rw [f 168 rfl]⟩, fun k _ _ => by rw [f 167 rfl], by rw [f 164 rfl], by rw [f 164 rfl]⟩
theorem MBT.rd {J2 J : zJ} {m n : Int} {R : Int → Int → Int} (h : MI J m) (g : RDf J2 (zup (zup J 164 8 0) 164 19 0)) (u : MUr J n R) : (MBT J2 (tbz J) ∧ MUr J2 n R) ∧ MFI J2 J := by
  obtain ⟨g1, g5, g6, g7, g9, g4⟩ := g
  have T := h.told
  have e4 : ∀ k, 9 ≤ k → k ≤ 18 → J2 164 k = J 164 k := fun k a b => by
    rw [g4 k (by simp [clF]; omega), zup_ne (by omega), zup_ne (by omega)]
  have e5 : ∀ k, (k < 126 ∨ 189 ≤ k) → J2 165 k = J 165 k := fun k q => g5 k q
  have m0 : tbz J 165 0 = m := T.2.2.1
  refine ⟨⟨⟨⟨?_, fun k a b => ⟨?_, ?_, ?_⟩⟩, fun k a b => ?_, fun t a b => ⟨?_, ?_⟩, fun k a b => ?_⟩, u.of (e4 10 (by decide) (by decide)) (e4 11 (by decide) (by decide)) (fun k a => e5 k (by omega))⟩, fun k a => e5 k (by omega), fun k a b => ⟨(g6 k b).1, (g6 k b).2⟩, fun k a b => g7 k b, e4 12 (by decide) (by decide), e4 13 (by decide) (by decide)⟩
  · exact e4 9 (by decide) (by decide)
  · exact (g9 k b).1.trans (show tbz J 169 k = J 169 k from if_pos ⟨a, b⟩).symm
  · exact (g9 k b).2.1.trans (show tbz J 170 k = J 170 k from if_pos ⟨a, b⟩).symm
  · exact (g9 k b).2.2.trans (show tbz J 171 k = J 171 k from if_pos ⟨a, b⟩).symm
  · exact (e5 k (by omega)).trans (show tbz J 165 k = J 165 k from if_pos ⟨a, b⟩).symm
  · exact (g6 t (by omega)).1.trans (show tbz J 166 t = J 166 t from if_pos ⟨a, by omega⟩).symm
  · exact (g6 t (by omega)).2.trans (show tbz J 168 t = J 168 t from if_pos ⟨a, by omega⟩).symm
  · exact (g7 k (by omega)).trans (show tbz J 167 k = J 167 k from if_pos ⟨a, by omega⟩).symm
theorem MI.bankX {J1 J_69 J2 r : zJ} {s m : Int} (E : EM J2 r) (t : TB J2 s m) (v : MVD 800 0 J_69 J2) (f : zOf (zbut [169, 170, 171]) J1 (zup (zmv J_69 165 126 0 63) 164 9 (J2 164 44))) (e : ∀ q, 0 ≤ q → q < 10 → J1 169 q = J2 169 (10 + q) ∧ J1 170 q = J2 170 (10 + q) ∧ J1 171 q = J2 171 (10 + q)) : (MBT (zup (zup (zup J1 164 14 0) 164 11 0) 164 10 0) (BS r) ∧ (zup (zup (zup J1 164 14 0) 164 11 0) 164 10 0) 164 10 = 0) ∧ r 165 166 = 0 ∧ (0 ≤ r 165 126 ∧ r 165 126 ≤ 400) ∧ (0 ≤ r 164 44 ∧ r 164 44 ≤ 10) := by
  obtain ⟨t1, t2, t3, t4, t5⟩ := t
  obtain ⟨_, _, ⟨x44, _⟩, x5, x6, x7, x9⟩ := E
  obtain ⟨v1, v6, v8, v7⟩ := v
  have m1 := t1.2.1
  have s1 := t1.1.1
  have r0 : r 165 126 = m := (x5 126 (by decide) (by decide)).symm.trans t2
  have e4 : ∀ k, (zup (zup (zup J1 164 14 0) 164 11 0) 164 10 0) 164 k = if k = 10 then 0 else if k = 11 then 0 else if k = 14 then 0 else if k = 9 then J2 164 44 else J2 164 k := fun k => by
    show (if k = 10 then 0 else if k = 11 then 0 else if k = 14 then 0 else J1 164 k) = _
    rw [f 164 rfl]
    show (if k = 10 then 0 else if k = 11 then 0 else if k = 14 then 0 else if k = 9 then J2 164 44 else J_69 164 k) = _
    rw [v1 164 rfl]
  have e5 : ∀ k, (zup (zup (zup J1 164 14 0) 164 11 0) 164 10 0) 165 k = if 0 ≤ k ∧ k < 0 + 63 then J2 165 (126 + (k - 0)) else J2 165 k := fun k => by
    show J1 165 k = _
    rw [f 165 rfl, show J2 165 = J_69 165 from (v1 165 rfl).symm]
    rfl
  have w6 : (zup (zup (zup J1 164 14 0) 164 11 0) 164 10 0) 166 = fcy (J2 166) 800 0 400 := (f 166 rfl).trans v6
  have w8 : (zup (zup (zup J1 164 14 0) 164 11 0) 164 10 0) 168 = fcy (J2 168) 800 0 400 := (f 168 rfl).trans v8
  have w7 : (zup (zup (zup J1 164 14 0) 164 11 0) 164 10 0) 167 = fcy (J2 167) (3 * 800) (3 * 0) 1200 := (f 167 rfl).trans v7
  have w9 : ∀ q, 0 ≤ q → q < 10 → (zup (zup (zup J1 164 14 0) 164 11 0) 164 10 0) 169 q = J2 169 (10 + q) ∧ (zup (zup (zup J1 164 14 0) 164 11 0) 164 10 0) 170 q = J2 170 (10 + q) ∧ (zup (zup (zup J1 164 14 0) 164 11 0) 164 10 0) 171 q = J2 171 (10 + q) := e
  generalize zup (zup (zup J1 164 14 0) 164 11 0) 164 10 0 = J9 at *
  have i6 : ∀ (F : Int → Int) t, 0 ≤ t → t < 400 → fcy F 800 0 400 t = F (800 + t) := fun F t a c => by
    rw [fcy_at, if_pos (by omega)]
    congr 1
    omega
  have i7 : ∀ (F : Int → Int) t, 0 ≤ t → t < 1200 → fcy F (3 * 800) (3 * 0) 1200 t = F (2400 + t) := fun F t a c => by
    rw [fcy_at, if_pos (by omega)]
    congr 1
    omega
  have b0 : BS r 165 0 = m := (BS_5 (by decide)).trans r0
  refine ⟨⟨⟨⟨?_, fun k a b => ?_⟩, fun k a b => ?_, fun t a b => ?_, fun k a b => ?_⟩, ?_⟩, (x5 166 (by decide) (by decide)).symm.trans t5, by omega, by rw [← x44, t3]; exact s1⟩
  · rw [e4, if_neg (by decide), if_neg (by decide), if_neg (by decide), if_pos rfl]; exact x44
  · obtain ⟨q1, q2, q3⟩ := w9 k a b
    obtain ⟨p1, p2, p3⟩ := x9 (10 + k) (by omega) (by omega)
    rw [q1, q2, q3, (BS_9 ⟨a, b⟩).1, (BS_9 ⟨a, b⟩).2.1, (BS_9 ⟨a, b⟩).2.2]
    exact ⟨p1, p2, p3⟩
  · rw [e5, if_pos (by omega), BS_5 ⟨a, b⟩, show 126 + (k - 0) = 126 + k by omega]
    exact x5 _ (by omega) (by omega)
  · rw [w6, w8, i6 _ t a (by omega), i6 _ t a (by omega), (BS_6 (by omega)).1, (BS_6 (by omega)).2]
    exact x6 _ (by omega) (by omega)
  · rw [w7, i7 _ k a (by omega), BS_7 (by omega)]
    exact x7 _ (by omega) (by omega)
  · rw [e4, if_pos rfl]
set_option maxHeartbeats 4000000 in
set_option maxRecDepth 100000 in
theorem v_qbankC {l : Launch} {G : tb_G} (hl : l.stackTraces = false) (n : Nat) (J : zJ) (x : Int) (hr_x : -2147483648 ≤ x ∧ x < 2147483648) (m : Int) (pn : Int) (RR : Int → Int → Int) (hI : MI J m) (u9 : MUr J pn RR) : tz_Ok l G M_X12_bank 24 0 0 [.ref 164, zi x] n J (zqi (fun z J' => ((∃ m, MI J' m) ∧ (∀ c, c < 164 ∨ c = 173 → J' c = J c) ∧ J' 183 = J 183 ∧ ((0 ≤ x ∧ x ≤ J 164 19 ∧ J' 164 19 = 0 ∧ J' 164 8 = 0 ∧ z = (pAl 703 (pN (pG J x))) 0 4 ∧ (¬ (pAl 703 (pN (pG J x))) 0 4 = 0 → J' 164 20 = (pAl 703 (pN (pG J x))) 0 5 ∧ J' 164 14 = J 164 14) ∧ ((pAl 703 (pN (pG J x))) 0 4 = 0 → J' 164 20 = -1 ∧ J' 164 14 = 0)) ∨ (¬ (0 ≤ x ∧ x ≤ J 164 19) ∧ J' 164 19 = J 164 19 ∧ J' 164 8 = 1 ∧ J' 164 20 = J 164 20 ∧ J' 164 14 = J 164 14))) ∧ ((¬ (0 ≤ x ∧ x ≤ J 164 19) ∨ ¬ (pAl 703 (pN (pG J x))) 0 4 = 0) → (MBT J' (tbz J) ∧ MUr J' pn RR) ∧ MFI J' J) ∧ ((0 ≤ x ∧ x ≤ J 164 19) → (pAl 703 (pN (pG J x))) 0 4 = 0 → (MBT J' (BS (pAl 703 (pN (pG J x)))) ∧ J' 164 10 = 0) ∧ (pAl 703 (pN (pG J x))) 165 166 = 0 ∧ (0 ≤ (pAl 703 (pN (pG J x))) 165 126 ∧ (pAl 703 (pN (pG J x))) 165 126 ≤ 400) ∧ (0 ≤ (pAl 703 (pN (pG J x))) 164 44 ∧ (pAl 703 (pN (pG J x))) 164 44 ≤ 10)))) zN := by
  refine tz_Ok.of hl (by decide +kernel) rfl (tb_c1 rfl) (Nat.le_of_ble_eq_true rfl) ?_
  show tz_At l G M_X12_bank (tb_rm 24 0 0) none (tb_ZM G 0 0 (zQ n 0 (zqi (fun z J' => ((∃ m, MI J' m) ∧ (∀ c, c < 164 ∨ c = 173 → J' c = J c) ∧ J' 183 = J 183 ∧ ((0 ≤ x ∧ x ≤ J 164 19 ∧ J' 164 19 = 0 ∧ J' 164 8 = 0 ∧ z = (pAl 703 (pN (pG J x))) 0 4 ∧ (¬ (pAl 703 (pN (pG J x))) 0 4 = 0 → J' 164 20 = (pAl 703 (pN (pG J x))) 0 5 ∧ J' 164 14 = J 164 14) ∧ ((pAl 703 (pN (pG J x))) 0 4 = 0 → J' 164 20 = -1 ∧ J' 164 14 = 0)) ∨ (¬ (0 ≤ x ∧ x ≤ J 164 19) ∧ J' 164 19 = J 164 19 ∧ J' 164 8 = 1 ∧ J' 164 20 = J 164 20 ∧ J' 164 14 = J 164 14))) ∧ ((¬ (0 ≤ x ∧ x ≤ J 164 19) ∨ ¬ (pAl 703 (pN (pG J x))) 0 4 = 0) → (MBT J' (tbz J) ∧ MUr J' pn RR) ∧ MFI J' J) ∧ ((0 ≤ x ∧ x ≤ J 164 19) → (pAl 703 (pN (pG J x))) 0 4 = 0 → (MBT J' (BS (pAl 703 (pN (pG J x)))) ∧ J' 164 10 = 0) ∧ (pAl 703 (pN (pG J x))) 165 166 = 0 ∧ (0 ≤ (pAl 703 (pN (pG J x))) 165 126 ∧ (pAl 703 (pN (pG J x))) 165 126 ≤ 400) ∧ (0 ≤ (pAl 703 (pN (pG J x))) 164 44 ∧ (pAl 703 (pN (pG J x))) 164 44 ≤ 10))))) (zX n 0 zN)) 0 0 n J 0 [some (.ref 164), some (zi x), none] []
  have hT := hI.told
  have hW := hI.row
  have hM := hI.1
  have hL := hI.2.1
  refine tz_aload_n (pc := 0) dX12_bank_0 rfl rfl ?_
  refine tz_iconst (pc := 1) dX12_bank_1 ?_
  refine tz_pI (pc := 2) (kz := 8) dX12_bank_2 fl_X12_68 i_164_8 rfl rfl (by decide) ?_
  refine tz_aload_n (pc := 5) dX12_bank_5 rfl rfl ?_
  refine tz_iload_n (pc := 6) dX12_bank_6 rfl rfl ?_
  refine tz_if_lt (pc := 7) (tgt := 22) dX12_bank_7 (by decide) (by omega) (fun h_7 => ?_) (fun h_7 => ?_)
  · refine tz_iconst (pc := 22) dX12_bank_22 ?_
    refine tz_iconst (pc := 23) dX12_bank_23 ?_
    refine tz_cV (pc := 24) (x_right0 hl n _ rfl) vl_X12_334 dX12_bank_24 o_164 rfl rfl (Nat.le_of_ble_eq_true rfl) ⟨(Nat.le_of_ble_eq_true rfl), (Nat.le_of_ble_eq_true rfl)⟩ rfl rfl (Nat.le_of_ble_eq_true rfl) (Nat.le_of_ble_eq_true rfl) (fun r9 J_24 hq9 => ?_)
    obtain ⟨z_24, rfl, hz_24, rfl, rfl⟩ := hq9
    refine tz_if_neF (pc := 27) (tgt := 32) (by decide) dX12_bank_27 (by decide) (by decide) ?_
    refine tz_iconst (pc := 30) dX12_bank_30 ?_
    exact tz_iret (pc := 31) (z := 0) dX12_bank_31 rfl (Nat.le_of_ble_eq_true rfl) (Nat.le_of_ble_eq_true rfl) ⟨Nat.le_refl _, Nat.le_add_right _ _⟩ ⟨_, rfl, (by decide), ⟨⟨⟨m, hI.z (MZ.up (k := 8) (MZ.up (k := 8) MZ.rf (by decide)) (by decide))⟩, MZ.lo (MZ.up (k := 8) (MZ.up (k := 8) MZ.rf (by decide)) (by decide)), rfl, Or.inr ⟨by omega, rfl, rfl, rfl, rfl⟩⟩, fun _ => ⟨⟨MBT.z hI (MZ.up (k := 8) (MZ.up (k := 8) MZ.rf (by decide)) (by decide)), u9.z (MZ.up (k := 8) (MZ.up (k := 8) MZ.rf (by decide)) (by decide))⟩, MFI.z (MZ.up (k := 8) (MZ.up (k := 8) MZ.rf (by decide)) (by decide))⟩, fun q _ => absurd q (by omega)⟩⟩
  · refine tz_iload_n (pc := 10) dX12_bank_10 rfl rfl ?_
    refine tz_aload_n (pc := 11) dX12_bank_11 rfl rfl ?_
    refine tz_fI (pc := 12) (kz := 19) (v := (J 164 19)) dX12_bank_12 fl_X12_328 i_164_19 rfl rfl (fun r_12 => ?_)
    refine tz_icmp_gt (pc := 15) (tgt := 22) dX12_bank_15 (by decide) (by omega) (by omega) (fun h_15 => ?_) (fun h_15 => ?_)
    · refine tz_iconst (pc := 22) dX12_bank_22 ?_
      refine tz_iconst (pc := 23) dX12_bank_23 ?_
      refine tz_cV (pc := 24) (x_right0 hl n _ rfl) vl_X12_334 dX12_bank_24 o_164 rfl rfl (Nat.le_of_ble_eq_true rfl) ⟨(Nat.le_of_ble_eq_true rfl), (Nat.le_of_ble_eq_true rfl)⟩ rfl rfl (Nat.le_of_ble_eq_true rfl) (Nat.le_of_ble_eq_true rfl) (fun r9 J_24 hq9 => ?_)
      obtain ⟨z_24, rfl, hz_24, rfl, rfl⟩ := hq9
      refine tz_if_neF (pc := 27) (tgt := 32) (by decide) dX12_bank_27 (by decide) (by decide) ?_
      refine tz_iconst (pc := 30) dX12_bank_30 ?_
      exact tz_iret (pc := 31) (z := 0) dX12_bank_31 rfl (Nat.le_of_ble_eq_true rfl) (Nat.le_of_ble_eq_true rfl) ⟨Nat.le_refl _, Nat.le_add_right _ _⟩ ⟨_, rfl, (by decide), ⟨⟨⟨m, hI.z (MZ.up (k := 8) (MZ.up (k := 8) MZ.rf (by decide)) (by decide))⟩, MZ.lo (MZ.up (k := 8) (MZ.up (k := 8) MZ.rf (by decide)) (by decide)), rfl, Or.inr ⟨by omega, rfl, rfl, rfl, rfl⟩⟩, fun _ => ⟨⟨MBT.z hI (MZ.up (k := 8) (MZ.up (k := 8) MZ.rf (by decide)) (by decide)), u9.z (MZ.up (k := 8) (MZ.up (k := 8) MZ.rf (by decide)) (by decide))⟩, MFI.z (MZ.up (k := 8) (MZ.up (k := 8) MZ.rf (by decide)) (by decide))⟩, fun q _ => absurd q (by omega)⟩⟩
    · refine tz_iconst (pc := 18) dX12_bank_18 ?_
      refine tz_goto (pc := 19) (tgt := 23) dX12_bank_19 (by decide) ?_
      refine tz_iconst (pc := 23) dX12_bank_23 ?_
      refine tz_cV (pc := 24) (x_right1 hl n _ rfl) vl_X12_334 dX12_bank_24 o_164 rfl rfl (Nat.le_of_ble_eq_true rfl) ⟨(Nat.le_of_ble_eq_true rfl), (Nat.le_of_ble_eq_true rfl)⟩ rfl rfl (Nat.le_of_ble_eq_true rfl) (Nat.le_of_ble_eq_true rfl) (fun r9 J_24 hq9 => ?_)
      obtain ⟨z_24, rfl, hz_24, rfl, rfl⟩ := hq9
      refine tz_if_neT (pc := 27) (tgt := 32) (by decide) dX12_bank_27 (by decide) (by decide) ?_
      refine tz_aload_n (pc := 32) dX12_bank_32 rfl rfl ?_
      refine tz_iconst (pc := 33) dX12_bank_33 ?_
      refine tz_pI (pc := 34) (kz := 19) dX12_bank_34 fl_X12_328 i_164_19 rfl rfl (by decide) ?_
      refine tz_aload_n (pc := 37) dX12_bank_37 rfl rfl ?_
      refine tz_iload_n (pc := 38) dX12_bank_38 rfl rfl ?_
      refine tz_cV (pc := 39) (y_readsAll hl n _ _ (by omega) (by omega) ⟨(show (zup (zup J 164 8 0) 164 19 0) 164 15 = 0 from hT.2.2.2.1.1), (show (zup (zup J 164 8 0) 164 19 0) 164 16 = 0 from hT.2.2.2.1.2.1), (show (zup (zup J 164 8 0) 164 19 0) 164 17 = 0 from hT.2.2.2.1.2.2)⟩) vl_X12_337 dX12_bank_39 o_164 rfl rfl (Nat.le_of_ble_eq_true rfl) ⟨(Nat.le_of_ble_eq_true rfl), (Nat.le_of_ble_eq_true rfl)⟩ rfl rfl (Nat.le_of_ble_eq_true rfl) (Nat.le_of_ble_eq_true rfl) (fun r9 J_39 hq9 => ?_)
      obtain ⟨rfl, ⟨r_39, s9, m9, t9⟩, k_39⟩ := hq9
      have i_39 := MI.rd hI (MZ.up (k := 8) MZ.rf (by decide)) r_39
      rw [show pG (zup (zup J 164 8 0) 164 19 0) x = pG J x from pG_e (fun c hc _ => by rw [zup_nc (by omega), zup_nc (by omega)])] at k_39
      have v_39 := k_39.n (by omega)
      have g8 : J_39 164 8 = 0 := (r_39.2.2.2.2.2 8 (by decide)).trans rfl
      have g14 : J_39 164 14 = J 164 14 := (r_39.2.2.2.2.2 14 (by decide)).trans rfl
      refine tz_aload_n (pc := 42) dX12_bank_42 rfl rfl ?_
      refine tz_fI (pc := 43) (kz := 43) (v := (J_39 164 43)) dX12_bank_43 fl_X12_273 i_164_43 rfl rfl (fun r_43 => ?_)
      refine tz_if_eq (pc := 46) (tgt := 64) dX12_bank_46 (by decide) (by omega) (fun h_46 => ?_) (fun h_46 => ?_)
      · refine tz_aload_n (pc := 64) dX12_bank_64 rfl rfl ?_
        refine tz_sipush (pc := 65) dX12_bank_65 (by decide) ?_
        refine tz_iconst (pc := 68) dX12_bank_68 ?_
        refine tz_cV (pc := 69) (m_moves hl n _ _ _ (by decide) (by decide) (by decide) (by decide)) vl_X12_340 dX12_bank_69 o_164 rfl rfl (Nat.le_of_ble_eq_true rfl) ⟨(Nat.le_of_ble_eq_true rfl), (Nat.le_of_ble_eq_true rfl)⟩ rfl rfl (Nat.le_of_ble_eq_true rfl) (Nat.le_of_ble_eq_true rfl) (fun r9 J_69 hq9 => ?_)
        obtain ⟨rfl, v_69⟩ := hq9
        refine tz_aload_n (pc := 72) dX12_bank_72 rfl rfl ?_
        refine tz_bipush (pc := 73) dX12_bank_73 (by decide) ?_
        refine tz_iconst (pc := 75) dX12_bank_75 ?_
        refine tz_bipush (pc := 76) dX12_bank_76 (by decide) ?_
        refine tz_cV (pc := 78) (zm_copies hl n _ _ _ _ (by decide) (by decide) (by decide) (by omega) (by omega)) vl_X12_343 dX12_bank_78 o_164 rfl rfl (Nat.le_of_ble_eq_true rfl) ⟨(Nat.le_of_ble_eq_true rfl), (Nat.le_of_ble_eq_true rfl)⟩ rfl rfl (Nat.le_of_ble_eq_true rfl) (Nat.le_of_ble_eq_true rfl) (fun r9 J_78 hq9 => ?_)
        obtain ⟨rfl, rfl⟩ := hq9
        refine tz_aload_n (pc := 81) dX12_bank_81 rfl rfl ?_
        refine tz_aload_n (pc := 82) dX12_bank_82 rfl rfl ?_
        refine tz_fI (pc := 83) (kz := 44) (v := (J_39 164 44)) dX12_bank_83 fl_X12_287 i_164_44 rfl (Eq.trans (congrFun (v_69.1 164 rfl) 44) rfl) (fun r_83 => ?_)
        refine tz_pI (pc := 86) (kz := 9) dX12_bank_86 fl_X12_347 i_164_9 rfl rfl (by omega) ?_
        refine tz_iconst (pc := 89) dX12_bank_89 ?_
        refine tz_istore_n (pc := 90) (L2 := [_, _, _]) dX12_bank_90 rfl (by decide) rfl ?_
        have loop91 : ∀ (f9 : Nat) (k : Int) (J1 : zJ), ((10 - k).toNat) < f9 → (0 ≤ k ∧ k ≤ 10) → (zOf (zbut [169, 170, 171]) J1 (zup (zmv J_69 165 126 0 63) 164 9 (J_39 164 44))) → (∀ q, 0 ≤ q → q < k → J1 169 q = J_39 169 (10 + q) ∧ J1 170 q = J_39 170 (10 + q) ∧ J1 171 q = J_39 171 (10 + q)) → (∀ q, 10 ≤ q → J1 169 q = J_39 169 q ∧ J1 170 q = J_39 170 q ∧ J1 171 q = J_39 171 q) → tz_At l G M_X12_bank (tb_rm 24 0 0) none (tb_ZM G 0 0 (zQ n 0 (zqi (fun z J' => ((∃ m, MI J' m) ∧ (∀ c, c < 164 ∨ c = 173 → J' c = J c) ∧ J' 183 = J 183 ∧ ((0 ≤ x ∧ x ≤ J 164 19 ∧ J' 164 19 = 0 ∧ J' 164 8 = 0 ∧ z = (pAl 703 (pN (pG J x))) 0 4 ∧ (¬ (pAl 703 (pN (pG J x))) 0 4 = 0 → J' 164 20 = (pAl 703 (pN (pG J x))) 0 5 ∧ J' 164 14 = J 164 14) ∧ ((pAl 703 (pN (pG J x))) 0 4 = 0 → J' 164 20 = -1 ∧ J' 164 14 = 0)) ∨ (¬ (0 ≤ x ∧ x ≤ J 164 19) ∧ J' 164 19 = J 164 19 ∧ J' 164 8 = 1 ∧ J' 164 20 = J 164 20 ∧ J' 164 14 = J 164 14))) ∧ ((¬ (0 ≤ x ∧ x ≤ J 164 19) ∨ ¬ (pAl 703 (pN (pG J x))) 0 4 = 0) → (MBT J' (tbz J) ∧ MUr J' pn RR) ∧ MFI J' J) ∧ ((0 ≤ x ∧ x ≤ J 164 19) → (pAl 703 (pN (pG J x))) 0 4 = 0 → (MBT J' (BS (pAl 703 (pN (pG J x)))) ∧ J' 164 10 = 0) ∧ (pAl 703 (pN (pG J x))) 165 166 = 0 ∧ (0 ≤ (pAl 703 (pN (pG J x))) 165 126 ∧ (pAl 703 (pN (pG J x))) 165 126 ≤ 400) ∧ (0 ≤ (pAl 703 (pN (pG J x))) 164 44 ∧ (pAl 703 (pN (pG J x))) 164 44 ≤ 10))))) (zX n 0 zN)) 0 0 n J1 91 [some (.ref 164), some (zi x), some (zi k)] [] := by
          intro f9
          induction f9 with
          | zero => intro k J1 hm9; exact absurd hm9 (Nat.not_lt_zero _)
          | succ f9 ih91 =>
            intro k J1 hm91 hk f1 e1 e2
            refine tz_iload_n (pc := 91) dX12_bank_91 rfl rfl ?_
            refine tz_bipush (pc := 92) dX12_bank_92 (by decide) ?_
            refine tz_icmp_ge (pc := 94) (tgt := 148) dX12_bank_94 (by decide) (by omega) (by decide) (fun h_94 => ?_) (fun h_94 => ?_)
            · have f3 : zOf (zbut [164, 165, 166, 167, 168, 169, 170, 171]) (zup (zup (zup J1 164 14 0) 164 11 0) 164 10 0) J_39 := zOf.up rfl (zOf.up rfl (zOf.up rfl ((f1.mono (zbut_sub (fun c hc => by simp at hc ⊢; omega))).tr (zOf.up rfl (zOf.mv rfl (v_69.1.mono (zbut_sub (fun c hc => by simp at hc ⊢; omega))))))))
              have LOB : ∀ c, c < 164 ∨ c = 173 → (zup (zup (zup J1 164 14 0) 164 11 0) 164 10 0) c = J c := fun c hc => (f3 c (zbut_lo (by decide) hc)).trans (i_39.2.1 c hc)
              have LO9 : (zup (zup (zup J1 164 14 0) 164 11 0) 164 10 0) 164 19 = 0 := by show J1 164 19 = 0; rw [f1 164 rfl]; show J_69 164 19 = 0; rw [v_69.1 164 rfl]; exact i_39.2.2
              have LO8 : (zup (zup (zup J1 164 14 0) 164 11 0) 164 10 0) 164 8 = 0 := by show J1 164 8 = 0; rw [f1 164 rfl]; show J_69 164 8 = 0; rw [v_69.1 164 rfl]; exact g8
              have LO20 : (pAl 703 (pN (pG J x))) 0 4 = 0 → (zup (zup (zup J1 164 14 0) 164 11 0) 164 10 0) 164 20 = -1 := fun q => by show J1 164 20 = -1; rw [f1 164 rfl]; show J_69 164 20 = -1; rw [v_69.1 164 rfl]; exact (v_39.2.2 q).1.2.2.1.2.2.2
              refine tz_aload_n (pc := 148) dX12_bank_148 rfl rfl ?_
              refine tz_aload_n (pc := 149) dX12_bank_149 rfl rfl ?_
              refine tz_aload_n (pc := 150) dX12_bank_150 rfl rfl ?_
              refine tz_iconst (pc := 151) dX12_bank_151 ?_
              refine tz_dup_x1 (pc := 152) dX12_bank_152 rfl rfl ?_
              refine tz_pI (pc := 153) (kz := 14) dX12_bank_153 fl_X12_350 i_164_14 rfl rfl (by decide) ?_
              refine tz_dup_x1 (pc := 156) dX12_bank_156 rfl rfl ?_
              refine tz_pI (pc := 157) (kz := 11) dX12_bank_157 fl_X12_353 i_164_11 rfl rfl (by decide) ?_
              refine tz_pI (pc := 160) (kz := 10) dX12_bank_160 fl_X12_356 i_164_10 rfl rfl (by decide) ?_
              refine tz_iconst (pc := 163) dX12_bank_163 ?_
              exact tz_iret (pc := 164) (z := 0) dX12_bank_164 rfl (Nat.le_of_ble_eq_true rfl) (Nat.le_of_ble_eq_true rfl) ⟨Nat.le_refl _, Nat.le_add_right _ _⟩ ⟨_, rfl, (by decide), ⟨⟨⟨m9, MI.bank i_39.1 i_39.2.2 t9 v_69 f1 (fun q a b => (e1 q a (by omega)).2.1)⟩, fun c hc => LOB c hc, (f3 183 rfl).trans ((r_39.1 183 rfl).trans rfl), Or.inl ⟨by omega, by omega, LO9, LO8, by omega, fun q => absurd q (by omega), fun q => ⟨LO20 q, rfl⟩⟩⟩, fun q => absurd q (by rw [← v_39.1]; omega), fun _ q => MI.bankX (v_39.2.2 q).1 t9 v_69 f1 (fun q a b => e1 q a (by omega))⟩⟩
            · refine tz_aload_n (pc := 97) dX12_bank_97 rfl rfl ?_
              refine tz_fR (pc := 98) dX12_bank_98 fl_X12_22 r_164_4 ?_
              refine tz_iload_n (pc := 101) dX12_bank_101 rfl rfl ?_
              refine tz_aload_n (pc := 102) dX12_bank_102 rfl rfl ?_
              refine tz_fR (pc := 103) dX12_bank_103 fl_X12_22 r_164_4 ?_
              refine tz_bipush (pc := 106) dX12_bank_106 (by decide) ?_
              refine tz_iload_n (pc := 108) dX12_bank_108 rfl rfl ?_
              refine tz_iadd (pc := 109) (v := 10 + k) dX12_bank_109 rfl ?_
              refine tz_aL (pc := 110) (z := (10 + k)) (v := (J1 169 (10 + k))) dX12_bank_110 a_169 rfl (by omega) rfl (fun r_110 => ?_)
              refine tz_aS (pc := 111) (z := k) dX12_bank_111 a_169 rfl (by omega) (by omega) ?_
              refine tz_aload_n (pc := 112) dX12_bank_112 rfl rfl ?_
              refine tz_fR (pc := 113) dX12_bank_113 fl_X12_25 r_164_5 ?_
              refine tz_iload_n (pc := 116) dX12_bank_116 rfl rfl ?_
              refine tz_aload_n (pc := 117) dX12_bank_117 rfl rfl ?_
              refine tz_fR (pc := 118) dX12_bank_118 fl_X12_25 r_164_5 ?_
              refine tz_bipush (pc := 121) dX12_bank_121 (by decide) ?_
              refine tz_iload_n (pc := 123) dX12_bank_123 rfl rfl ?_
              refine tz_iadd (pc := 124) (v := 10 + k) dX12_bank_124 rfl ?_
              refine tz_aL (pc := 125) (z := (10 + k)) (v := (J1 170 (10 + k))) dX12_bank_125 a_170 rfl (by omega) rfl (fun r_125 => ?_)
              refine tz_aS (pc := 126) (z := k) dX12_bank_126 a_170 rfl (by omega) (by omega) ?_
              refine tz_aload_n (pc := 127) dX12_bank_127 rfl rfl ?_
              refine tz_fR (pc := 128) dX12_bank_128 fl_X12_28 r_164_6 ?_
              refine tz_iload_n (pc := 131) dX12_bank_131 rfl rfl ?_
              refine tz_aload_n (pc := 132) dX12_bank_132 rfl rfl ?_
              refine tz_fR (pc := 133) dX12_bank_133 fl_X12_28 r_164_6 ?_
              refine tz_bipush (pc := 136) dX12_bank_136 (by decide) ?_
              refine tz_iload_n (pc := 138) dX12_bank_138 rfl rfl ?_
              refine tz_iadd (pc := 139) (v := 10 + k) dX12_bank_139 rfl ?_
              refine tz_aL (pc := 140) (z := (10 + k)) (v := (J1 171 (10 + k))) dX12_bank_140 a_171 rfl (by omega) rfl (fun r_140 => ?_)
              refine tz_aS (pc := 141) (z := k) dX12_bank_141 a_171 rfl (by omega) (by omega) ?_
              refine tz_iinc (pc := 142) (z := k + 1) (L2 := [_, _, _]) dX12_bank_142 rfl (by omega) rfl ?_
              refine tz_goto (pc := 145) (tgt := 91) dX12_bank_145 (by decide) ?_
              exact ih91 (k + 1) _ (by omega) (by omega) (zOf.up rfl (zOf.up rfl (zOf.up rfl f1))) (fun q a b => (Decidable.em (q = k)).elim (fun e => by rw [e]; show (if k = k then J1 169 (10 + k) else J1 169 k) = _ ∧ (if k = k then J1 170 (10 + k) else J1 170 k) = _ ∧ (if k = k then J1 171 (10 + k) else J1 171 k) = _; rw [if_pos rfl, if_pos rfl, if_pos rfl]; exact e2 _ (by omega)) (fun e => by show (if q = k then J1 169 (10 + k) else J1 169 q) = _ ∧ (if q = k then J1 170 (10 + k) else J1 170 q) = _ ∧ (if q = k then J1 171 (10 + k) else J1 171 q) = _; rw [if_neg e, if_neg e, if_neg e]; exact e1 q a (by omega))) (fun q a => by show (if q = k then J1 169 (10 + k) else J1 169 q) = _ ∧ (if q = k then J1 170 (10 + k) else J1 170 q) = _ ∧ (if q = k then J1 171 (10 + k) else J1 171 q) = _; rw [if_neg (by omega), if_neg (by omega), if_neg (by omega)]; exact e2 q a)
        exact loop91 _ 0 _ (Nat.lt_succ_self _) (by omega) zOf.rf (fun q a b => by omega) (fun q a => ⟨congrFun (v_69.1 169 rfl) q, congrFun (v_69.1 170 rfl) q, congrFun (v_69.1 171 rfl) q⟩)
      · refine tz_aload_n (pc := 49) dX12_bank_49 rfl rfl ?_
        refine tz_fR (pc := 50) dX12_bank_50 fl_X12_31 r_164_7 ?_
        refine tz_iconst (pc := 53) dX12_bank_53 ?_
        refine tz_dup2 (pc := 54) dX12_bank_54 rfl rfl ?_
        refine tz_aL (pc := 55) (z := 0) (v := (J_39 172 0)) dX12_bank_55 a_172 rfl (by decide) rfl (fun r_55 => ?_)
        refine tz_iconst (pc := 56) dX12_bank_56 ?_
        refine tz_iadd (pc := 57) (v := (J_39 172 0) + 1) dX12_bank_57 rfl ?_
        refine tz_tw ?_
        have rw_58 := zw_rg ((J_39 172 0) + 1)
        refine tz_aS (pc := 58) (z := 0) dX12_bank_58 a_172 rfl (by decide) (zw_rg _) ?_
        refine tz_aload_n (pc := 59) dX12_bank_59 rfl rfl ?_
        refine tz_fI (pc := 60) (kz := 43) (v := (J_39 164 43)) dX12_bank_60 fl_X12_273 i_164_43 rfl rfl (fun r_60 => ?_)
        exact tz_iret (pc := 63) (z := (J_39 164 43)) dX12_bank_63 rfl (Nat.le_of_ble_eq_true rfl) (Nat.le_of_ble_eq_true rfl) ⟨Nat.le_refl _, Nat.le_add_right _ _⟩ ⟨_, rfl, (by omega), (by have y9 := MBT.rd hI r_39 u9; have z9 : zOf (zbut [172]) ((zup J_39 172 0 (zw ((J_39 172 0) + 1)))) J_39 := zOf.up rfl zOf.rf; exact ⟨⟨⟨m, i_39.1.z (MZ.c (zOf.up rfl zOf.rf : zOf (zbut [172]) _ _) (by decide))⟩, fun c hc => (zup_nc (by omega)).trans (i_39.2.1 c hc), (r_39.1 183 rfl).trans rfl, Or.inl ⟨by omega, by omega, i_39.2.2, g8, v_39.1, fun q => ⟨v_39.2.1 q, g14⟩, fun q => absurd q (by omega)⟩⟩, fun _ => ⟨⟨y9.1.1.x z9, y9.1.2.x z9⟩, y9.2.tr (MFI.x z9)⟩, fun _ q => absurd q (by rw [← v_39.1]; omega)⟩)⟩

