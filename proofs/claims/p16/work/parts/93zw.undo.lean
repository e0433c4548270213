/-! ===== undo, exact ===== -/
/-- the row is another one -/
def zun (S : zJ) (h : Int → Int) : zJ := fun c => if c = 165 then (fun k => if 0 ≤ k ∧ k < 63 then h k else S 165 k) else S c
theorem zun_5 {S : zJ} {h : Int → Int} {k : Int} (hk : 0 ≤ k ∧ k < 63) : zun S h 165 k = h k := by
  show (if 0 ≤ k ∧ k < 63 then h k else S 165 k) = h k
  rw [if_pos hk]
theorem A0.un {J' J S : zJ} {h : Int → Int} (E : A0 J S) (f : ∀ c, c = 1 ∨ c = 2 ∨ c = 3 ∨ c = 4 ∨ c = 7 ∨ c = 8 ∨ c = 9 ∨ c = 12 → J' c = J c) (h0 : J' 6 12 = h 0) (hm : h 0 ≤ S 165 0) : A0 J' (zun S h) := by
  have e0 : zun S h 165 0 = h 0 := zun_5 (by decide)
  have ec : ∀ c, ¬ c = 165 → zun S h c = S c := fun c q => if_neg q
  obtain ⟨E1, E2, E3, E4⟩ := E
  unfold A0
  rw [e0, ec 164 (by decide), ec 166 (by decide), ec 167 (by decide), ec 168 (by decide), ec 169 (by decide), ec 170 (by decide), ec 171 (by decide), f 1 (by omega), f 2 (by omega), f 3 (by omega), f 4 (by omega), f 7 (by omega), f 8 (by omega), f 9 (by omega), f 12 (by omega)]
  exact ⟨E1, h0, fun t a b => E3 t a (by omega), fun t i a b c d => E4 t i a (by omega) c d⟩
theorem x_undo {l : Launch} {G : tb_G} (hl : l.stackTraces = false) (n : Nat) (J : zJ) (m : Int) (hI : CI J m) (S : zJ) (pn : Int) (RR : Int → Int → Int) (cc : CAL J S pn RR) : tz_Ok l G M_X0_undoLast 4 0 0 [.ref 5] n J (zqi (fun z J' => CQ J' J ∧ ((pn = 0 ∧ z = -1 ∧ CAL J' S pn RR) ∨ (0 < pn ∧ z = pn - 1 ∧ CAL J' (zun S (RR (pn - 1))) (pn - 1) RR)))) zN := by
  have hr := hI.2.1
  have h1 := cc.2.2.1
  by_cases h6 : J 5 6 = 0
  · refine (c_undo4 hl n J h6).mono (fun r J' _ h => ?_) (fun E J' _ h => h)
    obtain ⟨z, e1, e2, e3, rfl⟩ := h
    exact ⟨z, e1, e2, CQ.rf hI, Or.inl ⟨by omega, e3.symm, cc⟩⟩
  · obtain ⟨⟨g1, g2⟩, g3⟩ := hI.2.2 (J 5 6 - 1) (by omega) (by omega)
    refine (c_undoN hl n J m (by omega) hr.1 hI.1.1.1 hI.1.1.2.1 g2).mono (fun r J' _ h => ?_) (fun E J' _ h => h)
    obtain ⟨z, e1, e2, e3, f, a, b, c⟩ := h
    refine ⟨z, e1, e2, ⟨⟨_, hI.undo (by omega) f a b c⟩, ?_, (f 0 rfl).trans rfl, (f.mono (fun c hc => by have := of_decide_eq_true hc; simp [zbut]; omega)).tr (zOf.up rfl zOf.rf)⟩, Or.inr ⟨by omega, by omega, ?_, ?_, ?_, fun k u v => ?_⟩⟩
    · rw [f 145 rfl]
      show J 145 10 ≤ _
      omega
    · have kw := cc.2.2.2 (pn - 1) (by omega) (by omega)
      rw [← h1] at kw ⊢
      have eb : J' 6 12 = J (zU ((J 5 5 + (J 5 6 - 1)) % 40)) 0 := by rw [b, zup_nc (by unfold zU; omega)]
      have m0 := cc.1.2.1
      have m1 := hI.1.1.2.1
      exact cc.1.un (fun c hc => (f c (by simp [zbut]; omega)).trans (zup_nc (by omega))) (eb.trans kw.2) (by rw [← kw.2]; omega)
    · have kw := cc.2.2.2 (pn - 1) (by omega) (by omega)
      rw [← h1] at kw ⊢
      have w := kw.1.of (f' := J' 19) g1 (fun k u v => by
        rw [a, zcp_in (by omega), zup_nc (by unfold zU; omega)]
        congr 1
        omega)
      exact w.to (hI.undo (by omega) f a b c).1.1.2.2 (fun k u v => zun_5 (by omega))
    · rw [f 5 rfl, zup_at]; omega
    · rw [f 5 rfl, show zup J 5 6 (J 5 6 - 1) 5 5 = J 5 5 from rfl, f (zU ((J 5 5 + k) % 40)) (by simp [zbut, zU]; omega), zup_nc (by unfold zU; omega)]
      exact cc.2.2.2 k u (by omega)
set_option maxHeartbeats 4000000 in
set_option maxRecDepth 100000 in
theorem v_undo {l : Launch} {G : tb_G} (hl : l.stackTraces = false) (n : Nat) (J : zJ)   (m : Int) (S : zJ) (pn : Int) (RR : Int → Int → Int) (hI : CI J m) (h9 : J 145 10 < 1000000000) (cc : CAL J S pn RR) : tz_Ok l G M_X11_undo 5 0 0 [.ref 0] n J (zqi (fun z J' => CQ J' J ∧ ((pn = 0 ∧ z = -1 ∧ CAL J' S pn RR) ∨ (0 < pn ∧ z = pn - 1 ∧ CAL J' (zun S (RR (pn - 1))) (pn - 1) RR)))) zN := by
  refine tz_Ok.of hl (by decide +kernel) rfl (tb_c1 rfl) (Nat.le_of_ble_eq_true rfl) ?_
  show tz_At l G M_X11_undo (tb_rm 5 0 0) none (tb_ZM G 0 0 (zQ n 0 (zqi (fun z J' => CQ J' J ∧ ((pn = 0 ∧ z = -1 ∧ CAL J' S pn RR) ∨ (0 < pn ∧ z = pn - 1 ∧ CAL J' (zun S (RR (pn - 1))) (pn - 1) RR))))) (zX n 0 zN)) 0 0 n J 0 [some (.ref 0)] []
  refine tz_aload_n (pc := 0) dX11_undo_0 rfl rfl ?_
  refine tz_fR (pc := 1) dX11_undo_1 fl_X11_29 r_0_1 ?_
  refine tz_cV (pc := 4) (x_undo hl n _ m hI S pn RR cc) vl_X11_375 dX11_undo_4 o_5 rfl rfl (Nat.le_of_ble_eq_true rfl) ⟨(Nat.le_of_ble_eq_true rfl), (Nat.le_of_ble_eq_true rfl)⟩ rfl rfl (Nat.le_of_ble_eq_true rfl) (Nat.le_of_ble_eq_true rfl) (fun r9 J_4 hq9 => ?_)
  obtain ⟨z_4, rfl, hz_4, c9, d9⟩ := hq9
  exact tz_iret (pc := 7) (z := z_4) dX11_undo_7 rfl (Nat.le_of_ble_eq_true rfl) (Nat.le_of_ble_eq_true rfl) ⟨Nat.le_refl _, Nat.le_add_right _ _⟩ ⟨_, rfl, (by omega), ⟨c9, d9⟩⟩

theorem mundo {J : zJ} {m pn : Int} {RR : Int → Int → Int} (h : MI J m) (u : MUr J pn RR) (hp : 0 < pn) : MBT (zmv (zup (zup J 164 8 0) 164 10 (J 164 10 - 1)) 165 (189 + 63 * ((J 164 11 + (J 164 10 - 1)) % 40)) 0 63) (zun (tbz J) (RR (pn - 1))) ∧ MUr (zmv (zup (zup J 164 8 0) 164 10 (J 164 10 - 1)) 165 (189 + 63 * ((J 164 11 + (J 164 10 - 1)) % 40)) 0 63) (pn - 1) RR ∧ MFI (zmv (zup (zup J 164 8 0) 164 10 (J 164 10 - 1)) 165 (189 + 63 * ((J 164 11 + (J 164 10 - 1)) % 40)) 0 63) J := by
  have hT := h.told
  have hu := u.1
  have hr : ∀ q, 0 ≤ q → q < 63 → J 165 (189 + 63 * ((J 164 11 + (J 164 10 - 1)) % 40) + q) = RR (pn - 1) q := fun q a b => by
    have := u.2 (pn - 1) (by omega) (by omega) q a b
    rw [← hu] at this
    rw [← hu]
    exact this
  have hc : RR (pn - 1) 0 ≤ m := by
    obtain ⟨⟨p1, p2, p3⟩, p4⟩ := h.2.2.1.pop (by omega)
    rw [← hr 0 (by decide) (by decide)]
    exact p3
  have f4 : ∀ k, ¬ k = 8 → ¬ k = 10 → zmv (zup (zup J 164 8 0) 164 10 (J 164 10 - 1)) 165 (189 + 63 * ((J 164 11 + (J 164 10 - 1)) % 40)) 0 63 164 k = J 164 k := fun k a b => by
    show zup (zup J 164 8 0) 164 10 (J 164 10 - 1) 164 k = _
    rw [zup_ne b, zup_ne a]
  have f10 : zmv (zup (zup J 164 8 0) 164 10 (J 164 10 - 1)) 165 (189 + 63 * ((J 164 11 + (J 164 10 - 1)) % 40)) 0 63 164 10 = J 164 10 - 1 := rfl
  have f5 : ∀ k, zmv (zup (zup J 164 8 0) 164 10 (J 164 10 - 1)) 165 (189 + 63 * ((J 164 11 + (J 164 10 - 1)) % 40)) 0 63 165 k = if 0 ≤ k ∧ k < 0 + 63 then J 165 (189 + 63 * ((J 164 11 + (J 164 10 - 1)) % 40) + (k - 0)) else J 165 k := fun k => rfl
  have fo : zOf (zbut [164, 165]) (zmv (zup (zup J 164 8 0) 164 10 (J 164 10 - 1)) 165 (189 + 63 * ((J 164 11 + (J 164 10 - 1)) % 40)) 0 63) J := zOf.mv rfl (zOf.up rfl (zOf.up rfl zOf.rf))
  generalize zmv (zup (zup J 164 8 0) 164 10 (J 164 10 - 1)) 165 (189 + 63 * ((J 164 11 + (J 164 10 - 1)) % 40)) 0 63 = J' at *
  have ec : ∀ c, ¬ c = 165 → zun (tbz J) (RR (pn - 1)) c = tbz J c := fun c q => if_neg q
  have e0 : zun (tbz J) (RR (pn - 1)) 165 0 = RR (pn - 1) 0 := zun_5 (by decide)
  have b := MBT.z h MZ.rf
  have s0 : tbz J 165 0 = m := hT.2.2.1
  refine ⟨⟨⟨?_, fun k a c => ?_⟩, fun k a c => ?_, fun t a c => ?_, fun k a c => ?_⟩, ⟨by omega, fun k a c q x y => ?_⟩, ⟨fun k a => by rw [f5, if_neg (by omega)], fun k _ _ => ⟨by rw [fo 166 rfl], by rw [fo 168 rfl]⟩, fun k _ _ => by rw [fo 167 rfl], f4 12 (by decide) (by decide), f4 13 (by decide) (by decide)⟩⟩
  · rw [f4 9 (by decide) (by decide), ec 164 (by decide)]; exact b.1.1
  · rw [fo 169 rfl, fo 170 rfl, fo 171 rfl, ec 169 (by decide), ec 170 (by decide), ec 171 (by decide)]; exact b.1.2 k a c
  · rw [f5, if_pos (by omega), zun_5 ⟨a, c⟩, show k - 0 = k from by omega]; exact hr k a c
  · rw [e0] at c
    rw [fo 166 rfl, fo 168 rfl, ec 166 (by decide), ec 168 (by decide)]; exact b.2.2.1 t a (by omega)
  · rw [e0] at c
    rw [fo 167 rfl, ec 167 (by decide)]; exact b.2.2.2 k a (by omega)
  · rw [f4 11 (by decide) (by decide), f5, if_neg (by omega)]
    exact u.2 k a (by omega) q x y
set_option maxHeartbeats 4000000 in
set_option maxRecDepth 100000 in
theorem v_qundo {l : Launch} {G : tb_G} (hl : l.stackTraces = false) (n : Nat) (J : zJ)   (m : Int) (pn : Int) (RR : Int → Int → Int) (hI : MI J m) (u9 : MUr J pn RR) : tz_Ok l G M_X12_undo 1 0 0 [.ref 164] n J (zqi (fun z J' => MQr J' J ∧ MFI J' J ∧ ((pn = 0 ∧ z = -1 ∧ MBT J' (tbz J) ∧ MUr J' pn RR) ∨ (0 < pn ∧ z = pn - 1 ∧ MBT J' (zun (tbz J) (RR (pn - 1))) ∧ MUr J' (pn - 1) RR)))) zN := by
  refine tz_Ok.of hl (by decide +kernel) rfl (tb_c1 rfl) (Nat.le_of_ble_eq_true rfl) ?_
  show tz_At l G M_X12_undo (tb_rm 1 0 0) none (tb_ZM G 0 0 (zQ n 0 (zqi (fun z J' => MQr J' J ∧ MFI J' J ∧ ((pn = 0 ∧ z = -1 ∧ MBT J' (tbz J) ∧ MUr J' pn RR) ∨ (0 < pn ∧ z = pn - 1 ∧ MBT J' (zun (tbz J) (RR (pn - 1))) ∧ MUr J' (pn - 1) RR))))) (zX n 0 zN)) 0 0 n J 0 [some (.ref 164)] []
  have hT := hI.told
  have hW := hI.row
  have hM := hI.1
  have hL := hI.2.1
  have hu := u9.1
  refine tz_aload_n (pc := 0) dX12_undo_0 rfl rfl ?_
  refine tz_iconst (pc := 1) dX12_undo_1 ?_
  refine tz_pI (pc := 2) (kz := 8) dX12_undo_2 fl_X12_68 i_164_8 rfl rfl (by decide) ?_
  refine tz_aload_n (pc := 5) dX12_undo_5 rfl rfl ?_
  refine tz_fI (pc := 6) (kz := 10) (v := (J 164 10)) dX12_undo_6 fl_X12_356 i_164_10 rfl rfl (fun r_6 => ?_)
  refine tz_if_ne (pc := 9) (tgt := 14) dX12_undo_9 (by decide) (by omega) (fun h_9 => ?_) (fun h_9 => ?_)
  · refine tz_aload_n (pc := 14) dX12_undo_14 rfl rfl ?_
    refine tz_dup (pc := 15) dX12_undo_15 rfl ?_
    refine tz_fI (pc := 16) (kz := 10) (v := (J 164 10)) dX12_undo_16 fl_X12_356 i_164_10 rfl rfl (fun r_16 => ?_)
    refine tz_iconst (pc := 19) dX12_undo_19 ?_
    refine tz_isub (pc := 20) (v := (J 164 10) - 1) dX12_undo_20 rfl ?_
    refine tz_pI (pc := 21) (kz := 10) dX12_undo_21 fl_X12_356 i_164_10 rfl rfl (by omega) ?_
    refine tz_aload_n (pc := 24) dX12_undo_24 rfl rfl ?_
    refine tz_aload_n (pc := 25) dX12_undo_25 rfl rfl ?_
    refine tz_fI (pc := 26) (kz := 11) (v := (J 164 11)) dX12_undo_26 fl_X12_353 i_164_11 rfl rfl (fun r_26 => ?_)
    refine tz_aload_n (pc := 29) dX12_undo_29 rfl rfl ?_
    refine tz_fI (pc := 30) (kz := 10) (v := ((J 164 10) - 1)) dX12_undo_30 fl_X12_356 i_164_10 rfl rfl (fun r_30 => ?_)
    refine tz_cS (pc := 33) (m_keptAt hl n _ _ _ (by omega) (by omega) (by omega)) sl_X12_397 dX12_undo_33 rfl rfl (Nat.le_of_ble_eq_true rfl) ⟨(Nat.le_of_ble_eq_true rfl), (Nat.le_of_ble_eq_true rfl)⟩ rfl rfl (Nat.le_of_ble_eq_true rfl) (Nat.le_of_ble_eq_true rfl) (fun r9 J_33 hq9 => ?_)
    obtain ⟨z_33, rfl, hz_33, rfl, rfl⟩ := hq9
    refine tz_iconst (pc := 36) dX12_undo_36 ?_
    refine tz_bipush (pc := 37) dX12_undo_37 (by decide) ?_
    refine tz_cV (pc := 39) (zm_copies hl n _ _ _ _ (by omega) (by decide) (by decide) (by omega) (by omega)) vl_X12_343 dX12_undo_39 o_164 rfl rfl (Nat.le_of_ble_eq_true rfl) ⟨(Nat.le_of_ble_eq_true rfl), (Nat.le_of_ble_eq_true rfl)⟩ rfl rfl (Nat.le_of_ble_eq_true rfl) (Nat.le_of_ble_eq_true rfl) (fun r9 J_39 hq9 => ?_)
    obtain ⟨rfl, rfl⟩ := hq9
    refine tz_aload_n (pc := 42) dX12_undo_42 rfl rfl ?_
    refine tz_fI (pc := 43) (kz := 10) (v := ((J 164 10) - 1)) dX12_undo_43 fl_X12_356 i_164_10 rfl rfl (fun r_43 => ?_)
    exact tz_iret (pc := 46) (z := ((J 164 10) - 1)) dX12_undo_46 rfl (Nat.le_of_ble_eq_true rfl) (Nat.le_of_ble_eq_true rfl) ⟨Nat.le_refl _, Nat.le_add_right _ _⟩ ⟨_, rfl, (by omega), ⟨MI.undo hI (by omega), (mundo hI u9 (by omega)).2.2, Or.inr ⟨by omega, by omega, (mundo hI u9 (by omega)).1, (mundo hI u9 (by omega)).2.1⟩⟩⟩
  · refine tz_iconst (pc := 12) dX12_undo_12 ?_
    exact tz_iret (pc := 13) (z := (-1)) dX12_undo_13 rfl (Nat.le_of_ble_eq_true rfl) (Nat.le_of_ble_eq_true rfl) ⟨Nat.le_refl _, Nat.le_add_right _ _⟩ ⟨_, rfl, (by decide), ⟨MQr.z hI (MZ.up (k := 8) MZ.rf (by decide)), MFI.z (MZ.up (k := 8) MZ.rf (by decide)), Or.inl ⟨by omega, rfl, MBT.z hI (MZ.up (k := 8) MZ.rf (by decide)), u9.z (MZ.up (k := 8) MZ.rf (by decide))⟩⟩⟩

