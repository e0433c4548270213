/-! ===== feed and bank of the reference ===== -/
theorem fdM {J1 : zJ} {T : Int → Int} {p k v a b c d e : Int} (hk : 0 ≤ k) (hv : v = fB a b c d e k) (t : ∀ x, J1 173 x = if p ≤ x ∧ x < p + k then fB a b c d e (x - p) else T x) : ∀ x, zup J1 173 (p + k) v 173 x = if p ≤ x ∧ x < p + (k + 1) then fB a b c d e (x - p) else T x := fun x => by
  show (if x = p + k then v else J1 173 x) = _
  by_cases q : x = p + k
  · rw [if_pos q, if_pos (by omega), hv, show x - p = k from by omega]
  · rw [if_neg q, t x]
    by_cases r : p ≤ x ∧ x < p + k
    · rw [if_pos r, if_pos (by omega)]
    · rw [if_neg r, if_neg (by omega)]
set_option maxHeartbeats 4000000 in
set_option maxRecDepth 100000 in
theorem x_right1 {l : Launch} {G : tb_G} (hl : l.stackTraces = false) (n : Nat) (J : zJ)    (h8 : J 164 8 = 0) : tz_Ok l G M_X12_right 0 0 0 [.ref 164, zi 1, zi 1] n J (zqi (fun z J' => J = J' ∧ 1 = z)) zN := by
  refine tz_Ok.of hl (by decide +kernel) rfl (tb_c1 rfl) (Nat.le_of_ble_eq_true rfl) ?_
  show tz_At l G M_X12_right (tb_rm 0 0 0) none (tb_ZM G 0 0 (zQ n 0 (zqi (fun z J' => J = J' ∧ 1 = z))) (zX n 0 zN)) 0 0 n J 0 [some (.ref 164), some (zi 1), some (zi 1)] []
  refine tz_aload_n (pc := 0) dX12_right_0 rfl rfl ?_
  refine tz_fI (pc := 1) (kz := 8) (v := 0) dX12_right_1 fl_X12_68 i_164_8 rfl h8 (fun _ => ?_)
  refine tz_if_neF (pc := 4) (tgt := 16) (by decide) dX12_right_4 (by decide) (by decide) ?_
  refine tz_iload_n (pc := 7) dX12_right_7 rfl rfl ?_
  refine tz_if_neT (pc := 8) (tgt := 16) (by decide) dX12_right_8 (by decide) (by decide) ?_
  refine tz_aload_n (pc := 16) dX12_right_16 rfl rfl ?_
  refine tz_fI (pc := 17) (kz := 8) (v := 0) dX12_right_17 fl_X12_68 i_164_8 rfl h8 (fun _ => ?_)
  refine tz_if_neF (pc := 20) (tgt := 27) (by decide) dX12_right_20 (by decide) (by decide) ?_
  refine tz_iconst (pc := 23) dX12_right_23 ?_
  refine tz_goto (pc := 24) (tgt := 28) dX12_right_24 (by decide) ?_
  exact tz_zret (pc := 28) (z := 1) dX12_right_28 rfl (Or.inr rfl) (Nat.le_of_ble_eq_true rfl) (Nat.le_of_ble_eq_true rfl) ⟨Nat.le_refl _, Nat.le_add_right _ _⟩ ⟨_, rfl, (by decide), ⟨rfl, rfl⟩⟩

set_option maxHeartbeats 4000000 in
set_option maxRecDepth 100000 in
theorem x_right0 {l : Launch} {G : tb_G} (hl : l.stackTraces = false) (n : Nat) (J : zJ)    (h8 : J 164 8 = 0) : tz_Ok l G M_X12_right 0 0 0 [.ref 164, zi 0, zi 1] n J (zqi (fun z J' => zup J 164 8 1 = J' ∧ 0 = z)) zN := by
  refine tz_Ok.of hl (by decide +kernel) rfl (tb_c1 rfl) (Nat.le_of_ble_eq_true rfl) ?_
  show tz_At l G M_X12_right (tb_rm 0 0 0) none (tb_ZM G 0 0 (zQ n 0 (zqi (fun z J' => zup J 164 8 1 = J' ∧ 0 = z))) (zX n 0 zN)) 0 0 n J 0 [some (.ref 164), some (zi 0), some (zi 1)] []
  refine tz_aload_n (pc := 0) dX12_right_0 rfl rfl ?_
  refine tz_fI (pc := 1) (kz := 8) (v := 0) dX12_right_1 fl_X12_68 i_164_8 rfl h8 (fun _ => ?_)
  refine tz_if_neF (pc := 4) (tgt := 16) (by decide) dX12_right_4 (by decide) (by decide) ?_
  refine tz_iload_n (pc := 7) dX12_right_7 rfl rfl ?_
  refine tz_if_neF (pc := 8) (tgt := 16) (by decide) dX12_right_8 (by decide) (by decide) ?_
  refine tz_aload_n (pc := 11) dX12_right_11 rfl rfl ?_
  refine tz_iload_n (pc := 12) dX12_right_12 rfl rfl ?_
  refine tz_pI (pc := 13) (kz := 8) dX12_right_13 fl_X12_68 i_164_8 rfl rfl (by decide) ?_
  refine tz_aload_n (pc := 16) dX12_right_16 rfl rfl ?_
  refine tz_fI (pc := 17) (kz := 8) (v := 1) dX12_right_17 fl_X12_68 i_164_8 rfl rfl (fun _ => ?_)
  refine tz_if_neT (pc := 20) (tgt := 27) (by decide) dX12_right_20 (by decide) (by decide) ?_
  refine tz_iconst (pc := 27) dX12_right_27 ?_
  exact tz_zret (pc := 28) (z := 0) dX12_right_28 rfl (Or.inl rfl) (Nat.le_of_ble_eq_true rfl) (Nat.le_of_ble_eq_true rfl) ⟨Nat.le_refl _, Nat.le_add_right _ _⟩ ⟨_, rfl, (by decide), ⟨rfl, rfl⟩⟩

theorem QR.n {J f : zJ} {x : Int} (h : QR J (pAl 703 (pN (pG f x)))) (hx : 0 ≤ x ∧ x ≤ 700) : J 164 43 = (pAl 703 (pN (pG f x))) 0 4 ∧ (¬ (pAl 703 (pN (pG f x))) 0 4 = 0 → J 164 20 = (pAl 703 (pN (pG f x))) 0 5) ∧ ((pAl 703 (pN (pG f x))) 0 4 = 0 → EM J (pAl 703 (pN (pG f x))) ∧ WOK J) := h.resolve_left (pAl_g 703 _ (GB.g0 hx)).2.1
