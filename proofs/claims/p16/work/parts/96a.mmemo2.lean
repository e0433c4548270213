/-! ===== the memo of the reference, exact ===== -/
theorem ml_x {J1 J : zJ} {i j c : Int} (x : ∀ k, J1 165 k = if k = 40 then J 165 40 - 1 else if 41 + 2 * i ≤ k ∧ k < 41 + j then J 165 (k + 2) else J 165 k) (hi : 0 ≤ i) (hj : 2 * i ≤ j) (hc : c = J1 165 (41 + j + 2)) : ∀ k, zup J1 165 (41 + j) c 165 k = if k = 40 then J 165 40 - 1 else if 41 + 2 * i ≤ k ∧ k < 41 + (j + 1) then J 165 (k + 2) else J 165 k := fun k => by
  by_cases e : k = 41 + j
  · subst e
    rw [zup_at, hc, x, if_neg (by omega), if_neg (by omega), if_neg (by omega), if_pos (by omega)]
  · rw [zup_ne e, x k]
    by_cases a : k = 40
    · rw [if_pos a, if_pos a]
    · rw [if_neg a, if_neg a]
      by_cases q : 41 + 2 * i ≤ k ∧ k < 41 + j
      · rw [if_pos q, if_pos (by omega)]
      · rw [if_neg q, if_neg (by omega)]
theorem ml_e {J1 J : zJ} {i j : Int} (x : ∀ k, J1 165 k = if k = 40 then J 165 40 - 1 else if 41 + 2 * i ≤ k ∧ k < 41 + j then J 165 (k + 2) else J 165 k) (hj : j = 2 * (J 165 40 - 1)) : J1 165 = mlO (J 165) i := funext fun k => by
  rw [x k, hj]
  rfl
set_option maxHeartbeats 4000000 in
set_option maxRecDepth 100000 in
theorem x_memoAt {l : Launch} {G : tb_G} (hl : l.stackTraces = false) (n : Nat) (J : zJ) (t : Int) (hr_t : -2147483648 ≤ t ∧ t < 2147483648) (m : Int) (hm : MM (J 165) m) : tz_Ok l G M_X12_memoAt 0 0 0 [.ref 164, zi t] n J (zqi (fun z J' => J = J' ∧ ((z = -1 ∧ ∀ q, 0 ≤ q → q < J 165 40 → ¬ J 165 (41 + 2 * q) = t) ∨ ((0 ≤ z ∧ z < J 165 40) ∧ J 165 (41 + 2 * z) = t ∧ ∀ q, 0 ≤ q → q < z → ¬ J 165 (41 + 2 * q) = t)))) zN := by
  refine tz_Ok.of hl (by decide +kernel) rfl (tb_c1 rfl) (Nat.le_of_ble_eq_true rfl) ?_
  show tz_At l G M_X12_memoAt (tb_rm 0 0 0) none (tb_ZM G 0 0 (zQ n 0 (zqi (fun z J' => J = J' ∧ ((z = -1 ∧ ∀ q, 0 ≤ q → q < J 165 40 → ¬ J 165 (41 + 2 * q) = t) ∨ ((0 ≤ z ∧ z < J 165 40) ∧ J 165 (41 + 2 * z) = t ∧ ∀ q, 0 ≤ q → q < z → ¬ J 165 (41 + 2 * q) = t))))) (zX n 0 zN)) 0 0 n J 0 [some (.ref 164), some (zi t), none] []
  obtain ⟨m1, m2, m3⟩ := id hm
  refine tz_iconst (pc := 0) dX12_memoAt_0 ?_
  refine tz_istore_n (pc := 1) (L2 := [_, _, _]) dX12_memoAt_1 rfl (by decide) rfl ?_
  have loop2 : ∀ (f9 : Nat) (k : Int), ((J 165 40 - k).toNat) < f9 → (0 ≤ k ∧ k ≤ J 165 40) → (∀ q, 0 ≤ q → q < k → ¬ J 165 (41 + 2 * q) = t) → tz_At l G M_X12_memoAt (tb_rm 0 0 0) none (tb_ZM G 0 0 (zQ n 0 (zqi (fun z J' => J = J' ∧ ((z = -1 ∧ ∀ q, 0 ≤ q → q < J 165 40 → ¬ J 165 (41 + 2 * q) = t) ∨ ((0 ≤ z ∧ z < J 165 40) ∧ J 165 (41 + 2 * z) = t ∧ ∀ q, 0 ≤ q → q < z → ¬ J 165 (41 + 2 * q) = t))))) (zX n 0 zN)) 0 0 n J 2 [some (.ref 164), some (zi t), some (zi k)] [] := by
    intro f9
    induction f9 with
    | zero => intro k hm9; exact absurd hm9 (Nat.not_lt_zero _)
    | succ f9 ih2 =>
      intro k hm2 hk hn
      refine tz_iload_n (pc := 2) dX12_memoAt_2 rfl rfl ?_
      refine tz_aload_n (pc := 3) dX12_memoAt_3 rfl rfl ?_
      refine tz_fR (pc := 4) dX12_memoAt_4 fl_X12_9 r_164_0 ?_
      refine tz_bipush (pc := 7) dX12_memoAt_7 (by decide) ?_
      refine tz_aL (pc := 9) (z := 40) (v := (J 165 40)) dX12_memoAt_9 a_165 rfl (by decide) rfl (fun r_9 => ?_)
      refine tz_icmp_ge (pc := 10) (tgt := 36) dX12_memoAt_10 (by decide) (by omega) (by omega) (fun h_10 => ?_) (fun h_10 => ?_)
      · refine tz_iconst (pc := 36) dX12_memoAt_36 ?_
        exact tz_iret (pc := 37) (z := (-1)) dX12_memoAt_37 rfl (Nat.le_of_ble_eq_true rfl) (Nat.le_of_ble_eq_true rfl) ⟨Nat.le_refl _, Nat.le_add_right _ _⟩ ⟨_, rfl, (by decide), (by first | exact ⟨rfl, Or.inr ⟨by omega, by omega, hn⟩⟩ | exact ⟨rfl, Or.inl ⟨rfl, fun q a c => hn q a (by omega)⟩⟩)⟩
      · refine tz_aload_n (pc := 13) dX12_memoAt_13 rfl rfl ?_
        refine tz_fR (pc := 14) dX12_memoAt_14 fl_X12_9 r_164_0 ?_
        refine tz_bipush (pc := 17) dX12_memoAt_17 (by decide) ?_
        refine tz_iconst (pc := 19) dX12_memoAt_19 ?_
        refine tz_iload_n (pc := 20) dX12_memoAt_20 rfl rfl ?_
        refine tz_imul (pc := 21) (v := 2 * k) dX12_memoAt_21 rfl ?_
        refine tz_iadd (pc := 22) (v := 41 + (2 * k)) dX12_memoAt_22 rfl ?_
        refine tz_aL (pc := 23) (z := (41 + (2 * k))) (v := (J 165 (41 + (2 * k)))) dX12_memoAt_23 a_165 rfl (by omega) rfl (fun r_23 => ?_)
        refine tz_iload_n (pc := 24) dX12_memoAt_24 rfl rfl ?_
        refine tz_icmp_ne (pc := 25) (tgt := 30) dX12_memoAt_25 (by decide) (by omega) (by omega) (fun h_25 => ?_) (fun h_25 => ?_)
        · refine tz_iinc (pc := 30) (z := k + 1) (L2 := [_, _, _]) dX12_memoAt_30 rfl (by omega) rfl ?_
          refine tz_goto (pc := 33) (tgt := 2) dX12_memoAt_33 (by decide) ?_
          exact ih2 (k + 1) (by omega) (by omega) (fun q a c => (Decidable.em (q = k)).elim (fun e => by rw [e]; omega) (fun e => hn q a (by omega)))
        · refine tz_iload_n (pc := 28) dX12_memoAt_28 rfl rfl ?_
          exact tz_iret (pc := 29) (z := k) dX12_memoAt_29 rfl (Nat.le_of_ble_eq_true rfl) (Nat.le_of_ble_eq_true rfl) ⟨Nat.le_refl _, Nat.le_add_right _ _⟩ ⟨_, rfl, (by omega), (by first | exact ⟨rfl, Or.inr ⟨by omega, by omega, hn⟩⟩ | exact ⟨rfl, Or.inl ⟨rfl, fun q a c => hn q a (by omega)⟩⟩)⟩
  exact loop2 _ 0 (Nat.lt_succ_self _) (by omega) (fun q a c => by omega)

set_option maxHeartbeats 4000000 in
set_option maxRecDepth 100000 in
theorem x_memoLoses {l : Launch} {G : tb_G} (hl : l.stackTraces = false) (n : Nat) (J : zJ) (i : Int) (hr_i : -2147483648 ≤ i ∧ i < 2147483648) (m : Int) (hm : MM (J 165) m) (hi : 0 ≤ i ∧ i < J 165 40) : tz_Ok l G M_X12_memoLoses 0 0 0 [.ref 164, zi i] n J (zqv (fun J' => zOf (zbut [165]) J' J ∧ J' 165 = mlO (J 165) i)) zN := by
  refine tz_Ok.of hl (by decide +kernel) rfl (tb_c1 rfl) (Nat.le_of_ble_eq_true rfl) ?_
  show tz_At l G M_X12_memoLoses (tb_rm 0 0 0) none (tb_ZM G 0 0 (zQ n 0 (zqv (fun J' => zOf (zbut [165]) J' J ∧ J' 165 = mlO (J 165) i))) (zX n 0 zN)) 0 0 n J 0 [some (.ref 164), some (zi i), none] []
  obtain ⟨m1, m2, m3⟩ := id hm
  refine tz_aload_n (pc := 0) dX12_memoLoses_0 rfl rfl ?_
  refine tz_fR (pc := 1) dX12_memoLoses_1 fl_X12_9 r_164_0 ?_
  refine tz_bipush (pc := 4) dX12_memoLoses_4 (by decide) ?_
  refine tz_dup2 (pc := 6) dX12_memoLoses_6 rfl rfl ?_
  refine tz_aL (pc := 7) (z := 40) (v := (J 165 40)) dX12_memoLoses_7 a_165 rfl (by decide) rfl (fun r_7 => ?_)
  refine tz_iconst (pc := 8) dX12_memoLoses_8 ?_
  refine tz_isub (pc := 9) (v := (J 165 40) - 1) dX12_memoLoses_9 rfl ?_
  refine tz_aS (pc := 10) (z := 40) dX12_memoLoses_10 a_165 rfl (by decide) (by omega) ?_
  refine tz_iconst (pc := 11) dX12_memoLoses_11 ?_
  refine tz_iload_n (pc := 12) dX12_memoLoses_12 rfl rfl ?_
  refine tz_imul (pc := 13) (v := 2 * i) dX12_memoLoses_13 rfl ?_
  refine tz_istore_n (pc := 14) (L2 := [_, _, _]) dX12_memoLoses_14 rfl (by decide) rfl ?_
  have loop15 : ∀ (f9 : Nat) (j : Int) (J1 : zJ), ((2 * J 165 40 - j).toNat) < f9 → (2 * i ≤ j ∧ j ≤ 2 * (J 165 40 - 1)) → (MMf J1 J) → (J1 165 40 = J 165 40 - 1) → (∀ k, 0 ≤ k → k < 2 * J 165 40 → 0 ≤ J1 165 (41 + k) ∧ J1 165 (41 + k) < m) → (∀ k, J1 165 k = if k = 40 then J 165 40 - 1 else if 41 + 2 * i ≤ k ∧ k < 41 + j then J 165 (k + 2) else J 165 k) → tz_At l G M_X12_memoLoses (tb_rm 0 0 0) none (tb_ZM G 0 0 (zQ n 0 (zqv (fun J' => zOf (zbut [165]) J' J ∧ J' 165 = mlO (J 165) i))) (zX n 0 zN)) 0 0 n J1 15 [some (.ref 164), some (zi i), some (zi j)] [] := by
    intro f9
    induction f9 with
    | zero => intro j J1 hm9; exact absurd hm9 (Nat.not_lt_zero _)
    | succ f9 ih15 =>
      intro j J1 hm15 hj f1 h4 h3 x1
      refine tz_iload_n (pc := 15) dX12_memoLoses_15 rfl rfl ?_
      refine tz_iconst (pc := 16) dX12_memoLoses_16 ?_
      refine tz_aload_n (pc := 17) dX12_memoLoses_17 rfl rfl ?_
      refine tz_fR (pc := 18) dX12_memoLoses_18 fl_X12_9 r_164_0 ?_
      refine tz_bipush (pc := 21) dX12_memoLoses_21 (by decide) ?_
      refine tz_aL (pc := 23) (z := 40) (v := (J1 165 40)) dX12_memoLoses_23 a_165 rfl (by decide) rfl (fun r_23 => ?_)
      refine tz_imul (pc := 24) (v := 2 * (J1 165 40)) dX12_memoLoses_24 rfl ?_
      refine tz_icmp_ge (pc := 25) (tgt := 54) dX12_memoLoses_25 (by decide) (by omega) (by omega) (fun h_25 => ?_) (fun h_25 => ?_)
      · exact tz_vret (pc := 54) dX12_memoLoses_54 rfl (Nat.le_of_ble_eq_true rfl) (Nat.le_of_ble_eq_true rfl) ⟨Nat.le_refl _, Nat.le_add_right _ _⟩ ⟨rfl, ⟨f1.1, ml_e x1 (by omega)⟩⟩
      · refine tz_aload_n (pc := 28) dX12_memoLoses_28 rfl rfl ?_
        refine tz_fR (pc := 29) dX12_memoLoses_29 fl_X12_9 r_164_0 ?_
        refine tz_bipush (pc := 32) dX12_memoLoses_32 (by decide) ?_
        refine tz_iload_n (pc := 34) dX12_memoLoses_34 rfl rfl ?_
        refine tz_iadd (pc := 35) (v := 41 + j) dX12_memoLoses_35 rfl ?_
        refine tz_aload_n (pc := 36) dX12_memoLoses_36 rfl rfl ?_
        refine tz_fR (pc := 37) dX12_memoLoses_37 fl_X12_9 r_164_0 ?_
        refine tz_bipush (pc := 40) dX12_memoLoses_40 (by decide) ?_
        refine tz_iload_n (pc := 42) dX12_memoLoses_42 rfl rfl ?_
        refine tz_iadd (pc := 43) (v := 41 + j) dX12_memoLoses_43 rfl ?_
        refine tz_iconst (pc := 44) dX12_memoLoses_44 ?_
        refine tz_iadd (pc := 45) (v := (41 + j) + 2) dX12_memoLoses_45 rfl ?_
        refine tz_aL (pc := 46) (z := ((41 + j) + 2)) (v := (J1 165 ((41 + j) + 2))) dX12_memoLoses_46 a_165 rfl (by omega) rfl (fun r_46 => ?_)
        refine tz_aS (pc := 47) (z := (41 + j)) dX12_memoLoses_47 a_165 rfl (by omega) (by omega) ?_
        refine tz_iinc (pc := 48) (z := j + 1) (L2 := [_, _, _]) dX12_memoLoses_48 rfl (by omega) rfl ?_
        refine tz_goto (pc := 51) (tgt := 15) dX12_memoLoses_51 (by decide) ?_
        have hc9 := h3 (j + 2) (by omega) (by omega)
        rw [show 41 + (j + 2) = 41 + j + 2 by omega] at hc9
        exact ih15 (j + 1) _ (by omega) (by omega) (f1.up (by omega)) ((zup_ne (by omega)).trans h4) (ml_s h3 (by omega) hc9) (ml_x x1 (by omega) (by omega) rfl)
  exact loop15 _ _ _ (Nat.lt_succ_self _) (by omega) (MMf.rf.up (by omega)) zup_at (fun k a c => by rw [zup_ne (by omega)]; exact m3 k a (by omega)) (fun k => (Decidable.em (k = 40)).elim (fun e => by rw [e, zup_at, if_pos rfl]) (fun e => by rw [zup_ne e, if_neg e, if_neg (by omega)]))

set_option maxHeartbeats 4000000 in
set_option maxRecDepth 100000 in
theorem x_memoGets {l : Launch} {G : tb_G} (hl : l.stackTraces = false) (n : Nat) (J : zJ) (t : Int) (v : Int) (hr_t : -2147483648 ≤ t ∧ t < 2147483648) (hr_v : -2147483648 ≤ v ∧ v < 2147483648) (m : Int) (hm : MM (J 165) m) : tz_Ok l G M_X12_memoGets 1 0 0 [.ref 164, zi t, zi v] n J (zqv (fun J' => zOf (zbut [165]) J' J ∧ J' 165 = mgO (J 165) t v)) zN := by
  refine tz_Ok.of hl (by decide +kernel) rfl (tb_c1 rfl) (Nat.le_of_ble_eq_true rfl) ?_
  show tz_At l G M_X12_memoGets (tb_rm 1 0 0) none (tb_ZM G 0 0 (zQ n 0 (zqv (fun J' => zOf (zbut [165]) J' J ∧ J' 165 = mgO (J 165) t v))) (zX n 0 zN)) 0 0 n J 0 [some (.ref 164), some (zi t), some (zi v)] []
  obtain ⟨m1, m2, m3⟩ := id hm
  refine tz_aload_n (pc := 0) dX12_memoGets_0 rfl rfl ?_
  refine tz_fR (pc := 1) dX12_memoGets_1 fl_X12_9 r_164_0 ?_
  refine tz_bipush (pc := 4) dX12_memoGets_4 (by decide) ?_
  refine tz_aL (pc := 6) (z := 39) (v := (J 165 39)) dX12_memoGets_6 a_165 rfl (by decide) rfl (fun r_6 => ?_)
  refine tz_if_ne (pc := 7) (tgt := 11) dX12_memoGets_7 (by decide) (by omega) (fun h_7 => ?_) (fun h_7 => ?_)
  · refine tz_aload_n (pc := 11) dX12_memoGets_11 rfl rfl ?_
    refine tz_fR (pc := 12) dX12_memoGets_12 fl_X12_9 r_164_0 ?_
    refine tz_bipush (pc := 15) dX12_memoGets_15 (by decide) ?_
    refine tz_aL (pc := 17) (z := 40) (v := (J 165 40)) dX12_memoGets_17 a_165 rfl (by decide) rfl (fun r_17 => ?_)
    refine tz_aload_n (pc := 18) dX12_memoGets_18 rfl rfl ?_
    refine tz_fR (pc := 19) dX12_memoGets_19 fl_X12_9 r_164_0 ?_
    refine tz_bipush (pc := 22) dX12_memoGets_22 (by decide) ?_
    refine tz_aL (pc := 24) (z := 39) (v := (J 165 39)) dX12_memoGets_24 a_165 rfl (by decide) rfl (fun r_24 => ?_)
    refine tz_icmp_ne (pc := 25) (tgt := 33) dX12_memoGets_25 (by decide) (by omega) (by omega) (fun h_25 => ?_) (fun h_25 => ?_)
    · refine tz_aload_n (pc := 33) dX12_memoGets_33 rfl rfl ?_
      refine tz_fR (pc := 34) dX12_memoGets_34 fl_X12_9 r_164_0 ?_
      refine tz_bipush (pc := 37) dX12_memoGets_37 (by decide) ?_
      refine tz_iconst (pc := 39) dX12_memoGets_39 ?_
      refine tz_aload_n (pc := 40) dX12_memoGets_40 rfl rfl ?_
      refine tz_fR (pc := 41) dX12_memoGets_41 fl_X12_9 r_164_0 ?_
      refine tz_bipush (pc := 44) dX12_memoGets_44 (by decide) ?_
      refine tz_aL (pc := 46) (z := 40) (v := (J 165 40)) dX12_memoGets_46 a_165 rfl (by decide) rfl (fun r_46 => ?_)
      refine tz_imul (pc := 47) (v := 2 * (J 165 40)) dX12_memoGets_47 rfl ?_
      refine tz_iadd (pc := 48) (v := 41 + (2 * (J 165 40))) dX12_memoGets_48 rfl ?_
      refine tz_iload_n (pc := 49) dX12_memoGets_49 rfl rfl ?_
      refine tz_aS (pc := 50) (z := (41 + (2 * (J 165 40)))) dX12_memoGets_50 a_165 rfl (by omega) (by omega) ?_
      refine tz_aload_n (pc := 51) dX12_memoGets_51 rfl rfl ?_
      refine tz_fR (pc := 52) dX12_memoGets_52 fl_X12_9 r_164_0 ?_
      refine tz_bipush (pc := 55) dX12_memoGets_55 (by decide) ?_
      refine tz_iconst (pc := 57) dX12_memoGets_57 ?_
      refine tz_aload_n (pc := 58) dX12_memoGets_58 rfl rfl ?_
      refine tz_fR (pc := 59) dX12_memoGets_59 fl_X12_9 r_164_0 ?_
      refine tz_bipush (pc := 62) dX12_memoGets_62 (by decide) ?_
      refine tz_aL (pc := 64) (z := 40) (v := (J 165 40)) dX12_memoGets_64 a_165 rfl (by decide) (Eq.trans (show zup _ 165 (41 + (2 * (J 165 40))) t 165 40 = _ from zup_ne (by omega)) rfl) (fun r_64 => ?_)
      refine tz_imul (pc := 65) (v := 2 * (J 165 40)) dX12_memoGets_65 rfl ?_
      refine tz_iadd (pc := 66) (v := 41 + (2 * (J 165 40))) dX12_memoGets_66 rfl ?_
      refine tz_iconst (pc := 67) dX12_memoGets_67 ?_
      refine tz_iadd (pc := 68) (v := (41 + (2 * (J 165 40))) + 1) dX12_memoGets_68 rfl ?_
      refine tz_iload_n (pc := 69) dX12_memoGets_69 rfl rfl ?_
      refine tz_aS (pc := 70) (z := ((41 + (2 * (J 165 40))) + 1)) dX12_memoGets_70 a_165 rfl (by omega) (by omega) ?_
      refine tz_aload_n (pc := 71) dX12_memoGets_71 rfl rfl ?_
      refine tz_fR (pc := 72) dX12_memoGets_72 fl_X12_9 r_164_0 ?_
      refine tz_bipush (pc := 75) dX12_memoGets_75 (by decide) ?_
      refine tz_dup2 (pc := 77) dX12_memoGets_77 rfl rfl ?_
      refine tz_aL (pc := 78) (z := 40) (v := (J 165 40)) dX12_memoGets_78 a_165 rfl (by decide) (Eq.trans (show zup _ 165 ((41 + (2 * (J 165 40))) + 1) v 165 40 = _ from zup_ne (by omega)) (Eq.trans (show zup _ 165 (41 + (2 * (J 165 40))) t 165 40 = _ from zup_ne (by omega)) rfl)) (fun r_78 => ?_)
      refine tz_iconst (pc := 79) dX12_memoGets_79 ?_
      refine tz_iadd (pc := 80) (v := (J 165 40) + 1) dX12_memoGets_80 rfl ?_
      refine tz_aS (pc := 81) (z := 40) dX12_memoGets_81 a_165 rfl (by decide) (by omega) ?_
      exact tz_vret (pc := 82) dX12_memoGets_82 rfl (Nat.le_of_ble_eq_true rfl) (Nat.le_of_ble_eq_true rfl) ⟨Nat.le_refl _, Nat.le_add_right _ _⟩ ⟨rfl, ⟨zOf.up rfl (zOf.up rfl (zOf.up rfl zOf.rf)), by unfold mgO; rw [if_neg (by omega), if_neg (by omega)]; rfl⟩⟩
    · refine tz_aload_n (pc := 28) dX12_memoGets_28 rfl rfl ?_
      refine tz_iconst (pc := 29) dX12_memoGets_29 ?_
      refine tz_cV (pc := 30) (x_memoLoses hl n _ _ (by decide) m hm (by omega)) vl_X12_204 dX12_memoGets_30 o_164 rfl rfl (Nat.le_of_ble_eq_true rfl) ⟨(Nat.le_of_ble_eq_true rfl), (Nat.le_of_ble_eq_true rfl)⟩ rfl rfl (Nat.le_of_ble_eq_true rfl) (Nat.le_of_ble_eq_true rfl) (fun r9 J_30 hq9 => ?_)
      obtain ⟨rfl, f4, e4⟩ := hq9
      have o4 : ∀ k, (k < 40 ∨ 59 ≤ k) → J_30 165 k = J 165 k := fun k hk => by rw [e4]; exact mlO_o hk ⟨by decide, by omega⟩
      have e40 : J_30 165 40 = J 165 40 - 1 := by rw [e4]; exact if_pos rfl
      have hk0 : 40 ≤ 41 + 2 * J_30 165 40 ∧ 41 + 2 * J_30 165 40 < 59 := by omega
      have hk1 : 40 ≤ 41 + 2 * J_30 165 40 + 1 ∧ 41 + 2 * J_30 165 40 + 1 < 59 := by omega
      refine tz_aload_n (pc := 33) dX12_memoGets_33 rfl rfl ?_
      refine tz_fR (pc := 34) dX12_memoGets_34 fl_X12_9 r_164_0 ?_
      refine tz_bipush (pc := 37) dX12_memoGets_37 (by decide) ?_
      refine tz_iconst (pc := 39) dX12_memoGets_39 ?_
      refine tz_aload_n (pc := 40) dX12_memoGets_40 rfl rfl ?_
      refine tz_fR (pc := 41) dX12_memoGets_41 fl_X12_9 r_164_0 ?_
      refine tz_bipush (pc := 44) dX12_memoGets_44 (by decide) ?_
      refine tz_aL (pc := 46) (z := 40) (v := (J_30 165 40)) dX12_memoGets_46 a_165 rfl (by decide) rfl (fun r_46 => ?_)
      refine tz_imul (pc := 47) (v := 2 * (J_30 165 40)) dX12_memoGets_47 rfl ?_
      refine tz_iadd (pc := 48) (v := 41 + (2 * (J_30 165 40))) dX12_memoGets_48 rfl ?_
      refine tz_iload_n (pc := 49) dX12_memoGets_49 rfl rfl ?_
      refine tz_aS (pc := 50) (z := (41 + (2 * (J_30 165 40)))) dX12_memoGets_50 a_165 rfl (by omega) (by omega) ?_
      refine tz_aload_n (pc := 51) dX12_memoGets_51 rfl rfl ?_
      refine tz_fR (pc := 52) dX12_memoGets_52 fl_X12_9 r_164_0 ?_
      refine tz_bipush (pc := 55) dX12_memoGets_55 (by decide) ?_
      refine tz_iconst (pc := 57) dX12_memoGets_57 ?_
      refine tz_aload_n (pc := 58) dX12_memoGets_58 rfl rfl ?_
      refine tz_fR (pc := 59) dX12_memoGets_59 fl_X12_9 r_164_0 ?_
      refine tz_bipush (pc := 62) dX12_memoGets_62 (by decide) ?_
      refine tz_aL (pc := 64) (z := 40) (v := (J_30 165 40)) dX12_memoGets_64 a_165 rfl (by decide) (Eq.trans (show zup _ 165 (41 + (2 * (J_30 165 40))) t 165 40 = _ from zup_ne (by omega)) rfl) (fun r_64 => ?_)
      refine tz_imul (pc := 65) (v := 2 * (J_30 165 40)) dX12_memoGets_65 rfl ?_
      refine tz_iadd (pc := 66) (v := 41 + (2 * (J_30 165 40))) dX12_memoGets_66 rfl ?_
      refine tz_iconst (pc := 67) dX12_memoGets_67 ?_
      refine tz_iadd (pc := 68) (v := (41 + (2 * (J_30 165 40))) + 1) dX12_memoGets_68 rfl ?_
      refine tz_iload_n (pc := 69) dX12_memoGets_69 rfl rfl ?_
      refine tz_aS (pc := 70) (z := ((41 + (2 * (J_30 165 40))) + 1)) dX12_memoGets_70 a_165 rfl (by omega) (by omega) ?_
      refine tz_aload_n (pc := 71) dX12_memoGets_71 rfl rfl ?_
      refine tz_fR (pc := 72) dX12_memoGets_72 fl_X12_9 r_164_0 ?_
      refine tz_bipush (pc := 75) dX12_memoGets_75 (by decide) ?_
      refine tz_dup2 (pc := 77) dX12_memoGets_77 rfl rfl ?_
      refine tz_aL (pc := 78) (z := 40) (v := (J_30 165 40)) dX12_memoGets_78 a_165 rfl (by decide) (Eq.trans (show zup _ 165 ((41 + (2 * (J_30 165 40))) + 1) v 165 40 = _ from zup_ne (by omega)) (Eq.trans (show zup _ 165 (41 + (2 * (J_30 165 40))) t 165 40 = _ from zup_ne (by omega)) rfl)) (fun r_78 => ?_)
      refine tz_iconst (pc := 79) dX12_memoGets_79 ?_
      refine tz_iadd (pc := 80) (v := (J_30 165 40) + 1) dX12_memoGets_80 rfl ?_
      refine tz_aS (pc := 81) (z := 40) dX12_memoGets_81 a_165 rfl (by decide) (by omega) ?_
      exact tz_vret (pc := 82) dX12_memoGets_82 rfl (Nat.le_of_ble_eq_true rfl) (Nat.le_of_ble_eq_true rfl) ⟨Nat.le_refl _, Nat.le_add_right _ _⟩ ⟨rfl, ⟨zOf.up rfl (zOf.up rfl (zOf.up rfl f4)), by unfold mgO; rw [if_neg (by omega), if_pos (by omega), ← e4]; rfl⟩⟩
  · exact tz_vret (pc := 10) dX12_memoGets_10 rfl (Nat.le_of_ble_eq_true rfl) (Nat.le_of_ble_eq_true rfl) ⟨Nat.le_refl _, Nat.le_add_right _ _⟩ ⟨rfl, ⟨zOf.rf, by unfold mgO; rw [if_pos (by omega)]⟩⟩

