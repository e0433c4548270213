theorem mar_c1 {J' J : zJ} {b d t : Int} (f : zOf (zbut [174]) J' J) : mar J' b d t = mar J b d t := by
  unfold mar
  rw [f 166 rfl, f 170 rfl]
set_option maxHeartbeats 4000000 in
set_option maxRecDepth 100000 in
theorem m_settledR {l : Launch} {G : tb_G} (hl : l.stackTraces = false) (n : Nat) : ∀ (r9 : Nat) (J : zJ) (t : Int) (hr_t : -2147483648 ≤ t ∧ t < 2147483648) (b r d s m : Int) (hM : MS J b r d s m) (hR : MR (J 165) m) (ht : 0 ≤ t ∧ t < m), ((J 168 (b + t)).toNat) < r9 → tz_Ok l G M_X12_isSettled (12 + 1 * r9) 0 0 [.ref 164, zi t] n J (zqi (fun z J' => (z = 0 ∨ z = 1) ∧ zOf (zbut [174]) J' J)) zN := by
  intro r9
  induction r9 with
  | zero => intro J t hr_t b r d s m hM hR ht hm9; exact absurd hm9 (Nat.not_lt_zero _)
  | succ r9 ih =>
    intro J t hr_t b r d s m hM hR ht hm9
    refine tz_Ok.of hl (by decide +kernel) rfl (tb_c1 rfl) (Nat.le_of_ble_eq_true rfl) ?_
    show tz_At l G M_X12_isSettled (tb_rm (12 + 1 * (r9 + 1)) 0 0) none (tb_ZM G 0 0 (zQ n 0 (zqi (fun z J' => (z = 0 ∨ z = 1) ∧ zOf (zbut [174]) J' J))) (zX n 0 zN)) 0 0 n J 0 [some (.ref 164), some (zi t), none] []
    obtain ⟨hM1, hM2, hM3, hM4, hM5, hM6⟩ := id hM
    have hT := hM.told
    have ha := hM.ar ht
    have hR1 := hR.1
    refine tz_iconst (pc := 0) dX12_isSettled_0 ?_
    refine tz_istore_n (pc := 1) (L2 := [_, _, _]) dX12_isSettled_1 rfl (by decide) rfl ?_
    have loop2 : ∀ (f9 : Nat) (k : Int) (J1 : zJ), ((8 - k).toNat) < f9 → (0 ≤ k ∧ k ≤ 8) → (zOf (zbut [174]) J1 J) → tz_At l G M_X12_isSettled (tb_rm (12 + 1 * (r9 + 1)) 0 0) none (tb_ZM G 0 0 (zQ n 0 (zqi (fun z J' => (z = 0 ∨ z = 1) ∧ zOf (zbut [174]) J' J))) (zX n 0 zN)) 0 0 n J1 2 [some (.ref 164), some (zi t), some (zi k)] [] := by
      intro f9
      induction f9 with
      | zero => intro k J1 hm9; exact absurd hm9 (Nat.not_lt_zero _)
      | succ f9 ih2 =>
        intro k J1 hm2 hk f1
        refine tz_iload_n (pc := 2) dX12_isSettled_2 rfl rfl ?_
        refine tz_aload_n (pc := 3) dX12_isSettled_3 rfl rfl ?_
        refine tz_fR (pc := 4) dX12_isSettled_4 fl_X12_9 r_164_0 ?_
        refine tz_bipush (pc := 7) dX12_isSettled_7 (by decide) ?_
        refine tz_aL (pc := 9) (z := 9) (v := (J 165 9)) dX12_isSettled_9 a_165 rfl (by decide) (Eq.trans (congrFun (f1 165 rfl) 9) rfl) (fun r_9 => ?_)
        refine tz_icmp_ge (pc := 10) (tgt := 40) dX12_isSettled_10 (by decide) (by omega) (by omega) (fun h_10 => ?_) (fun h_10 => ?_)
        · refine tz_iconst (pc := 40) dX12_isSettled_40 ?_
          refine tz_istore_n (pc := 41) (L2 := [_, _, _]) dX12_isSettled_41 rfl (by decide) rfl ?_
          have loop42 : ∀ (f9 : Nat) (i : Int) (J3 : zJ), ((3 - i).toNat) < f9 → (0 ≤ i ∧ i ≤ 3) → (zOf (zbut [174]) J3 J) → tz_At l G M_X12_isSettled (tb_rm (12 + 1 * (r9 + 1)) 0 0) none (tb_ZM G 0 0 (zQ n 0 (zqi (fun z J' => (z = 0 ∨ z = 1) ∧ zOf (zbut [174]) J' J))) (zX n 0 zN)) 0 0 n J3 42 [some (.ref 164), some (zi t), some (zi i)] [] := by
            intro f9
            induction f9 with
            | zero => intro i J3 hm9; exact absurd hm9 (Nat.not_lt_zero _)
            | succ f9 ih42 =>
              intro i J3 hm42 hi f3
              refine tz_iload_n (pc := 42) dX12_isSettled_42 rfl rfl ?_
              refine tz_aload_n (pc := 43) dX12_isSettled_43 rfl rfl ?_
              refine tz_iload_n (pc := 44) dX12_isSettled_44 rfl rfl ?_
              refine tz_cV (pc := 45) (m_arity hl n _ _ (by omega) b r d s m (hM.c1 f3 (by decide)) ht) vl_X12_111 dX12_isSettled_45 o_164 rfl rfl (Nat.le_of_ble_eq_true rfl) ⟨(show 2 + 1 ≤ 12 + 1 * (r9 + 1) by omega), (show 8 + (2 + 11) + 40 * (2) ≤ 40 * (12 + 1 * (r9 + 1)) by omega)⟩ rfl rfl (Nat.le_of_ble_eq_true rfl) (Nat.le_of_ble_eq_true rfl) (fun r9 J_45 hq9 => ?_)
              obtain ⟨za, rfl, hz_45, rfl, hv⟩ := hq9
              rw [mar_c1 (J := J) f3] at hv
              refine tz_icmp_ge (pc := 48) (tgt := 72) dX12_isSettled_48 (by decide) (by omega) (by omega) (fun h_48 => ?_) (fun h_48 => ?_)
              · refine tz_iconst (pc := 72) dX12_isSettled_72 ?_
                exact tz_zret (pc := 73) (z := 1) dX12_isSettled_73 rfl (Or.inr rfl) (Nat.le_of_ble_eq_true rfl) (Nat.le_of_ble_eq_true rfl) ⟨Nat.le_refl _, Nat.le_add_right _ _⟩ ⟨_, rfl, (by decide), ⟨by omega, f3⟩⟩
              · refine tz_aload_n (pc := 51) dX12_isSettled_51 rfl rfl ?_
                refine tz_aload_n (pc := 52) dX12_isSettled_52 rfl rfl ?_
                refine tz_iload_n (pc := 53) dX12_isSettled_53 rfl rfl ?_
                refine tz_iload_n (pc := 54) dX12_isSettled_54 rfl rfl ?_
                have hA := hM.arg (t := t) (i := i) ht (by omega)
                refine tz_cV (pc := 55) (m_arg hl n _ _ _ (by omega) (by omega) b r d s m (hM.c1 f3 (by decide)) ht (by omega)) vl_X12_88 dX12_isSettled_55 o_164 rfl rfl (Nat.le_of_ble_eq_true rfl) ⟨(show 0 + 1 ≤ 12 + 1 * (r9 + 1) by omega), (show 8 + (3 + 11) + 40 * (0) ≤ 40 * (12 + 1 * (r9 + 1)) by omega)⟩ rfl rfl (Nat.le_of_ble_eq_true rfl) (Nat.le_of_ble_eq_true rfl) (fun r9 J_55 hq9 => ?_)
                obtain ⟨zb, rfl, hz_55, rfl, hw⟩ := hq9
                rw [f3 167 rfl] at hw
                refine tz_cV (pc := 58) (ih _ _ (by omega) b r d s m (hM.c1 f3 (by decide)) (by rw [f3 165 rfl]; exact hR) (by omega) (by rw [f3 168 rfl, ← hw]; omega)) vl_X12_230 dX12_isSettled_58 o_164 rfl rfl (Nat.le_of_ble_eq_true rfl) ⟨(show (12 + 1 * r9) + 1 ≤ 12 + 1 * (r9 + 1) by omega), (show 8 + (3 + 11) + 40 * ((12 + 1 * r9)) ≤ 40 * (12 + 1 * (r9 + 1)) by omega)⟩ rfl rfl (Nat.le_of_ble_eq_true rfl) (Nat.le_of_ble_eq_true rfl) (fun r9 J_58 hq9 => ?_)
                obtain ⟨z_58, rfl, hz_58, b4, f4⟩ := hq9
                refine tz_if_ne (pc := 61) (tgt := 66) dX12_isSettled_61 (by decide) (by omega) (fun h_61 => ?_) (fun h_61 => ?_)
                · refine tz_iinc (pc := 66) (z := i + 1) (L2 := [_, _, _]) dX12_isSettled_66 rfl (by omega) rfl ?_
                  refine tz_goto (pc := 69) (tgt := 42) dX12_isSettled_69 (by decide) ?_
                  exact ih42 (i + 1) _ (by omega) (by omega) (f4.tr f3)
                · refine tz_iconst (pc := 64) dX12_isSettled_64 ?_
                  exact tz_zret (pc := 65) (z := 0) dX12_isSettled_65 rfl (Or.inl rfl) (Nat.le_of_ble_eq_true rfl) (Nat.le_of_ble_eq_true rfl) ⟨Nat.le_refl _, Nat.le_add_right _ _⟩ ⟨_, rfl, (by decide), ⟨by omega, f4.tr f3⟩⟩
          exact loop42 _ 0 _ (Nat.lt_succ_self _) (by omega) f1
        · refine tz_aload_n (pc := 13) dX12_isSettled_13 rfl rfl ?_
          refine tz_aload_n (pc := 14) dX12_isSettled_14 rfl rfl ?_
          refine tz_fR (pc := 15) dX12_isSettled_15 fl_X12_9 r_164_0 ?_
          refine tz_bipush (pc := 18) dX12_isSettled_18 (by decide) ?_
          refine tz_iconst (pc := 20) dX12_isSettled_20 ?_
          refine tz_iload_n (pc := 21) dX12_isSettled_21 rfl rfl ?_
          refine tz_imul (pc := 22) (v := 2 * k) dX12_isSettled_22 rfl ?_
          refine tz_iadd (pc := 23) (v := 10 + (2 * k)) dX12_isSettled_23 rfl ?_
          refine tz_aL (pc := 24) (z := (10 + (2 * k))) (v := (J 165 (10 + (2 * k)))) dX12_isSettled_24 a_165 rfl (by omega) (Eq.trans (congrFun (f1 165 rfl) (10 + (2 * k))) rfl) (fun r_24 => ?_)
          refine tz_iload_n (pc := 25) dX12_isSettled_25 rfl rfl ?_
          have hr9 := hR.2 k (by omega) (by omega)
          refine tz_cV (pc := 26) (m_doesMatch hl n _ _ _ (by omega) (by omega) b r d s m (hM.c1 f1 (by decide)) (by omega) ht) vl_X12_227 dX12_isSettled_26 o_164 rfl rfl (Nat.le_of_ble_eq_true rfl) ⟨(show 11 + 1 ≤ 12 + 1 * (r9 + 1) by omega), (show 8 + (4 + 11) + 40 * (11) ≤ 40 * (12 + 1 * (r9 + 1)) by omega)⟩ rfl rfl (Nat.le_of_ble_eq_true rfl) (Nat.le_of_ble_eq_true rfl) (fun r9 J_26 hq9 => ?_)
          obtain ⟨z_26, rfl, hz_26, b2, f2, g2⟩ := hq9
          refine tz_if_eq (pc := 29) (tgt := 34) dX12_isSettled_29 (by decide) (by omega) (fun h_29 => ?_) (fun h_29 => ?_)
          · refine tz_iinc (pc := 34) (z := k + 1) (L2 := [_, _, _]) dX12_isSettled_34 rfl (by omega) rfl ?_
            refine tz_goto (pc := 37) (tgt := 2) dX12_isSettled_37 (by decide) ?_
            exact ih2 (k + 1) _ (by omega) (by omega) (f2.tr f1)
          · refine tz_iconst (pc := 32) dX12_isSettled_32 ?_
            exact tz_zret (pc := 33) (z := 0) dX12_isSettled_33 rfl (Or.inl rfl) (Nat.le_of_ble_eq_true rfl) (Nat.le_of_ble_eq_true rfl) ⟨Nat.le_refl _, Nat.le_add_right _ _⟩ ⟨_, rfl, (by decide), ⟨by omega, f2.tr f1⟩⟩
    exact loop2 _ 0 _ (Nat.lt_succ_self _) (by omega) zOf.rf

theorem m_settled {l : Launch} {G : tb_G} (hl : l.stackTraces = false) (n : Nat) (J : zJ) (t : Int) (hr_t : -2147483648 ≤ t ∧ t < 2147483648) (b r d s m : Int) (hM : MS J b r d s m) (hR : MR (J 165) m) (ht : 0 ≤ t ∧ t < m) : tz_Ok l G M_X12_isSettled 19 0 0 [.ref 164, zi t] n J (zqi (fun z J' => (z = 0 ∨ z = 1) ∧ zOf (zbut [174]) J' J)) zN := m_settledR hl n 7 J t hr_t b r d s m hM hR ht (by have := (hM.ar ht).2.2.1; omega)
set_option maxHeartbeats 4000000 in
set_option maxRecDepth 100000 in
theorem m_entryOf {l : Launch} {G : tb_G} (hl : l.stackTraces = false) (n : Nat) (J : zJ) (t : Int) (hr_t : -2147483648 ≤ t ∧ t < 2147483648)  (h0 : 0 ≤ J 164 16 ∧ J 164 16 ≤ 126) (h1 : 0 ≤ J 165 (J 164 16 + 26) ∧ J 165 (J 164 16 + 26) ≤ 12) : tz_Ok l G M_X12_entryOf 0 0 0 [.ref 164, zi t] n J (zqi (fun z J' => J = J' ∧ (z = -1 ∨ (0 ≤ z ∧ z < J 165 (J 164 16 + 26))))) zN := by
  refine tz_Ok.of hl (by decide +kernel) rfl (tb_c1 rfl) (Nat.le_of_ble_eq_true rfl) ?_
  show tz_At l G M_X12_entryOf (tb_rm 0 0 0) none (tb_ZM G 0 0 (zQ n 0 (zqi (fun z J' => J = J' ∧ (z = -1 ∨ (0 ≤ z ∧ z < J 165 (J 164 16 + 26)))))) (zX n 0 zN)) 0 0 n J 0 [some (.ref 164), some (zi t), none] []
  refine tz_iconst (pc := 0) dX12_entryOf_0 ?_
  refine tz_istore_n (pc := 1) (L2 := [_, _, _]) dX12_entryOf_1 rfl (by decide) rfl ?_
  have loop2 : ∀ (f9 : Nat) (k : Int), ((12 - k).toNat) < f9 → (0 ≤ k ∧ k ≤ 12) → tz_At l G M_X12_entryOf (tb_rm 0 0 0) none (tb_ZM G 0 0 (zQ n 0 (zqi (fun z J' => J = J' ∧ (z = -1 ∨ (0 ≤ z ∧ z < J 165 (J 164 16 + 26)))))) (zX n 0 zN)) 0 0 n J 2 [some (.ref 164), some (zi t), some (zi k)] [] := by
    intro f9
    induction f9 with
    | zero => intro k hm9; exact absurd hm9 (Nat.not_lt_zero _)
    | succ f9 ih2 =>
      intro k hm2 hk
      refine tz_iload_n (pc := 2) dX12_entryOf_2 rfl rfl ?_
      refine tz_aload_n (pc := 3) dX12_entryOf_3 rfl rfl ?_
      refine tz_fR (pc := 4) dX12_entryOf_4 fl_X12_9 r_164_0 ?_
      refine tz_aload_n (pc := 7) dX12_entryOf_7 rfl rfl ?_
      refine tz_fI (pc := 8) (kz := 16) (v := (J 164 16)) dX12_entryOf_8 fl_X12_85 i_164_16 rfl rfl (fun r_8 => ?_)
      refine tz_bipush (pc := 11) dX12_entryOf_11 (by decide) ?_
      refine tz_iadd (pc := 13) (v := (J 164 16) + 26) dX12_entryOf_13 rfl ?_
      refine tz_aL (pc := 14) (z := ((J 164 16) + 26)) (v := (J 165 ((J 164 16) + 26))) dX12_entryOf_14 a_165 rfl (by omega) rfl (fun r_14 => ?_)
      refine tz_icmp_ge (pc := 15) (tgt := 44) dX12_entryOf_15 (by decide) (by omega) (by omega) (fun h_15 => ?_) (fun h_15 => ?_)
      · refine tz_iconst (pc := 44) dX12_entryOf_44 ?_
        exact tz_iret (pc := 45) (z := (-1)) dX12_entryOf_45 rfl (Nat.le_of_ble_eq_true rfl) (Nat.le_of_ble_eq_true rfl) ⟨Nat.le_refl _, Nat.le_add_right _ _⟩ ⟨_, rfl, (by decide), ⟨rfl, by omega⟩⟩
      · refine tz_aload_n (pc := 18) dX12_entryOf_18 rfl rfl ?_
        refine tz_fR (pc := 19) dX12_entryOf_19 fl_X12_9 r_164_0 ?_
        refine tz_aload_n (pc := 22) dX12_entryOf_22 rfl rfl ?_
        refine tz_fI (pc := 23) (kz := 16) (v := (J 164 16)) dX12_entryOf_23 fl_X12_85 i_164_16 rfl rfl (fun r_23 => ?_)
        refine tz_bipush (pc := 26) dX12_entryOf_26 (by decide) ?_
        refine tz_iadd (pc := 28) (v := (J 164 16) + 27) dX12_entryOf_28 rfl ?_
        refine tz_iload_n (pc := 29) dX12_entryOf_29 rfl rfl ?_
        refine tz_iadd (pc := 30) (v := ((J 164 16) + 27) + k) dX12_entryOf_30 rfl ?_
        refine tz_aL (pc := 31) (z := (((J 164 16) + 27) + k)) (v := (J 165 (((J 164 16) + 27) + k))) dX12_entryOf_31 a_165 rfl (by omega) rfl (fun r_31 => ?_)
        refine tz_iload_n (pc := 32) dX12_entryOf_32 rfl rfl ?_
        refine tz_icmp_ne (pc := 33) (tgt := 38) dX12_entryOf_33 (by decide) (by omega) (by omega) (fun h_33 => ?_) (fun h_33 => ?_)
        · refine tz_iinc (pc := 38) (z := k + 1) (L2 := [_, _, _]) dX12_entryOf_38 rfl (by omega) rfl ?_
          refine tz_goto (pc := 41) (tgt := 2) dX12_entryOf_41 (by decide) ?_
          exact ih2 (k + 1) (by omega) (by omega)
        · refine tz_iload_n (pc := 36) dX12_entryOf_36 rfl rfl ?_
          exact tz_iret (pc := 37) (z := k) dX12_entryOf_37 rfl (Nat.le_of_ble_eq_true rfl) (Nat.le_of_ble_eq_true rfl) ⟨Nat.le_refl _, Nat.le_add_right _ _⟩ ⟨_, rfl, (by omega), ⟨rfl, by omega⟩⟩
  exact loop2 _ 0 (Nat.lt_succ_self _) (by omega)

set_option maxHeartbeats 4000000 in
set_option maxRecDepth 100000 in
theorem m_uses {l : Launch} {G : tb_G} (hl : l.stackTraces = false) (n : Nat) (J : zJ) (t : Int) (hr_t : -2147483648 ≤ t ∧ t < 2147483648) (b r d s m : Int) (hM : MS J b r d s m)  : tz_Ok l G M_X12_usesOf 3 0 0 [.ref 164, zi t] n J (zqi (fun z J' => J = J' ∧ 0 ≤ z)) zN := by
  refine tz_Ok.of hl (by decide +kernel) rfl (tb_c1 rfl) (Nat.le_of_ble_eq_true rfl) ?_
  show tz_At l G M_X12_usesOf (tb_rm 3 0 0) none (tb_ZM G 0 0 (zQ n 0 (zqi (fun z J' => J = J' ∧ 0 ≤ z))) (zX n 0 zN)) 0 0 n J 0 [some (.ref 164), some (zi t), none, none, none, none] []
  obtain ⟨hM1, hM2, hM3, hM4, hM5, hM6⟩ := id hM
  have hT := hM.told
  refine tz_iconst (pc := 0) dX12_usesOf_0 ?_
  refine tz_istore_n (pc := 1) (L2 := [_, _, _, _, _, _]) dX12_usesOf_1 rfl (by decide) rfl ?_
  refine tz_iconst (pc := 2) dX12_usesOf_2 ?_
  refine tz_istore_n (pc := 3) (L2 := [_, _, _, _, _, _]) dX12_usesOf_3 rfl (by decide) rfl ?_
  have loop4 : ∀ (f9 : Nat) (q : Int) (k : Int) (d4 : Option Value) (d5 : Option Value), ((m - k).toNat) < f9 → (0 ≤ q ∧ q ≤ k) → (0 ≤ k ∧ k ≤ m) → tz_At l G M_X12_usesOf (tb_rm 3 0 0) none (tb_ZM G 0 0 (zQ n 0 (zqi (fun z J' => J = J' ∧ 0 ≤ z))) (zX n 0 zN)) 0 0 n J 4 [some (.ref 164), some (zi t), some (zi q), some (zi k), d4, d5] [] := by
    intro f9
    induction f9 with
    | zero => intro q k d4 d5 hm9; exact absurd hm9 (Nat.not_lt_zero _)
    | succ f9 ih4 =>
      intro q k d4 d5 hm4 hq hk
      refine tz_iload_n (pc := 4) dX12_usesOf_4 rfl rfl ?_
      refine tz_aload_n (pc := 5) dX12_usesOf_5 rfl rfl ?_
      refine tz_cV (pc := 6) (m_many hl n _ b r d s m hM) vl_X12_96 dX12_usesOf_6 o_164 rfl rfl (Nat.le_of_ble_eq_true rfl) ⟨(Nat.le_of_ble_eq_true rfl), (Nat.le_of_ble_eq_true rfl)⟩ rfl rfl (Nat.le_of_ble_eq_true rfl) (Nat.le_of_ble_eq_true rfl) (fun r9 J_6 hq9 => ?_)
      obtain ⟨z_6, rfl, hz_6, rfl, rfl⟩ := hq9
      refine tz_icmp_ge (pc := 9) (tgt := 76) dX12_usesOf_9 (by decide) (by omega) (by omega) (fun h_9 => ?_) (fun h_9 => ?_)
      · refine tz_iload_n (pc := 76) dX12_usesOf_76 rfl rfl ?_
        exact tz_iret (pc := 77) (z := q) dX12_usesOf_77 rfl (Nat.le_of_ble_eq_true rfl) (Nat.le_of_ble_eq_true rfl) ⟨Nat.le_refl _, Nat.le_add_right _ _⟩ ⟨_, rfl, (by omega), ⟨rfl, by omega⟩⟩
      · refine tz_iconst (pc := 12) dX12_usesOf_12 ?_
        refine tz_istore (pc := 13) (L2 := [_, _, _, _, _, _]) dX12_usesOf_13 (by decide) rfl ?_
        refine tz_iconst (pc := 15) dX12_usesOf_15 ?_
        refine tz_istore (pc := 16) (L2 := [_, _, _, _, _, _]) dX12_usesOf_16 (by decide) rfl ?_
        have loop18 : ∀ (f9 : Nat) (e : Int) (i : Int), ((3 - i).toNat) < f9 → (e = 0 ∨ e = 1) → (0 ≤ i ∧ i ≤ 3) → tz_At l G M_X12_usesOf (tb_rm 3 0 0) none (tb_ZM G 0 0 (zQ n 0 (zqi (fun z J' => J = J' ∧ 0 ≤ z))) (zX n 0 zN)) 0 0 n J 18 [some (.ref 164), some (zi t), some (zi q), some (zi k), some (zi e), some (zi i)] [] := by
          intro f9
          induction f9 with
          | zero => intro e i hm9; exact absurd hm9 (Nat.not_lt_zero _)
          | succ f9 ih18 =>
            intro e i hm18 he hi
            have ha9 := hM.ar (t := k) (by omega)
            refine tz_iload (pc := 18) dX12_usesOf_18 rfl ?_
            refine tz_aload_n (pc := 20) dX12_usesOf_20 rfl rfl ?_
            refine tz_iload_n (pc := 21) dX12_usesOf_21 rfl rfl ?_
            refine tz_cV (pc := 22) (m_arity hl n _ _ (by omega) b r d s m hM (by omega)) vl_X12_111 dX12_usesOf_22 o_164 rfl rfl (Nat.le_of_ble_eq_true rfl) ⟨(Nat.le_of_ble_eq_true rfl), (Nat.le_of_ble_eq_true rfl)⟩ rfl rfl (Nat.le_of_ble_eq_true rfl) (Nat.le_of_ble_eq_true rfl) (fun r9 J_22 hq9 => ?_)
            obtain ⟨z_22, rfl, hz_22, rfl, rfl⟩ := hq9
            refine tz_icmp_ge (pc := 25) (tgt := 57) dX12_usesOf_25 (by decide) (by omega) (by omega) (fun h_25 => ?_) (fun h_25 => ?_)
            · refine tz_iload_n (pc := 57) dX12_usesOf_57 rfl rfl ?_
              refine tz_iload (pc := 58) dX12_usesOf_58 rfl ?_
              refine tz_if_eq (pc := 60) (tgt := 67) dX12_usesOf_60 (by decide) (by omega) (fun h_60 => ?_) (fun h_60 => ?_)
              · refine tz_iconst (pc := 67) dX12_usesOf_67 ?_
                refine tz_iadd (pc := 68) (v := q + 0) dX12_usesOf_68 rfl ?_
                refine tz_istore_n (pc := 69) (L2 := [_, _, _, _, _, _]) dX12_usesOf_69 rfl (by decide) rfl ?_
                refine tz_iinc (pc := 70) (z := k + 1) (L2 := [_, _, _, _, _, _]) dX12_usesOf_70 rfl (by omega) rfl ?_
                refine tz_goto (pc := 73) (tgt := 4) dX12_usesOf_73 (by decide) ?_
                exact ih4 _ (k + 1) _ _ (by omega) (by omega) (by omega)
              · refine tz_iconst (pc := 63) dX12_usesOf_63 ?_
                refine tz_goto (pc := 64) (tgt := 68) dX12_usesOf_64 (by decide) ?_
                refine tz_iadd (pc := 68) (v := q + 1) dX12_usesOf_68 rfl ?_
                refine tz_istore_n (pc := 69) (L2 := [_, _, _, _, _, _]) dX12_usesOf_69 rfl (by decide) rfl ?_
                refine tz_iinc (pc := 70) (z := k + 1) (L2 := [_, _, _, _, _, _]) dX12_usesOf_70 rfl (by omega) rfl ?_
                refine tz_goto (pc := 73) (tgt := 4) dX12_usesOf_73 (by decide) ?_
                exact ih4 _ (k + 1) _ _ (by omega) (by omega) (by omega)
            · refine tz_iload (pc := 28) dX12_usesOf_28 rfl ?_
              refine tz_if_ne (pc := 30) (tgt := 44) dX12_usesOf_30 (by decide) (by omega) (fun h_30 => ?_) (fun h_30 => ?_)
              · refine tz_iconst (pc := 44) dX12_usesOf_44 ?_
                refine tz_goto (pc := 45) (tgt := 49) dX12_usesOf_45 (by decide) ?_
                refine tz_istore (pc := 49) (L2 := [_, _, _, _, _, _]) dX12_usesOf_49 (by decide) rfl ?_
                refine tz_iinc (pc := 51) (z := i + 1) (L2 := [_, _, _, _, _, _]) dX12_usesOf_51 rfl (by omega) rfl ?_
                refine tz_goto (pc := 54) (tgt := 18) dX12_usesOf_54 (by decide) ?_
                exact ih18 _ (i + 1) (by omega) (by omega) (by omega)
              · refine tz_aload_n (pc := 33) dX12_usesOf_33 rfl rfl ?_
                refine tz_iload_n (pc := 34) dX12_usesOf_34 rfl rfl ?_
                refine tz_iload (pc := 35) dX12_usesOf_35 rfl ?_
                refine tz_cV (pc := 37) (m_arg hl n _ _ _ (by omega) (by omega) b r d s m hM (by omega) (by omega)) vl_X12_88 dX12_usesOf_37 o_164 rfl rfl (Nat.le_of_ble_eq_true rfl) ⟨(Nat.le_of_ble_eq_true rfl), (Nat.le_of_ble_eq_true rfl)⟩ rfl rfl (Nat.le_of_ble_eq_true rfl) (Nat.le_of_ble_eq_true rfl) (fun r9 J_37 hq9 => ?_)
                obtain ⟨z_37, rfl, hz_37, rfl, rfl⟩ := hq9
                refine tz_iload_n (pc := 40) dX12_usesOf_40 rfl rfl ?_
                refine tz_icmp_ne (pc := 41) (tgt := 48) dX12_usesOf_41 (by decide) (by omega) (by omega) (fun h_41 => ?_) (fun h_41 => ?_)
                · refine tz_iconst (pc := 48) dX12_usesOf_48 ?_
                  refine tz_istore (pc := 49) (L2 := [_, _, _, _, _, _]) dX12_usesOf_49 (by decide) rfl ?_
                  refine tz_iinc (pc := 51) (z := i + 1) (L2 := [_, _, _, _, _, _]) dX12_usesOf_51 rfl (by omega) rfl ?_
                  refine tz_goto (pc := 54) (tgt := 18) dX12_usesOf_54 (by decide) ?_
                  exact ih18 _ (i + 1) (by omega) (by omega) (by omega)
                · refine tz_iconst (pc := 44) dX12_usesOf_44 ?_
                  refine tz_goto (pc := 45) (tgt := 49) dX12_usesOf_45 (by decide) ?_
                  refine tz_istore (pc := 49) (L2 := [_, _, _, _, _, _]) dX12_usesOf_49 (by decide) rfl ?_
                  refine tz_iinc (pc := 51) (z := i + 1) (L2 := [_, _, _, _, _, _]) dX12_usesOf_51 rfl (by omega) rfl ?_
                  refine tz_goto (pc := 54) (tgt := 18) dX12_usesOf_54 (by decide) ?_
                  exact ih18 _ (i + 1) (by omega) (by omega) (by omega)
        exact loop18 _ 0 0 (Nat.lt_succ_self _) (by omega) (by omega)
  exact loop4 _ 0 0 none none (Nat.lt_succ_self _) (by omega) (by omega)

