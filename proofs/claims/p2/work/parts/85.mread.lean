/-! ===== reading by the reference ===== -/
def RSz (J : zJ) : Prop := (0 ≤ J 164 37 ∧ J 164 37 ≤ 700) ∧ 0 ≤ J 164 35 ∧ J 164 35 ≤ J 164 37
def rdF (k : Int) : Bool := decide (k = 35 ∨ k = 36 ∨ k = 38 ∨ k = 39 ∨ k = 40 ∨ k = 41 ∨ k = 42)
/-- what a step of the reading changes -/
def RGo (J' J : zJ) : Prop := zOf (zbut [164]) J' J ∧ ∀ k, rdF k = false → J' 164 k = J 164 k
set_option maxHeartbeats 4000000 in
set_option maxRecDepth 100000 in
theorem m_byteAt {l : Launch} {G : tb_G} (hl : l.stackTraces = false) (n : Nat) (J : zJ) (x : Int) (hr_x : -2147483648 ≤ x ∧ x < 2147483648)  (h0 : 0 ≤ x) (h1 : J 164 37 ≤ 700) : tz_Ok l G M_X12_byteAt 0 0 0 [.ref 164, zi x] n J (zqi (fun z J' => J = J' ∧ (J 164 37 ≤ x → z = 0))) zN := by
  refine tz_Ok.of hl (by decide +kernel) rfl (tb_c1 rfl) (Nat.le_of_ble_eq_true rfl) ?_
  show tz_At l G M_X12_byteAt (tb_rm 0 0 0) none (tb_ZM G 0 0 (zQ n 0 (zqi (fun z J' => J = J' ∧ (J 164 37 ≤ x → z = 0)))) (zX n 0 zN)) 0 0 n J 0 [some (.ref 164), some (zi x)] []
  refine tz_iload_n (pc := 0) dX12_byteAt_0 rfl rfl ?_
  refine tz_aload_n (pc := 1) dX12_byteAt_1 rfl rfl ?_
  refine tz_fI (pc := 2) (kz := 37) (v := (J 164 37)) dX12_byteAt_2 fl_X12_233 i_164_37 rfl rfl (fun r_2 => ?_)
  refine tz_icmp_ge (pc := 5) (tgt := 17) dX12_byteAt_5 (by decide) (by omega) (by omega) (fun h_5 => ?_) (fun h_5 => ?_)
  · refine tz_iconst (pc := 17) dX12_byteAt_17 ?_
    exact tz_iret (pc := 18) (z := 0) dX12_byteAt_18 rfl (Nat.le_of_ble_eq_true rfl) (Nat.le_of_ble_eq_true rfl) ⟨Nat.le_refl _, Nat.le_add_right _ _⟩ ⟨_, rfl, (by decide), ⟨rfl, fun q9 => by omega⟩⟩
  · refine tz_aload_n (pc := 8) dX12_byteAt_8 rfl rfl ?_
    refine tz_fR (pc := 9) dX12_byteAt_9 fl_X12_34 r_164_18 ?_
    refine tz_iload_n (pc := 12) dX12_byteAt_12 rfl rfl ?_
    refine tz_aL (pc := 13) (z := x) (v := (J 173 x)) dX12_byteAt_13 a_173 rfl (by omega) rfl (fun r_13 => ?_)
    refine tz_goto (pc := 14) (tgt := 18) dX12_byteAt_14 (by decide) ?_
    exact tz_iret (pc := 18) (z := (J 173 x)) dX12_byteAt_18 rfl (Nat.le_of_ble_eq_true rfl) (Nat.le_of_ble_eq_true rfl) ⟨Nat.le_refl _, Nat.le_add_right _ _⟩ ⟨_, rfl, (by omega), ⟨rfl, fun q9 => by omega⟩⟩

set_option maxHeartbeats 4000000 in
set_option maxRecDepth 100000 in
theorem m_isLet {l : Launch} {G : tb_G} (hl : l.stackTraces = false) (n : Nat) (J : zJ) (x : Int) (hr_x : -2147483648 ≤ x ∧ x < 2147483648)   : tz_Ok l G M_X12_isLetter 0 0 0 [zi x] n J (zqi (fun z J' => J = J' ∧ ((z = 1 ∧ 97 ≤ x ∧ x ≤ 122) ∨ (z = 0 ∧ ¬ (97 ≤ x ∧ x ≤ 122))))) zN := by
  refine tz_Ok.of hl (by decide +kernel) rfl (tb_c1 rfl) (Nat.le_of_ble_eq_true rfl) ?_
  show tz_At l G M_X12_isLetter (tb_rm 0 0 0) none (tb_ZM G 0 0 (zQ n 0 (zqi (fun z J' => J = J' ∧ ((z = 1 ∧ 97 ≤ x ∧ x ≤ 122) ∨ (z = 0 ∧ ¬ (97 ≤ x ∧ x ≤ 122)))))) (zX n 0 zN)) 0 0 n J 0 [some (zi x)] []
  refine tz_iload_n (pc := 0) dX12_isLetter_0 rfl rfl ?_
  refine tz_bipush (pc := 1) dX12_isLetter_1 (by decide) ?_
  refine tz_icmp_lt (pc := 3) (tgt := 16) dX12_isLetter_3 (by decide) (by omega) (by decide) (fun h_3 => ?_) (fun h_3 => ?_)
  · refine tz_iconst (pc := 16) dX12_isLetter_16 ?_
    exact tz_zret (pc := 17) (z := 0) dX12_isLetter_17 rfl (Or.inl rfl) (Nat.le_of_ble_eq_true rfl) (Nat.le_of_ble_eq_true rfl) ⟨Nat.le_refl _, Nat.le_add_right _ _⟩ ⟨_, rfl, (by decide), ⟨rfl, by omega⟩⟩
  · refine tz_iload_n (pc := 6) dX12_isLetter_6 rfl rfl ?_
    refine tz_bipush (pc := 7) dX12_isLetter_7 (by decide) ?_
    refine tz_icmp_gt (pc := 9) (tgt := 16) dX12_isLetter_9 (by decide) (by omega) (by decide) (fun h_9 => ?_) (fun h_9 => ?_)
    · refine tz_iconst (pc := 16) dX12_isLetter_16 ?_
      exact tz_zret (pc := 17) (z := 0) dX12_isLetter_17 rfl (Or.inl rfl) (Nat.le_of_ble_eq_true rfl) (Nat.le_of_ble_eq_true rfl) ⟨Nat.le_refl _, Nat.le_add_right _ _⟩ ⟨_, rfl, (by decide), ⟨rfl, by omega⟩⟩
    · refine tz_iconst (pc := 12) dX12_isLetter_12 ?_
      refine tz_goto (pc := 13) (tgt := 17) dX12_isLetter_13 (by decide) ?_
      exact tz_zret (pc := 17) (z := 1) dX12_isLetter_17 rfl (Or.inr rfl) (Nat.le_of_ble_eq_true rfl) (Nat.le_of_ble_eq_true rfl) ⟨Nat.le_refl _, Nat.le_add_right _ _⟩ ⟨_, rfl, (by decide), ⟨rfl, by omega⟩⟩

set_option maxHeartbeats 4000000 in
set_option maxRecDepth 100000 in
theorem m_isSgn {l : Launch} {G : tb_G} (hl : l.stackTraces = false) (n : Nat) (J : zJ) (x : Int) (hr_x : -2147483648 ≤ x ∧ x < 2147483648)   : tz_Ok l G M_X12_isSignByte 0 0 0 [.ref 164, zi x] n J (zqi (fun z J' => J = J' ∧ (z = 0 ∨ z = 1))) zN := by
  refine tz_Ok.of hl (by decide +kernel) rfl (tb_c1 rfl) (Nat.le_of_ble_eq_true rfl) ?_
  show tz_At l G M_X12_isSignByte (tb_rm 0 0 0) none (tb_ZM G 0 0 (zQ n 0 (zqi (fun z J' => J = J' ∧ (z = 0 ∨ z = 1)))) (zX n 0 zN)) 0 0 n J 0 [some (.ref 164), some (zi x)] []
  refine tz_iload_n (pc := 0) dX12_isSignByte_0 rfl rfl ?_
  refine tz_bipush (pc := 1) dX12_isSignByte_1 (by decide) ?_
  refine tz_icmp_eq (pc := 3) (tgt := 30) dX12_isSignByte_3 (by decide) (by omega) (by decide) (fun h_3 => ?_) (fun h_3 => ?_)
  · refine tz_iconst (pc := 30) dX12_isSignByte_30 ?_
    refine tz_goto (pc := 31) (tgt := 35) dX12_isSignByte_31 (by decide) ?_
    exact tz_zret (pc := 35) (z := 1) dX12_isSignByte_35 rfl (Or.inr rfl) (Nat.le_of_ble_eq_true rfl) (Nat.le_of_ble_eq_true rfl) ⟨Nat.le_refl _, Nat.le_add_right _ _⟩ ⟨_, rfl, (by decide), ⟨rfl, by omega⟩⟩
  · refine tz_iload_n (pc := 6) dX12_isSignByte_6 rfl rfl ?_
    refine tz_bipush (pc := 7) dX12_isSignByte_7 (by decide) ?_
    refine tz_icmp_eq (pc := 9) (tgt := 30) dX12_isSignByte_9 (by decide) (by omega) (by decide) (fun h_9 => ?_) (fun h_9 => ?_)
    · refine tz_iconst (pc := 30) dX12_isSignByte_30 ?_
      refine tz_goto (pc := 31) (tgt := 35) dX12_isSignByte_31 (by decide) ?_
      exact tz_zret (pc := 35) (z := 1) dX12_isSignByte_35 rfl (Or.inr rfl) (Nat.le_of_ble_eq_true rfl) (Nat.le_of_ble_eq_true rfl) ⟨Nat.le_refl _, Nat.le_add_right _ _⟩ ⟨_, rfl, (by decide), ⟨rfl, by omega⟩⟩
    · refine tz_iload_n (pc := 12) dX12_isSignByte_12 rfl rfl ?_
      refine tz_bipush (pc := 13) dX12_isSignByte_13 (by decide) ?_
      refine tz_icmp_eq (pc := 15) (tgt := 30) dX12_isSignByte_15 (by decide) (by omega) (by decide) (fun h_15 => ?_) (fun h_15 => ?_)
      · refine tz_iconst (pc := 30) dX12_isSignByte_30 ?_
        refine tz_goto (pc := 31) (tgt := 35) dX12_isSignByte_31 (by decide) ?_
        exact tz_zret (pc := 35) (z := 1) dX12_isSignByte_35 rfl (Or.inr rfl) (Nat.le_of_ble_eq_true rfl) (Nat.le_of_ble_eq_true rfl) ⟨Nat.le_refl _, Nat.le_add_right _ _⟩ ⟨_, rfl, (by decide), ⟨rfl, by omega⟩⟩
      · refine tz_iload_n (pc := 18) dX12_isSignByte_18 rfl rfl ?_
        refine tz_bipush (pc := 19) dX12_isSignByte_19 (by decide) ?_
        refine tz_icmp_eq (pc := 21) (tgt := 30) dX12_isSignByte_21 (by decide) (by omega) (by decide) (fun h_21 => ?_) (fun h_21 => ?_)
        · refine tz_iconst (pc := 30) dX12_isSignByte_30 ?_
          refine tz_goto (pc := 31) (tgt := 35) dX12_isSignByte_31 (by decide) ?_
          exact tz_zret (pc := 35) (z := 1) dX12_isSignByte_35 rfl (Or.inr rfl) (Nat.le_of_ble_eq_true rfl) (Nat.le_of_ble_eq_true rfl) ⟨Nat.le_refl _, Nat.le_add_right _ _⟩ ⟨_, rfl, (by decide), ⟨rfl, by omega⟩⟩
        · refine tz_iload_n (pc := 24) dX12_isSignByte_24 rfl rfl ?_
          refine tz_bipush (pc := 25) dX12_isSignByte_25 (by decide) ?_
          refine tz_icmp_ne (pc := 27) (tgt := 34) dX12_isSignByte_27 (by decide) (by omega) (by decide) (fun h_27 => ?_) (fun h_27 => ?_)
          · refine tz_iconst (pc := 34) dX12_isSignByte_34 ?_
            exact tz_zret (pc := 35) (z := 0) dX12_isSignByte_35 rfl (Or.inl rfl) (Nat.le_of_ble_eq_true rfl) (Nat.le_of_ble_eq_true rfl) ⟨Nat.le_refl _, Nat.le_add_right _ _⟩ ⟨_, rfl, (by decide), ⟨rfl, by omega⟩⟩
          · refine tz_iconst (pc := 30) dX12_isSignByte_30 ?_
            refine tz_goto (pc := 31) (tgt := 35) dX12_isSignByte_31 (by decide) ?_
            exact tz_zret (pc := 35) (z := 1) dX12_isSignByte_35 rfl (Or.inr rfl) (Nat.le_of_ble_eq_true rfl) (Nat.le_of_ble_eq_true rfl) ⟨Nat.le_refl _, Nat.le_add_right _ _⟩ ⟨_, rfl, (by decide), ⟨rfl, by omega⟩⟩

set_option maxHeartbeats 4000000 in
set_option maxRecDepth 100000 in
theorem m_wants {l : Launch} {G : tb_G} (hl : l.stackTraces = false) (n : Nat) (J : zJ) (x : Int) (y : Int) (hr_x : -2147483648 ≤ x ∧ x < 2147483648) (hr_y : -2147483648 ≤ y ∧ y < 2147483648)  (hy : ¬ y = 0) : tz_Ok l G M_X12_wants 0 0 0 [.ref 164, zi x, zi y] n J (zqi (fun z J' => (zOf (zbut [164]) J' J ∧ ∀ k, ¬ k = 43 → ¬ k = 20 → J' 164 k = J 164 k) ∧ (z = 0 ∨ z = 1) ∧ (z = 1 → J = J' ∧ J 164 43 = 0 ∧ ¬ x = 0))) zN := by
  refine tz_Ok.of hl (by decide +kernel) rfl (tb_c1 rfl) (Nat.le_of_ble_eq_true rfl) ?_
  show tz_At l G M_X12_wants (tb_rm 0 0 0) none (tb_ZM G 0 0 (zQ n 0 (zqi (fun z J' => (zOf (zbut [164]) J' J ∧ ∀ k, ¬ k = 43 → ¬ k = 20 → J' 164 k = J 164 k) ∧ (z = 0 ∨ z = 1) ∧ (z = 1 → J = J' ∧ J 164 43 = 0 ∧ ¬ x = 0)))) (zX n 0 zN)) 0 0 n J 0 [some (.ref 164), some (zi x), some (zi y)] []
  refine tz_aload_n (pc := 0) dX12_wants_0 rfl rfl ?_
  refine tz_fI (pc := 1) (kz := 43) (v := (J 164 43)) dX12_wants_1 fl_X12_273 i_164_43 rfl rfl (fun r_1 => ?_)
  refine tz_if_ne (pc := 4) (tgt := 24) dX12_wants_4 (by decide) (by omega) (fun h_4 => ?_) (fun h_4 => ?_)
  · refine tz_aload_n (pc := 24) dX12_wants_24 rfl rfl ?_
    refine tz_fI (pc := 25) (kz := 43) (v := (J 164 43)) dX12_wants_25 fl_X12_273 i_164_43 rfl rfl (fun r_25 => ?_)
    refine tz_if_ne (pc := 28) (tgt := 35) dX12_wants_28 (by decide) (by omega) (fun h_28 => ?_) (fun h_28 => ?_)
    · refine tz_iconst (pc := 35) dX12_wants_35 ?_
      exact tz_zret (pc := 36) (z := 0) dX12_wants_36 rfl (Or.inl rfl) (Nat.le_of_ble_eq_true rfl) (Nat.le_of_ble_eq_true rfl) ⟨Nat.le_refl _, Nat.le_add_right _ _⟩ ⟨_, rfl, (by decide), ⟨⟨zOf.rf, fun _ _ _ => rfl⟩, by omega, fun q9 => ⟨rfl, by omega, by omega⟩⟩⟩
    · refine tz_iconst (pc := 31) dX12_wants_31 ?_
      refine tz_goto (pc := 32) (tgt := 36) dX12_wants_32 (by decide) ?_
      exact tz_zret (pc := 36) (z := 1) dX12_wants_36 rfl (Or.inr rfl) (Nat.le_of_ble_eq_true rfl) (Nat.le_of_ble_eq_true rfl) ⟨Nat.le_refl _, Nat.le_add_right _ _⟩ ⟨_, rfl, (by decide), ⟨⟨zOf.rf, fun _ _ _ => rfl⟩, by omega, fun q9 => ⟨rfl, by omega, by omega⟩⟩⟩
  · refine tz_iload_n (pc := 7) dX12_wants_7 rfl rfl ?_
    refine tz_if_ne (pc := 8) (tgt := 24) dX12_wants_8 (by decide) (by omega) (fun h_8 => ?_) (fun h_8 => ?_)
    · refine tz_aload_n (pc := 24) dX12_wants_24 rfl rfl ?_
      refine tz_fI (pc := 25) (kz := 43) (v := (J 164 43)) dX12_wants_25 fl_X12_273 i_164_43 rfl rfl (fun r_25 => ?_)
      refine tz_if_ne (pc := 28) (tgt := 35) dX12_wants_28 (by decide) (by omega) (fun h_28 => ?_) (fun h_28 => ?_)
      · refine tz_iconst (pc := 35) dX12_wants_35 ?_
        exact tz_zret (pc := 36) (z := 0) dX12_wants_36 rfl (Or.inl rfl) (Nat.le_of_ble_eq_true rfl) (Nat.le_of_ble_eq_true rfl) ⟨Nat.le_refl _, Nat.le_add_right _ _⟩ ⟨_, rfl, (by decide), ⟨⟨zOf.rf, fun _ _ _ => rfl⟩, by omega, fun q9 => ⟨rfl, by omega, by omega⟩⟩⟩
      · refine tz_iconst (pc := 31) dX12_wants_31 ?_
        refine tz_goto (pc := 32) (tgt := 36) dX12_wants_32 (by decide) ?_
        exact tz_zret (pc := 36) (z := 1) dX12_wants_36 rfl (Or.inr rfl) (Nat.le_of_ble_eq_true rfl) (Nat.le_of_ble_eq_true rfl) ⟨Nat.le_refl _, Nat.le_add_right _ _⟩ ⟨_, rfl, (by decide), ⟨⟨zOf.rf, fun _ _ _ => rfl⟩, by omega, fun q9 => ⟨rfl, by omega, by omega⟩⟩⟩
    · refine tz_aload_n (pc := 11) dX12_wants_11 rfl rfl ?_
      refine tz_iload_n (pc := 12) dX12_wants_12 rfl rfl ?_
      refine tz_pI (pc := 13) (kz := 43) dX12_wants_13 fl_X12_273 i_164_43 rfl rfl (by omega) ?_
      refine tz_aload_n (pc := 16) dX12_wants_16 rfl rfl ?_
      refine tz_aload_n (pc := 17) dX12_wants_17 rfl rfl ?_
      refine tz_fI (pc := 18) (kz := 36) (v := (J 164 36)) dX12_wants_18 fl_X12_246 i_164_36 rfl rfl (fun r_18 => ?_)
      refine tz_pI (pc := 21) (kz := 20) dX12_wants_21 fl_X12_37 i_164_20 rfl rfl (by omega) ?_
      refine tz_aload_n (pc := 24) dX12_wants_24 rfl rfl ?_
      refine tz_fI (pc := 25) (kz := 43) (v := y) dX12_wants_25 fl_X12_273 i_164_43 rfl rfl (fun r_25 => ?_)
      refine tz_if_ne (pc := 28) (tgt := 35) dX12_wants_28 (by decide) (by omega) (fun h_28 => ?_) (fun h_28 => ?_)
      · refine tz_iconst (pc := 35) dX12_wants_35 ?_
        exact tz_zret (pc := 36) (z := 0) dX12_wants_36 rfl (Or.inl rfl) (Nat.le_of_ble_eq_true rfl) (Nat.le_of_ble_eq_true rfl) ⟨Nat.le_refl _, Nat.le_add_right _ _⟩ ⟨_, rfl, (by decide), ⟨⟨zOf.up rfl (zOf.up rfl zOf.rf), fun k h1 h2 => (zup_ne h2).trans (zup_ne h1)⟩, by omega, fun q9 => by omega⟩⟩
      · refine tz_iconst (pc := 31) dX12_wants_31 ?_
        refine tz_goto (pc := 32) (tgt := 36) dX12_wants_32 (by decide) ?_
        exact tz_zret (pc := 36) (z := 1) dX12_wants_36 rfl (Or.inr rfl) (Nat.le_of_ble_eq_true rfl) (Nat.le_of_ble_eq_true rfl) ⟨Nat.le_refl _, Nat.le_add_right _ _⟩ ⟨_, rfl, (by decide), ⟨⟨zOf.up rfl (zOf.up rfl zOf.rf), fun k h1 h2 => (zup_ne h2).trans (zup_ne h1)⟩, by omega, fun q9 => by omega⟩⟩

set_option maxHeartbeats 4000000 in
set_option maxRecDepth 100000 in
theorem m_symOf {l : Launch} {G : tb_G} (hl : l.stackTraces = false) (n : Nat) (J : zJ) (x : Int) (hr_x : -2147483648 ≤ x ∧ x < 2147483648)  (h0 : 0 ≤ J 164 44 ∧ J 164 44 ≤ 10) : tz_Ok l G M_X12_symbolOf 0 0 0 [.ref 164, zi x] n J (zqi (fun z J' => J = J' ∧ (z = -1 ∨ (0 ≤ z ∧ z < J 164 44)))) zN := by
  refine tz_Ok.of hl (by decide +kernel) rfl (tb_c1 rfl) (Nat.le_of_ble_eq_true rfl) ?_
  show tz_At l G M_X12_symbolOf (tb_rm 0 0 0) none (tb_ZM G 0 0 (zQ n 0 (zqi (fun z J' => J = J' ∧ (z = -1 ∨ (0 ≤ z ∧ z < J 164 44))))) (zX n 0 zN)) 0 0 n J 0 [some (.ref 164), some (zi x), none] []
  refine tz_iconst (pc := 0) dX12_symbolOf_0 ?_
  refine tz_istore_n (pc := 1) (L2 := [_, _, _]) dX12_symbolOf_1 rfl (by decide) rfl ?_
  have loop2 : ∀ (f9 : Nat) (k : Int), ((10 - k).toNat) < f9 → (0 ≤ k ∧ k ≤ 10) → tz_At l G M_X12_symbolOf (tb_rm 0 0 0) none (tb_ZM G 0 0 (zQ n 0 (zqi (fun z J' => J = J' ∧ (z = -1 ∨ (0 ≤ z ∧ z < J 164 44))))) (zX n 0 zN)) 0 0 n J 2 [some (.ref 164), some (zi x), some (zi k)] [] := by
    intro f9
    induction f9 with
    | zero => intro k hm9; exact absurd hm9 (Nat.not_lt_zero _)
    | succ f9 ih2 =>
      intro k hm2 hk
      refine tz_iload_n (pc := 2) dX12_symbolOf_2 rfl rfl ?_
      refine tz_aload_n (pc := 3) dX12_symbolOf_3 rfl rfl ?_
      refine tz_fI (pc := 4) (kz := 44) (v := (J 164 44)) dX12_symbolOf_4 fl_X12_287 i_164_44 rfl rfl (fun r_4 => ?_)
      refine tz_icmp_ge (pc := 7) (tgt := 31) dX12_symbolOf_7 (by decide) (by omega) (by omega) (fun h_7 => ?_) (fun h_7 => ?_)
      · refine tz_iconst (pc := 31) dX12_symbolOf_31 ?_
        exact tz_iret (pc := 32) (z := (-1)) dX12_symbolOf_32 rfl (Nat.le_of_ble_eq_true rfl) (Nat.le_of_ble_eq_true rfl) ⟨Nat.le_refl _, Nat.le_add_right _ _⟩ ⟨_, rfl, (by decide), ⟨rfl, by omega⟩⟩
      · refine tz_aload_n (pc := 10) dX12_symbolOf_10 rfl rfl ?_
        refine tz_fR (pc := 11) dX12_symbolOf_11 fl_X12_22 r_164_4 ?_
        refine tz_bipush (pc := 14) dX12_symbolOf_14 (by decide) ?_
        refine tz_iload_n (pc := 16) dX12_symbolOf_16 rfl rfl ?_
        refine tz_iadd (pc := 17) (v := 10 + k) dX12_symbolOf_17 rfl ?_
        refine tz_aL (pc := 18) (z := (10 + k)) (v := (J 169 (10 + k))) dX12_symbolOf_18 a_169 rfl (by omega) rfl (fun r_18 => ?_)
        refine tz_iload_n (pc := 19) dX12_symbolOf_19 rfl rfl ?_
        refine tz_icmp_ne (pc := 20) (tgt := 25) dX12_symbolOf_20 (by decide) (by omega) (by omega) (fun h_20 => ?_) (fun h_20 => ?_)
        · refine tz_iinc (pc := 25) (z := k + 1) (L2 := [_, _, _]) dX12_symbolOf_25 rfl (by omega) rfl ?_
          refine tz_goto (pc := 28) (tgt := 2) dX12_symbolOf_28 (by decide) ?_
          exact ih2 (k + 1) (by omega) (by omega)
        · refine tz_iload_n (pc := 23) dX12_symbolOf_23 rfl rfl ?_
          exact tz_iret (pc := 24) (z := k) dX12_symbolOf_24 rfl (Nat.le_of_ble_eq_true rfl) (Nat.le_of_ble_eq_true rfl) ⟨Nat.le_refl _, Nat.le_add_right _ _⟩ ⟨_, rfl, (by omega), ⟨rfl, by omega⟩⟩
  exact loop2 _ 0 (Nat.lt_succ_self _) (by omega)

