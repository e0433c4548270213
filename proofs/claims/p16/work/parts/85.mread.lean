/-! ===== reading by the reference ===== -/
def RSz (J : zJ) : Prop := (0 ≤ J 164 37 ∧ J 164 37 ≤ 700) ∧ 0 ≤ J 164 35 ∧ J 164 35 ≤ J 164 37
def rdF (k : Int) : Bool := decide (k = 35 ∨ k = 36 ∨ k = 38 ∨ k = 39 ∨ k = 40 ∨ k = 41 ∨ k = 42)
/-- what a step of the reading changes -/
def RGo (J' J : zJ) : Prop := zOf (zbut [164]) J' J ∧ ∀ k, rdF k = false → J' 164 k = J 164 k
set_option maxHeartbeats 4000000 in
set_option maxRecDepth 100000 in
theorem m_byteAt {l : Launch} {G : tb_G} (hl : l.stackTraces = false) (n : Nat) (J : zJ) (x : Int) (hr_x : -2147483648 ≤ x ∧ x < 2147483648)  (h0 : 0 ≤ x) (h1 : J 164 37 ≤ 700) : tz_Ok l G M_X12_byteAt 0 0 0 [.ref 164, zi x] n J (zqi (fun z J' => J = J' ∧ (J 164 37 ≤ x → z = 0) ∧ (x < J 164 37 → J 173 x = z))) zN := by
  refine tz_Ok.of hl (by decide +kernel) rfl (tb_c1 rfl) (Nat.le_of_ble_eq_true rfl) ?_
  show tz_At l G M_X12_byteAt (tb_rm 0 0 0) none (tb_ZM G 0 0 (zQ n 0 (zqi (fun z J' => J = J' ∧ (J 164 37 ≤ x → z = 0) ∧ (x < J 164 37 → J 173 x = z)))) (zX n 0 zN)) 0 0 n J 0 [some (.ref 164), some (zi x)] []
  refine tz_iload_n (pc := 0) dX12_byteAt_0 rfl rfl ?_
  refine tz_aload_n (pc := 1) dX12_byteAt_1 rfl rfl ?_
  refine tz_fI (pc := 2) (kz := 37) (v := (J 164 37)) dX12_byteAt_2 fl_X12_233 i_164_37 rfl rfl (fun r_2 => ?_)
  refine tz_icmp_ge (pc := 5) (tgt := 17) dX12_byteAt_5 (by decide) (by omega) (by omega) (fun h_5 => ?_) (fun h_5 => ?_)
  · refine tz_iconst (pc := 17) dX12_byteAt_17 ?_
    exact tz_iret (pc := 18) (z := 0) dX12_byteAt_18 rfl (Nat.le_of_ble_eq_true rfl) (Nat.le_of_ble_eq_true rfl) ⟨Nat.le_refl _, Nat.le_add_right _ _⟩ ⟨_, rfl, (by decide), ⟨rfl, fun q9 => by omega, fun q9 => by omega⟩⟩
  · refine tz_aload_n (pc := 8) dX12_byteAt_8 rfl rfl ?_
    refine tz_fR (pc := 9) dX12_byteAt_9 fl_X12_34 r_164_18 ?_
    refine tz_iload_n (pc := 12) dX12_byteAt_12 rfl rfl ?_
    refine tz_aL (pc := 13) (z := x) (v := (J 173 x)) dX12_byteAt_13 a_173 rfl (by omega) rfl (fun r_13 => ?_)
    refine tz_goto (pc := 14) (tgt := 18) dX12_byteAt_14 (by decide) ?_
    exact tz_iret (pc := 18) (z := (J 173 x)) dX12_byteAt_18 rfl (Nat.le_of_ble_eq_true rfl) (Nat.le_of_ble_eq_true rfl) ⟨Nat.le_refl _, Nat.le_add_right _ _⟩ ⟨_, rfl, (by omega), ⟨rfl, fun q9 => by omega, fun q9 => by omega⟩⟩

set_option maxHeartbeats 4000000 in
set_option maxRecDepth 100000 in
theorem m_isLet {l : Launch} {G : tb_G} (hl : l.stackTraces = false) (n : Nat) (J : zJ) (x : Int) (hr_x : -2147483648 ≤ x ∧ x < 2147483648)   : tz_Ok l G M_X12_isLetter 0 0 0 [zi x] n J (zqi (fun z J' => J = J' ∧ ((z = 1 ∧ 97 ≤ x ∧ x ≤ 122) ∨ (z = 0 ∧ ¬ (97 ≤ x ∧ x ≤ 122))))) zN := by
  refine tz_Ok.of hl (by decide +kernel) rfl (tb_c1 rfl) (Nat.le_of_ble_eq_true rfl) ?_
  show tz_At l G M_X12_isLetter (tb_rm 0 0 0) none (tb_ZM G 0 0 (zQ n 0 (zqi (fun z J' => J = J' ∧ ((z = 1 ∧ 97 ≤ x ∧ x ≤ 122) ∨ (z = 0 ∧ ¬ (97 ≤ x ∧ x ≤ 122)))))) (zX n 0 zN)) 0 0 n J 0 [some (zi x)] []
  refine tz_iload_n (pc := 0) dX12_isLetter_0 rfl rfl ?_
  refine tz_bipush (pc := 1) dX12_isLetter_1 (by decide) ?_
  refine tz_icmp_lt (pc := 3) (tgt := 16) dX12_isLetter_3 (by decide) (by omega) (by decide) (fun h_3 => ?_) (fun h_3 => ?_)
  · refine tz_iconst (pc := 16) dX12_isLetter_16 ?_
    exact tz_zret (pc := 17) (z := 0) dX12_isLetter_17 rfl (Or.inl rfl) (Nat.le_of_ble_eq_true rfl) (Nat.le_of_ble_eq_true rfl) ⟨Nat.le_refl _, Nat.le_add_right _ _⟩ ⟨_, rfl, (by decide), ⟨rfl, by omega⟩⟩
  · refine tz_iload_n (pc := 6) dX12_isLetter_6 rfl rfl ?_
    refine tz_bipush (pc := 7) dX12_isLetter_7 (by decide) ?_
    refine tz_icmp_gt (pc := 9) (tgt := 16) dX12_isLetter_9 (by decide) (by omega) (by decide) (fun h_9 => ?_) (fun h_9 => ?_)
    · refine tz_iconst (pc := 16) dX12_isLetter_16 ?_
      exact tz_zret (pc := 17) (z := 0) dX12_isLetter_17 rfl (Or.inl rfl) (Nat.le_of_ble_eq_true rfl) (Nat.le_of_ble_eq_true rfl) ⟨Nat.le_refl _, Nat.le_add_right _ _⟩ ⟨_, rfl, (by decide), ⟨rfl, by omega⟩⟩
    · refine tz_iconst (pc := 12) dX12_isLetter_12 ?_
      refine tz_goto (pc := 13) (tgt := 17) dX12_isLetter_13 (by decide) ?_
      exact tz_zret (pc := 17) (z := 1) dX12_isLetter_17 rfl (Or.inr rfl) (Nat.le_of_ble_eq_true rfl) (Nat.le_of_ble_eq_true rfl) ⟨Nat.le_refl _, Nat.le_add_right _ _⟩ ⟨_, rfl, (by decide), ⟨rfl, by omega⟩⟩

set_option maxHeartbeats 4000000 in
set_option maxRecDepth 100000 in
theorem m_isSgn {l : Launch} {G : tb_G} (hl : l.stackTraces = false) (n : Nat) (J : zJ) (x : Int) (hr_x : -2147483648 ≤ x ∧ x < 2147483648)   : tz_Ok l G M_X12_isSignByte 0 0 0 [.ref 164, zi x] n J (zqi (fun z J' => J = J' ∧ (z = 0 ∨ z = 1))) zN := by
  refine tz_Ok.of hl (by decide +kernel) rfl (tb_c1 rfl) (Nat.le_of_ble_eq_true rfl) ?_
  show tz_At l G M_X12_isSignByte (tb_rm 0 0 0) none (tb_ZM G 0 0 (zQ n 0 (zqi (fun z J' => J = J' ∧ (z = 0 ∨ z = 1)))) (zX n 0 zN)) 0 0 n J 0 [some (.ref 164), some (zi x)] []
  refine tz_iload_n (pc := 0) dX12_isSignByte_0 rfl rfl ?_
  refine tz_bipush (pc := 1) dX12_isSignByte_1 (by decide) ?_
  refine tz_icmp_eq (pc := 3) (tgt := 30) dX12_isSignByte_3 (by decide) (by omega) (by decide) (fun h_3 => ?_) (fun h_3 => ?_)
  · refine tz_iconst (pc := 30) dX12_isSignByte_30 ?_
    refine tz_goto (pc := 31) (tgt := 35) dX12_isSignByte_31 (by decide) ?_
    exact tz_zret (pc := 35) (z := 1) dX12_isSignByte_35 rfl (Or.inr rfl) (Nat.le_of_ble_eq_true rfl) (Nat.le_of_ble_eq_true rfl) ⟨Nat.le_refl _, Nat.le_add_right _ _⟩ ⟨_, rfl, (by decide), ⟨rfl, by omega⟩⟩
  · refine tz_iload_n (pc := 6) dX12_isSignByte_6 rfl rfl ?_
    refine tz_bipush (pc := 7) dX12_isSignByte_7 (by decide) ?_
    refine tz_icmp_eq (pc := 9) (tgt := 30) dX12_isSignByte_9 (by decide) (by omega) (by decide) (fun h_9 => ?_) (fun h_9 => ?_)
    · refine tz_iconst (pc := 30) dX12_isSignByte_30 ?_
      refine tz_goto (pc := 31) (tgt := 35) dX12_isSignByte_31 (by decide) ?_
      exact tz_zret (pc := 35) (z := 1) dX12_isSignByte_35 rfl (Or.inr rfl) (Nat.le_of_ble_eq_true rfl) (Nat.le_of_ble_eq_true rfl) ⟨Nat.le_refl _, Nat.le_add_right _ _⟩ ⟨_, rfl, (by decide), ⟨rfl, by omega⟩⟩
    · refine tz_iload_n (pc := 12) dX12_isSignByte_12 rfl rfl ?_
      refine tz_bipush (pc := 13) dX12_isSignByte_13 (by decide) ?_
      refine tz_icmp_eq (pc := 15) (tgt := 30) dX12_isSignByte_15 (by decide) (by omega) (by decide) (fun h_15 => ?_) (fun h_15 => ?_)
      · refine tz_iconst (pc := 30) dX12_isSignByte_30 ?_
        refine tz_goto (pc := 31) (tgt := 35) dX12_isSignByte_31 (by decide) ?_
        exact tz_zret (pc := 35) (z := 1) dX12_isSignByte_35 rfl (Or.inr rfl) (Nat.le_of_ble_eq_true rfl) (Nat.le_of_ble_eq_true rfl) ⟨Nat.le_refl _, Nat.le_add_right _ _⟩ ⟨_, rfl, (by decide), ⟨rfl, by omega⟩⟩
      · refine tz_iload_n (pc := 18) dX12_isSignByte_18 rfl rfl ?_
        refine tz_bipush (pc := 19) dX12_isSignByte_19 (by decide) ?_
        refine tz_icmp_eq (pc := 21) (tgt := 30) dX12_isSignByte_21 (by decide) (by omega) (by decide) (fun h_21 => ?_) (fun h_21 => ?_)
        · refine tz_iconst (pc := 30) dX12_isSignByte_30 ?_
          refine tz_goto (pc := 31) (tgt := 35) dX12_isSignByte_31 (by decide) ?_
          exact tz_zret (pc := 35) (z := 1) dX12_isSignByte_35 rfl (Or.inr rfl) (Nat.le_of_ble_eq_true rfl) (Nat.le_of_ble_eq_true rfl) ⟨Nat.le_refl _, Nat.le_add_right _ _⟩ ⟨_, rfl, (by decide), ⟨rfl, by omega⟩⟩
        · refine tz_iload_n (pc := 24) dX12_isSignByte_24 rfl rfl ?_
          refine tz_bipush (pc := 25) dX12_isSignByte_25 (by decide) ?_
          refine tz_icmp_ne (pc := 27) (tgt := 34) dX12_isSignByte_27 (by decide) (by omega) (by decide) (fun h_27 => ?_) (fun h_27 => ?_)
          · refine tz_iconst (pc := 34) dX12_isSignByte_34 ?_
            exact tz_zret (pc := 35) (z := 0) dX12_isSignByte_35 rfl (Or.inl rfl) (Nat.le_of_ble_eq_true rfl) (Nat.le_of_ble_eq_true rfl) ⟨Nat.le_refl _, Nat.le_add_right _ _⟩ ⟨_, rfl, (by decide), ⟨rfl, by omega⟩⟩
          · refine tz_iconst (pc := 30) dX12_isSignByte_30 ?_
            refine tz_goto (pc := 31) (tgt := 35) dX12_isSignByte_31 (by decide) ?_
            exact tz_zret (pc := 35) (z := 1) dX12_isSignByte_35 rfl (Or.inr rfl) (Nat.le_of_ble_eq_true rfl) (Nat.le_of_ble_eq_true rfl) ⟨Nat.le_refl _, Nat.le_add_right _ _⟩ ⟨_, rfl, (by decide), ⟨rfl, by omega⟩⟩

set_option maxHeartbeats 4000000 in
set_option maxRecDepth 100000 in
theorem m_wants {l : Launch} {G : tb_G} (hl : l.stackTraces = false) (n : Nat) (J : zJ) (x : Int) (y : Int) (hr_x : -2147483648 ≤ x ∧ x < 2147483648) (hr_y : -2147483648 ≤ y ∧ y < 2147483648)  (hy : ¬ y = 0) : tz_Ok l G M_X12_wants 0 0 0 [.ref 164, zi x, zi y] n J (zqi (fun z J' => (zOf (zbut [164]) J' J ∧ ∀ k, ¬ k = 43 → ¬ k = 20 → J' 164 k = J 164 k) ∧ (z = 0 ∨ z = 1) ∧ (z = 1 → J = J' ∧ J 164 43 = 0 ∧ ¬ x = 0) ∧ (z = 0 → ¬ J' 164 43 = 0))) zN := by
  refine tz_Ok.of hl (by decide +kernel) rfl (tb_c1 rfl) (Nat.le_of_ble_eq_true rfl) ?_
  show tz_At l G M_X12_wants (tb_rm 0 0 0) none (tb_ZM G 0 0 (zQ n 0 (zqi (fun z J' => (zOf (zbut [164]) J' J ∧ ∀ k, ¬ k = 43 → ¬ k = 20 → J' 164 k = J 164 k) ∧ (z = 0 ∨ z = 1) ∧ (z = 1 → J = J' ∧ J 164 43 = 0 ∧ ¬ x = 0) ∧ (z = 0 → ¬ J' 164 43 = 0)))) (zX n 0 zN)) 0 0 n J 0 [some (.ref 164), some (zi x), some (zi y)] []
  refine tz_aload_n (pc := 0) dX12_wants_0 rfl rfl ?_
  refine tz_fI (pc := 1) (kz := 43) (v := (J 164 43)) dX12_wants_1 fl_X12_273 i_164_43 rfl rfl (fun r_1 => ?_)
  refine tz_if_ne (pc := 4) (tgt := 24) dX12_wants_4 (by decide) (by omega) (fun h_4 => ?_) (fun h_4 => ?_)
  · refine tz_aload_n (pc := 24) dX12_wants_24 rfl rfl ?_
    refine tz_fI (pc := 25) (kz := 43) (v := (J 164 43)) dX12_wants_25 fl_X12_273 i_164_43 rfl rfl (fun r_25 => ?_)
    refine tz_if_ne (pc := 28) (tgt := 35) dX12_wants_28 (by decide) (by omega) (fun h_28 => ?_) (fun h_28 => ?_)
    · refine tz_iconst (pc := 35) dX12_wants_35 ?_
      exact tz_zret (pc := 36) (z := 0) dX12_wants_36 rfl (Or.inl rfl) (Nat.le_of_ble_eq_true rfl) (Nat.le_of_ble_eq_true rfl) ⟨Nat.le_refl _, Nat.le_add_right _ _⟩ ⟨_, rfl, (by decide), ⟨⟨zOf.rf, fun _ _ _ => rfl⟩, by omega, fun q9 => ⟨rfl, by omega, by omega⟩, fun q9 => by omega⟩⟩
    · refine tz_iconst (pc := 31) dX12_wants_31 ?_
      refine tz_goto (pc := 32) (tgt := 36) dX12_wants_32 (by decide) ?_
      exact tz_zret (pc := 36) (z := 1) dX12_wants_36 rfl (Or.inr rfl) (Nat.le_of_ble_eq_true rfl) (Nat.le_of_ble_eq_true rfl) ⟨Nat.le_refl _, Nat.le_add_right _ _⟩ ⟨_, rfl, (by decide), ⟨⟨zOf.rf, fun _ _ _ => rfl⟩, by omega, fun q9 => ⟨rfl, by omega, by omega⟩, fun q9 => by omega⟩⟩
  · refine tz_iload_n (pc := 7) dX12_wants_7 rfl rfl ?_
    refine tz_if_ne (pc := 8) (tgt := 24) dX12_wants_8 (by decide) (by omega) (fun h_8 => ?_) (fun h_8 => ?_)
    · refine tz_aload_n (pc := 24) dX12_wants_24 rfl rfl ?_
      refine tz_fI (pc := 25) (kz := 43) (v := (J 164 43)) dX12_wants_25 fl_X12_273 i_164_43 rfl rfl (fun r_25 => ?_)
      refine tz_if_ne (pc := 28) (tgt := 35) dX12_wants_28 (by decide) (by omega) (fun h_28 => ?_) (fun h_28 => ?_)
      · refine tz_iconst (pc := 35) dX12_wants_35 ?_
        exact tz_zret (pc := 36) (z := 0) dX12_wants_36 rfl (Or.inl rfl) (Nat.le_of_ble_eq_true rfl) (Nat.le_of_ble_eq_true rfl) ⟨Nat.le_refl _, Nat.le_add_right _ _⟩ ⟨_, rfl, (by decide), ⟨⟨zOf.rf, fun _ _ _ => rfl⟩, by omega, fun q9 => ⟨rfl, by omega, by omega⟩, fun q9 => by omega⟩⟩
      · refine tz_iconst (pc := 31) dX12_wants_31 ?_
        refine tz_goto (pc := 32) (tgt := 36) dX12_wants_32 (by decide) ?_
        exact tz_zret (pc := 36) (z := 1) dX12_wants_36 rfl (Or.inr rfl) (Nat.le_of_ble_eq_true rfl) (Nat.le_of_ble_eq_true rfl) ⟨Nat.le_refl _, Nat.le_add_right _ _⟩ ⟨_, rfl, (by decide), ⟨⟨zOf.rf, fun _ _ _ => rfl⟩, by omega, fun q9 => ⟨rfl, by omega, by omega⟩, fun q9 => by omega⟩⟩
    · refine tz_aload_n (pc := 11) dX12_wants_11 rfl rfl ?_
      refine tz_iload_n (pc := 12) dX12_wants_12 rfl rfl ?_
      refine tz_pI (pc := 13) (kz := 43) dX12_wants_13 fl_X12_273 i_164_43 rfl rfl (by omega) ?_
      refine tz_aload_n (pc := 16) dX12_wants_16 rfl rfl ?_
      refine tz_aload_n (pc := 17) dX12_wants_17 rfl rfl ?_
      refine tz_fI (pc := 18) (kz := 36) (v := (J 164 36)) dX12_wants_18 fl_X12_246 i_164_36 rfl rfl (fun r_18 => ?_)
      refine tz_pI (pc := 21) (kz := 20) dX12_wants_21 fl_X12_37 i_164_20 rfl rfl (by omega) ?_
      refine tz_aload_n (pc := 24) dX12_wants_24 rfl rfl ?_
      refine tz_fI (pc := 25) (kz := 43) (v := y) dX12_wants_25 fl_X12_273 i_164_43 rfl rfl (fun r_25 => ?_)
      refine tz_if_ne (pc := 28) (tgt := 35) dX12_wants_28 (by decide) (by omega) (fun h_28 => ?_) (fun h_28 => ?_)
      · refine tz_iconst (pc := 35) dX12_wants_35 ?_
        exact tz_zret (pc := 36) (z := 0) dX12_wants_36 rfl (Or.inl rfl) (Nat.le_of_ble_eq_true rfl) (Nat.le_of_ble_eq_true rfl) ⟨Nat.le_refl _, Nat.le_add_right _ _⟩ ⟨_, rfl, (by decide), ⟨⟨zOf.up rfl (zOf.up rfl zOf.rf), fun k h1 h2 => (zup_ne h2).trans (zup_ne h1)⟩, by omega, fun q9 => by omega, fun q9 => by show ¬ zup J 164 43 y 164 43 = 0; rw [zup_at]; exact hy⟩⟩
      · refine tz_iconst (pc := 31) dX12_wants_31 ?_
        refine tz_goto (pc := 32) (tgt := 36) dX12_wants_32 (by decide) ?_
        exact tz_zret (pc := 36) (z := 1) dX12_wants_36 rfl (Or.inr rfl) (Nat.le_of_ble_eq_true rfl) (Nat.le_of_ble_eq_true rfl) ⟨Nat.le_refl _, Nat.le_add_right _ _⟩ ⟨_, rfl, (by decide), ⟨⟨zOf.up rfl (zOf.up rfl zOf.rf), fun k h1 h2 => (zup_ne h2).trans (zup_ne h1)⟩, by omega, fun q9 => by omega, fun q9 => by show ¬ zup J 164 43 y 164 43 = 0; rw [zup_at]; exact hy⟩⟩

set_option maxHeartbeats 4000000 in
set_option maxRecDepth 100000 in
theorem m_symOf {l : Launch} {G : tb_G} (hl : l.stackTraces = false) (n : Nat) (J : zJ) (x : Int) (hr_x : -2147483648 ≤ x ∧ x < 2147483648)  (h0 : 0 ≤ J 164 44 ∧ J 164 44 ≤ 10) : tz_Ok l G M_X12_symbolOf 0 0 0 [.ref 164, zi x] n J (zqi (fun z J' => J = J' ∧ (z = -1 ∨ (0 ≤ z ∧ z < J 164 44)))) zN := by
  refine tz_Ok.of hl (by decide +kernel) rfl (tb_c1 rfl) (Nat.le_of_ble_eq_true rfl) ?_
  show tz_At l G M_X12_symbolOf (tb_rm 0 0 0) none (tb_ZM G 0 0 (zQ n 0 (zqi (fun z J' => J = J' ∧ (z = -1 ∨ (0 ≤ z ∧ z < J 164 44))))) (zX n 0 zN)) 0 0 n J 0 [some (.ref 164), some (zi x), none] []
  refine tz_iconst (pc := 0) dX12_symbolOf_0 ?_
  refine tz_istore_n (pc := 1) (L2 := [_, _, _]) dX12_symbolOf_1 rfl (by decide) rfl ?_
  have loop2 : ∀ (f9 : Nat) (k : Int), ((10 - k).toNat) < f9 → (0 ≤ k ∧ k ≤ 10) → tz_At l G M_X12_symbolOf (tb_rm 0 0 0) none (tb_ZM G 0 0 (zQ n 0 (zqi (fun z J' => J = J' ∧ (z = -1 ∨ (0 ≤ z ∧ z < J 164 44))))) (zX n 0 zN)) 0 0 n J 2 [some (.ref 164), some (zi x), some (zi k)] [] := by
    intro f9
    induction f9 with
    | zero => intro k hm9; exact absurd hm9 (Nat.not_lt_zero _)
    | succ f9 ih2 =>
      intro k hm2 hk
      refine tz_iload_n (pc := 2) dX12_symbolOf_2 rfl rfl ?_
      refine tz_aload_n (pc := 3) dX12_symbolOf_3 rfl rfl ?_
      refine tz_fI (pc := 4) (kz := 44) (v := (J 164 44)) dX12_symbolOf_4 fl_X12_287 i_164_44 rfl rfl (fun r_4 => ?_)
      refine tz_icmp_ge (pc := 7) (tgt := 31) dX12_symbolOf_7 (by decide) (by omega) (by omega) (fun h_7 => ?_) (fun h_7 => ?_)
      · refine tz_iconst (pc := 31) dX12_symbolOf_31 ?_
        exact tz_iret (pc := 32) (z := (-1)) dX12_symbolOf_32 rfl (Nat.le_of_ble_eq_true rfl) (Nat.le_of_ble_eq_true rfl) ⟨Nat.le_refl _, Nat.le_add_right _ _⟩ ⟨_, rfl, (by decide), ⟨rfl, by omega⟩⟩
      · refine tz_aload_n (pc := 10) dX12_symbolOf_10 rfl rfl ?_
        refine tz_fR (pc := 11) dX12_symbolOf_11 fl_X12_22 r_164_4 ?_
        refine tz_bipush (pc := 14) dX12_symbolOf_14 (by decide) ?_
        refine tz_iload_n (pc := 16) dX12_symbolOf_16 rfl rfl ?_
        refine tz_iadd (pc := 17) (v := 10 + k) dX12_symbolOf_17 rfl ?_
        refine tz_aL (pc := 18) (z := (10 + k)) (v := (J 169 (10 + k))) dX12_symbolOf_18 a_169 rfl (by omega) rfl (fun r_18 => ?_)
        refine tz_iload_n (pc := 19) dX12_symbolOf_19 rfl rfl ?_
        refine tz_icmp_ne (pc := 20) (tgt := 25) dX12_symbolOf_20 (by decide) (by omega) (by omega) (fun h_20 => ?_) (fun h_20 => ?_)
        · refine tz_iinc (pc := 25) (z := k + 1) (L2 := [_, _, _]) dX12_symbolOf_25 rfl (by omega) rfl ?_
          refine tz_goto (pc := 28) (tgt := 2) dX12_symbolOf_28 (by decide) ?_
          exact ih2 (k + 1) (by omega) (by omega)
        · refine tz_iload_n (pc := 23) dX12_symbolOf_23 rfl rfl ?_
          exact tz_iret (pc := 24) (z := k) dX12_symbolOf_24 rfl (Nat.le_of_ble_eq_true rfl) (Nat.le_of_ble_eq_true rfl) ⟨Nat.le_refl _, Nat.le_add_right _ _⟩ ⟨_, rfl, (by omega), ⟨rfl, by omega⟩⟩
  exact loop2 _ 0 (Nat.lt_succ_self _) (by omega)

set_option maxHeartbeats 4000000 in
set_option maxRecDepth 100000 in
theorem m_wordFrom {l : Launch} {G : tb_G} (hl : l.stackTraces = false) (n : Nat) (J : zJ) (x : Int) (y : Int) (hr_x : -2147483648 ≤ x ∧ x < 2147483648) (hr_y : -2147483648 ≤ y ∧ y < 2147483648)  (h0 : 0 ≤ x ∧ x ≤ 700) (h1 : J 164 37 ≤ 700) (h2 : y ≤ 700) : tz_Ok l G M_X12_wordFrom 1 0 0 [.ref 164, zi x, zi y] n J (zqi (fun z J' => J = J' ∧ -1 ≤ z)) zN := by
  refine tz_Ok.of hl (by decide +kernel) rfl (tb_c1 rfl) (Nat.le_of_ble_eq_true rfl) ?_
  show tz_At l G M_X12_wordFrom (tb_rm 1 0 0) none (tb_ZM G 0 0 (zQ n 0 (zqi (fun z J' => J = J' ∧ -1 ≤ z))) (zX n 0 zN)) 0 0 n J 0 [some (.ref 164), some (zi x), some (zi y), none, none, none, none] []
  refine tz_iconst (pc := 0) dX12_wordFrom_0 ?_
  refine tz_istore_n (pc := 1) (L2 := [_, _, _, _, _, _, _]) dX12_wordFrom_1 rfl (by decide) rfl ?_
  refine tz_iload_n (pc := 2) dX12_wordFrom_2 rfl rfl ?_
  refine tz_istore (pc := 3) (L2 := [_, _, _, _, _, _, _]) dX12_wordFrom_3 (by decide) rfl ?_
  refine tz_iconst (pc := 5) dX12_wordFrom_5 ?_
  refine tz_istore (pc := 6) (L2 := [_, _, _, _, _, _, _]) dX12_wordFrom_6 (by decide) rfl ?_
  refine tz_iconst (pc := 8) dX12_wordFrom_8 ?_
  refine tz_istore (pc := 9) (L2 := [_, _, _, _, _, _, _]) dX12_wordFrom_9 (by decide) rfl ?_
  have loop11 : ∀ (f9 : Nat) (q : Int) (p : Int) (e : Int) (k : Int), ((31 - k).toNat) < f9 → (0 ≤ q ∧ q ≤ k) → (0 ≤ p ∧ p ≤ 700 + k) → (e = 0 ∨ e = 1) → (0 ≤ k ∧ k ≤ 31) → tz_At l G M_X12_wordFrom (tb_rm 1 0 0) none (tb_ZM G 0 0 (zQ n 0 (zqi (fun z J' => J = J' ∧ -1 ≤ z))) (zX n 0 zN)) 0 0 n J 11 [some (.ref 164), some (zi x), some (zi y), some (zi q), some (zi p), some (zi e), some (zi k)] [] := by
    intro f9
    induction f9 with
    | zero => intro q p e k hm9; exact absurd hm9 (Nat.not_lt_zero _)
    | succ f9 ih11 =>
      intro q p e k hm11 hq hp he hk
      refine tz_iload (pc := 11) dX12_wordFrom_11 rfl ?_
      refine tz_knL (pc := 13) dX12_wordFrom_13 dX12_wordFrom_16 (by decide +kernel) ?_
      refine tz_icmp_ge (pc := 17) (tgt := 98) dX12_wordFrom_17 (by decide) (by omega) (by decide) (fun h_17 => ?_) (fun h_17 => ?_)
      · refine tz_iconst (pc := 98) dX12_wordFrom_98 ?_
        exact tz_iret (pc := 99) (z := (-1)) dX12_wordFrom_99 rfl (Nat.le_of_ble_eq_true rfl) (Nat.le_of_ble_eq_true rfl) ⟨Nat.le_refl _, Nat.le_add_right _ _⟩ ⟨_, rfl, (by decide), ⟨rfl, by omega⟩⟩
      · obtain ⟨v_20, hv_20⟩ : ∃ v, (tb_kn.getD k.toNat 0).toInt = v := ⟨_, rfl⟩
        have hw_20 : -2147483648 ≤ v_20 ∧ v_20 < 2147483648 := hv_20 ▸ z_rg _
        refine tz_knD (pc := 20) (k9 := k) (v := v_20) (by omega) hv_20 rfl dX12_wordFrom_20 dX12_wordFrom_23 dX12_wordFrom_25 (by decide +kernel) ?_
        refine tz_bipush (pc := 26) dX12_wordFrom_26 (by decide) ?_
        refine tz_icmp_ne (pc := 28) (tgt := 56) dX12_wordFrom_28 (by decide) (by omega) (by decide) (fun h_28 => ?_) (fun h_28 => ?_)
        · refine tz_iload (pc := 56) dX12_wordFrom_56 rfl ?_
          refine tz_if_eq (pc := 58) (tgt := 86) dX12_wordFrom_58 (by decide) (by omega) (fun h_58 => ?_) (fun h_58 => ?_)
          · refine tz_iconst (pc := 86) dX12_wordFrom_86 ?_
            refine tz_istore (pc := 87) (L2 := [_, _, _, _, _, _, _]) dX12_wordFrom_87 (by decide) rfl ?_
            refine tz_iinc (pc := 89) (z := p + 1) (L2 := [_, _, _, _, _, _, _]) dX12_wordFrom_89 rfl (by omega) rfl ?_
            refine tz_iinc (pc := 92) (z := k + 1) (L2 := [_, _, _, _, _, _, _]) dX12_wordFrom_92 rfl (by omega) rfl ?_
            refine tz_goto (pc := 95) (tgt := 11) dX12_wordFrom_95 (by decide) ?_
            exact ih11 _ _ _ (k + 1) (by omega) (by omega) (by omega) (by omega) (by omega)
          · refine tz_iload (pc := 61) dX12_wordFrom_61 rfl ?_
            refine tz_iload_n (pc := 63) dX12_wordFrom_63 rfl rfl ?_
            refine tz_icmp_ge (pc := 64) (tgt := 86) dX12_wordFrom_64 (by decide) (by omega) (by omega) (fun h_64 => ?_) (fun h_64 => ?_)
            · refine tz_iconst (pc := 86) dX12_wordFrom_86 ?_
              refine tz_istore (pc := 87) (L2 := [_, _, _, _, _, _, _]) dX12_wordFrom_87 (by decide) rfl ?_
              refine tz_iinc (pc := 89) (z := p + 1) (L2 := [_, _, _, _, _, _, _]) dX12_wordFrom_89 rfl (by omega) rfl ?_
              refine tz_iinc (pc := 92) (z := k + 1) (L2 := [_, _, _, _, _, _, _]) dX12_wordFrom_92 rfl (by omega) rfl ?_
              refine tz_goto (pc := 95) (tgt := 11) dX12_wordFrom_95 (by decide) ?_
              exact ih11 _ _ _ (k + 1) (by omega) (by omega) (by omega) (by omega) (by omega)
            · refine tz_aload_n (pc := 67) dX12_wordFrom_67 rfl rfl ?_
              refine tz_iload (pc := 68) dX12_wordFrom_68 rfl ?_
              refine tz_cV (pc := 70) (m_byteAt hl n _ _ (by omega) (by omega) h1) vl_X12_240 dX12_wordFrom_70 o_164 rfl rfl (Nat.le_of_ble_eq_true rfl) ⟨(Nat.le_of_ble_eq_true rfl), (Nat.le_of_ble_eq_true rfl)⟩ rfl rfl (Nat.le_of_ble_eq_true rfl) (Nat.le_of_ble_eq_true rfl) (fun r9 J_70 hq9 => ?_)
              obtain ⟨z_70, rfl, hz_70, rfl, hb70, hc70⟩ := hq9
              obtain ⟨v_73, hv_73⟩ : ∃ v, (tb_kn.getD k.toNat 0).toInt = v := ⟨_, rfl⟩
              have hw_73 : -2147483648 ≤ v_73 ∧ v_73 < 2147483648 := hv_73 ▸ z_rg _
              refine tz_knD (pc := 73) (k9 := k) (v := v_73) (by omega) hv_73 rfl dX12_wordFrom_73 dX12_wordFrom_76 dX12_wordFrom_78 (by decide +kernel) ?_
              refine tz_icmp_ne (pc := 79) (tgt := 86) dX12_wordFrom_79 (by decide) (by omega) (by omega) (fun h_79 => ?_) (fun h_79 => ?_)
              · refine tz_iconst (pc := 86) dX12_wordFrom_86 ?_
                refine tz_istore (pc := 87) (L2 := [_, _, _, _, _, _, _]) dX12_wordFrom_87 (by decide) rfl ?_
                refine tz_iinc (pc := 89) (z := p + 1) (L2 := [_, _, _, _, _, _, _]) dX12_wordFrom_89 rfl (by omega) rfl ?_
                refine tz_iinc (pc := 92) (z := k + 1) (L2 := [_, _, _, _, _, _, _]) dX12_wordFrom_92 rfl (by omega) rfl ?_
                refine tz_goto (pc := 95) (tgt := 11) dX12_wordFrom_95 (by decide) ?_
                exact ih11 _ _ _ (k + 1) (by omega) (by omega) (by omega) (by omega) (by omega)
              · refine tz_iconst (pc := 82) dX12_wordFrom_82 ?_
                refine tz_goto (pc := 83) (tgt := 87) dX12_wordFrom_83 (by decide) ?_
                refine tz_istore (pc := 87) (L2 := [_, _, _, _, _, _, _]) dX12_wordFrom_87 (by decide) rfl ?_
                refine tz_iinc (pc := 89) (z := p + 1) (L2 := [_, _, _, _, _, _, _]) dX12_wordFrom_89 rfl (by omega) rfl ?_
                refine tz_iinc (pc := 92) (z := k + 1) (L2 := [_, _, _, _, _, _, _]) dX12_wordFrom_92 rfl (by omega) rfl ?_
                refine tz_goto (pc := 95) (tgt := 11) dX12_wordFrom_95 (by decide) ?_
                exact ih11 _ _ _ (k + 1) (by omega) (by omega) (by omega) (by omega) (by omega)
        · refine tz_iload (pc := 31) dX12_wordFrom_31 rfl ?_
          refine tz_if_eq (pc := 33) (tgt := 44) dX12_wordFrom_33 (by decide) (by omega) (fun h_33 => ?_) (fun h_33 => ?_)
          · refine tz_iinc (pc := 44) (z := q + 1) (L2 := [_, _, _, _, _, _, _]) dX12_wordFrom_44 rfl (by omega) rfl ?_
            refine tz_iload_n (pc := 47) dX12_wordFrom_47 rfl rfl ?_
            refine tz_istore (pc := 48) (L2 := [_, _, _, _, _, _, _]) dX12_wordFrom_48 (by decide) rfl ?_
            refine tz_iconst (pc := 50) dX12_wordFrom_50 ?_
            refine tz_istore (pc := 51) (L2 := [_, _, _, _, _, _, _]) dX12_wordFrom_51 (by decide) rfl ?_
            refine tz_goto (pc := 53) (tgt := 92) dX12_wordFrom_53 (by decide) ?_
            refine tz_iinc (pc := 92) (z := k + 1) (L2 := [_, _, _, _, _, _, _]) dX12_wordFrom_92 rfl (by omega) rfl ?_
            refine tz_goto (pc := 95) (tgt := 11) dX12_wordFrom_95 (by decide) ?_
            exact ih11 _ _ _ (k + 1) (by omega) (by omega) (by omega) (by omega) (by omega)
          · refine tz_iload (pc := 36) dX12_wordFrom_36 rfl ?_
            refine tz_iload_n (pc := 38) dX12_wordFrom_38 rfl rfl ?_
            refine tz_icmp_ne (pc := 39) (tgt := 44) dX12_wordFrom_39 (by decide) (by omega) (by omega) (fun h_39 => ?_) (fun h_39 => ?_)
            · refine tz_iinc (pc := 44) (z := q + 1) (L2 := [_, _, _, _, _, _, _]) dX12_wordFrom_44 rfl (by omega) rfl ?_
              refine tz_iload_n (pc := 47) dX12_wordFrom_47 rfl rfl ?_
              refine tz_istore (pc := 48) (L2 := [_, _, _, _, _, _, _]) dX12_wordFrom_48 (by decide) rfl ?_
              refine tz_iconst (pc := 50) dX12_wordFrom_50 ?_
              refine tz_istore (pc := 51) (L2 := [_, _, _, _, _, _, _]) dX12_wordFrom_51 (by decide) rfl ?_
              refine tz_goto (pc := 53) (tgt := 92) dX12_wordFrom_53 (by decide) ?_
              refine tz_iinc (pc := 92) (z := k + 1) (L2 := [_, _, _, _, _, _, _]) dX12_wordFrom_92 rfl (by omega) rfl ?_
              refine tz_goto (pc := 95) (tgt := 11) dX12_wordFrom_95 (by decide) ?_
              exact ih11 _ _ _ (k + 1) (by omega) (by omega) (by omega) (by omega) (by omega)
            · refine tz_iload_n (pc := 42) dX12_wordFrom_42 rfl rfl ?_
              exact tz_iret (pc := 43) (z := q) dX12_wordFrom_43 rfl (Nat.le_of_ble_eq_true rfl) (Nat.le_of_ble_eq_true rfl) ⟨Nat.le_refl _, Nat.le_add_right _ _⟩ ⟨_, rfl, (by omega), ⟨rfl, by omega⟩⟩
  exact loop11 _ 0 x 1 0 (Nat.lt_succ_self _) (by omega) (by omega) (by omega) (by omega)

