def RD2 (J : zJ) : Prop := RD J ∧ (J 163 5 = 0 ∨ J 163 6 < J 163 4)
/-- only the reader's own fields; a fault stays -/
def RN (J' J : zJ) : Prop := zOf (zbut [163]) J' J ∧ J' 163 4 = J 163 4 ∧ (J' 163 8 = 0 → J 163 8 = 0)
theorem RN.rf {J : zJ} : RN J J := ⟨zOf.rf, rfl, id⟩
theorem RN.tr {J3 J2 J1 : zJ} (h : RN J3 J2) (g : RN J2 J1) : RN J3 J1 := ⟨h.1.tr g.1, h.2.1.trans g.2.1, fun q => g.2.2 (h.2.2 q)⟩
def zmn (a b : Int) : Int := if b < a then b else a
theorem zmn_le (a b : Int) : (zmn a b ≤ a ∧ zmn a b ≤ b) ∧ (zmn a b = a ∨ zmn a b = b) := by
  unfold zmn
  split <;> omega
set_option maxHeartbeats 4000000 in
set_option maxRecDepth 100000 in
theorem c_kindOf {l : Launch} {G : tb_G} (hl : l.stackTraces = false) (n : Nat) (J : zJ) (x : Int) (hr_x : -2147483648 ≤ x ∧ x < 2147483648)   : tz_Ok l G M_X5_kindOf 0 0 0 [zi x] n J (zqi (fun z J' => J = J')) zN := by
  refine tz_Ok.of hl (by decide +kernel) rfl (tb_c1 rfl) (Nat.le_of_ble_eq_true rfl) ?_
  show tz_At l G M_X5_kindOf (tb_rm 0 0 0) none (tb_ZM G 0 0 (zQ n 0 (zqi (fun z J' => J = J'))) (zX n 0 zN)) 0 0 n J 0 [some (zi x), none] []
  refine tz_iload_n (pc := 0) dX5_kindOf_0 rfl rfl ?_
  refine tz_bipush (pc := 1) dX5_kindOf_1 (by decide) ?_
  refine tz_icmp_lt (pc := 3) (tgt := 14) dX5_kindOf_3 (by decide) (by omega) (by decide) (fun h_3 => ?_) (fun h_3 => ?_)
  · refine tz_iload_n (pc := 14) dX5_kindOf_14 rfl rfl ?_
    refine tz_bipush (pc := 15) dX5_kindOf_15 (by decide) ?_
    refine tz_icmp_lt (pc := 17) (tgt := 28) dX5_kindOf_17 (by decide) (by omega) (by decide) (fun h_17 => ?_) (fun h_17 => ?_)
    · refine tz_iload_n (pc := 28) dX5_kindOf_28 rfl rfl ?_
      refine tz_bipush (pc := 29) dX5_kindOf_29 (by decide) ?_
      refine tz_icmp_eq (pc := 31) (tgt := 58) dX5_kindOf_31 (by decide) (by omega) (by decide) (fun h_31 => ?_) (fun h_31 => ?_)
      · refine tz_iconst (pc := 58) dX5_kindOf_58 ?_
        refine tz_goto (pc := 59) (tgt := 63) dX5_kindOf_59 (by decide) ?_
        refine tz_istore_n (pc := 63) (L2 := [_, _]) dX5_kindOf_63 rfl (by decide) rfl ?_
        refine tz_iload_n (pc := 64) dX5_kindOf_64 rfl rfl ?_
        refine tz_if_eqF (pc := 65) (tgt := 72) (by decide) dX5_kindOf_65 (by decide) (by decide) ?_
        refine tz_iload_n (pc := 68) dX5_kindOf_68 rfl rfl ?_
        refine tz_goto (pc := 69) (tgt := 73) dX5_kindOf_69 (by decide) ?_
        exact tz_iret (pc := 73) (z := x) dX5_kindOf_73 rfl (Nat.le_of_ble_eq_true rfl) (Nat.le_of_ble_eq_true rfl) ⟨Nat.le_refl _, Nat.le_add_right _ _⟩ ⟨_, rfl, (by omega), rfl⟩
      · refine tz_iload_n (pc := 34) dX5_kindOf_34 rfl rfl ?_
        refine tz_bipush (pc := 35) dX5_kindOf_35 (by decide) ?_
        refine tz_icmp_eq (pc := 37) (tgt := 58) dX5_kindOf_37 (by decide) (by omega) (by decide) (fun h_37 => ?_) (fun h_37 => ?_)
        · refine tz_iconst (pc := 58) dX5_kindOf_58 ?_
          refine tz_goto (pc := 59) (tgt := 63) dX5_kindOf_59 (by decide) ?_
          refine tz_istore_n (pc := 63) (L2 := [_, _]) dX5_kindOf_63 rfl (by decide) rfl ?_
          refine tz_iload_n (pc := 64) dX5_kindOf_64 rfl rfl ?_
          refine tz_if_eqF (pc := 65) (tgt := 72) (by decide) dX5_kindOf_65 (by decide) (by decide) ?_
          refine tz_iload_n (pc := 68) dX5_kindOf_68 rfl rfl ?_
          refine tz_goto (pc := 69) (tgt := 73) dX5_kindOf_69 (by decide) ?_
          exact tz_iret (pc := 73) (z := x) dX5_kindOf_73 rfl (Nat.le_of_ble_eq_true rfl) (Nat.le_of_ble_eq_true rfl) ⟨Nat.le_refl _, Nat.le_add_right _ _⟩ ⟨_, rfl, (by omega), rfl⟩
        · refine tz_iload_n (pc := 40) dX5_kindOf_40 rfl rfl ?_
          refine tz_bipush (pc := 41) dX5_kindOf_41 (by decide) ?_
          refine tz_icmp_eq (pc := 43) (tgt := 58) dX5_kindOf_43 (by decide) (by omega) (by decide) (fun h_43 => ?_) (fun h_43 => ?_)
          · refine tz_iconst (pc := 58) dX5_kindOf_58 ?_
            refine tz_goto (pc := 59) (tgt := 63) dX5_kindOf_59 (by decide) ?_
            refine tz_istore_n (pc := 63) (L2 := [_, _]) dX5_kindOf_63 rfl (by decide) rfl ?_
            refine tz_iload_n (pc := 64) dX5_kindOf_64 rfl rfl ?_
            refine tz_if_eqF (pc := 65) (tgt := 72) (by decide) dX5_kindOf_65 (by decide) (by decide) ?_
            refine tz_iload_n (pc := 68) dX5_kindOf_68 rfl rfl ?_
            refine tz_goto (pc := 69) (tgt := 73) dX5_kindOf_69 (by decide) ?_
            exact tz_iret (pc := 73) (z := x) dX5_kindOf_73 rfl (Nat.le_of_ble_eq_true rfl) (Nat.le_of_ble_eq_true rfl) ⟨Nat.le_refl _, Nat.le_add_right _ _⟩ ⟨_, rfl, (by omega), rfl⟩
          · refine tz_iload_n (pc := 46) dX5_kindOf_46 rfl rfl ?_
            refine tz_bipush (pc := 47) dX5_kindOf_47 (by decide) ?_
            refine tz_icmp_eq (pc := 49) (tgt := 58) dX5_kindOf_49 (by decide) (by omega) (by decide) (fun h_49 => ?_) (fun h_49 => ?_)
            · refine tz_iconst (pc := 58) dX5_kindOf_58 ?_
              refine tz_goto (pc := 59) (tgt := 63) dX5_kindOf_59 (by decide) ?_
              refine tz_istore_n (pc := 63) (L2 := [_, _]) dX5_kindOf_63 rfl (by decide) rfl ?_
              refine tz_iload_n (pc := 64) dX5_kindOf_64 rfl rfl ?_
              refine tz_if_eqF (pc := 65) (tgt := 72) (by decide) dX5_kindOf_65 (by decide) (by decide) ?_
              refine tz_iload_n (pc := 68) dX5_kindOf_68 rfl rfl ?_
              refine tz_goto (pc := 69) (tgt := 73) dX5_kindOf_69 (by decide) ?_
              exact tz_iret (pc := 73) (z := x) dX5_kindOf_73 rfl (Nat.le_of_ble_eq_true rfl) (Nat.le_of_ble_eq_true rfl) ⟨Nat.le_refl _, Nat.le_add_right _ _⟩ ⟨_, rfl, (by omega), rfl⟩
            · refine tz_iload_n (pc := 52) dX5_kindOf_52 rfl rfl ?_
              refine tz_bipush (pc := 53) dX5_kindOf_53 (by decide) ?_
              refine tz_icmp_ne (pc := 55) (tgt := 62) dX5_kindOf_55 (by decide) (by omega) (by decide) (fun h_55 => ?_) (fun h_55 => ?_)
              · refine tz_iconst (pc := 62) dX5_kindOf_62 ?_
                refine tz_istore_n (pc := 63) (L2 := [_, _]) dX5_kindOf_63 rfl (by decide) rfl ?_
                refine tz_iload_n (pc := 64) dX5_kindOf_64 rfl rfl ?_
                refine tz_if_eqT (pc := 65) (tgt := 72) (by decide) dX5_kindOf_65 (by decide) (by decide) ?_
                refine tz_iconst (pc := 72) dX5_kindOf_72 ?_
                exact tz_iret (pc := 73) (z := 1) dX5_kindOf_73 rfl (Nat.le_of_ble_eq_true rfl) (Nat.le_of_ble_eq_true rfl) ⟨Nat.le_refl _, Nat.le_add_right _ _⟩ ⟨_, rfl, (by decide), rfl⟩
              · refine tz_iconst (pc := 58) dX5_kindOf_58 ?_
                refine tz_goto (pc := 59) (tgt := 63) dX5_kindOf_59 (by decide) ?_
                refine tz_istore_n (pc := 63) (L2 := [_, _]) dX5_kindOf_63 rfl (by decide) rfl ?_
                refine tz_iload_n (pc := 64) dX5_kindOf_64 rfl rfl ?_
                refine tz_if_eqF (pc := 65) (tgt := 72) (by decide) dX5_kindOf_65 (by decide) (by decide) ?_
                refine tz_iload_n (pc := 68) dX5_kindOf_68 rfl rfl ?_
                refine tz_goto (pc := 69) (tgt := 73) dX5_kindOf_69 (by decide) ?_
                exact tz_iret (pc := 73) (z := x) dX5_kindOf_73 rfl (Nat.le_of_ble_eq_true rfl) (Nat.le_of_ble_eq_true rfl) ⟨Nat.le_refl _, Nat.le_add_right _ _⟩ ⟨_, rfl, (by omega), rfl⟩
    · refine tz_iload_n (pc := 20) dX5_kindOf_20 rfl rfl ?_
      refine tz_bipush (pc := 21) dX5_kindOf_21 (by decide) ?_
      refine tz_icmp_gt (pc := 23) (tgt := 28) dX5_kindOf_23 (by decide) (by omega) (by decide) (fun h_23 => ?_) (fun h_23 => ?_)
      · refine tz_iload_n (pc := 28) dX5_kindOf_28 rfl rfl ?_
        refine tz_bipush (pc := 29) dX5_kindOf_29 (by decide) ?_
        refine tz_icmp_eq (pc := 31) (tgt := 58) dX5_kindOf_31 (by decide) (by omega) (by decide) (fun h_31 => ?_) (fun h_31 => ?_)
        · refine tz_iconst (pc := 58) dX5_kindOf_58 ?_
          refine tz_goto (pc := 59) (tgt := 63) dX5_kindOf_59 (by decide) ?_
          refine tz_istore_n (pc := 63) (L2 := [_, _]) dX5_kindOf_63 rfl (by decide) rfl ?_
          refine tz_iload_n (pc := 64) dX5_kindOf_64 rfl rfl ?_
          refine tz_if_eqF (pc := 65) (tgt := 72) (by decide) dX5_kindOf_65 (by decide) (by decide) ?_
          refine tz_iload_n (pc := 68) dX5_kindOf_68 rfl rfl ?_
          refine tz_goto (pc := 69) (tgt := 73) dX5_kindOf_69 (by decide) ?_
          exact tz_iret (pc := 73) (z := x) dX5_kindOf_73 rfl (Nat.le_of_ble_eq_true rfl) (Nat.le_of_ble_eq_true rfl) ⟨Nat.le_refl _, Nat.le_add_right _ _⟩ ⟨_, rfl, (by omega), rfl⟩
        · refine tz_iload_n (pc := 34) dX5_kindOf_34 rfl rfl ?_
          refine tz_bipush (pc := 35) dX5_kindOf_35 (by decide) ?_
          refine tz_icmp_eq (pc := 37) (tgt := 58) dX5_kindOf_37 (by decide) (by omega) (by decide) (fun h_37 => ?_) (fun h_37 => ?_)
          · refine tz_iconst (pc := 58) dX5_kindOf_58 ?_
            refine tz_goto (pc := 59) (tgt := 63) dX5_kindOf_59 (by decide) ?_
            refine tz_istore_n (pc := 63) (L2 := [_, _]) dX5_kindOf_63 rfl (by decide) rfl ?_
            refine tz_iload_n (pc := 64) dX5_kindOf_64 rfl rfl ?_
            refine tz_if_eqF (pc := 65) (tgt := 72) (by decide) dX5_kindOf_65 (by decide) (by decide) ?_
            refine tz_iload_n (pc := 68) dX5_kindOf_68 rfl rfl ?_
            refine tz_goto (pc := 69) (tgt := 73) dX5_kindOf_69 (by decide) ?_
            exact tz_iret (pc := 73) (z := x) dX5_kindOf_73 rfl (Nat.le_of_ble_eq_true rfl) (Nat.le_of_ble_eq_true rfl) ⟨Nat.le_refl _, Nat.le_add_right _ _⟩ ⟨_, rfl, (by omega), rfl⟩
          · refine tz_iload_n (pc := 40) dX5_kindOf_40 rfl rfl ?_
            refine tz_bipush (pc := 41) dX5_kindOf_41 (by decide) ?_
            refine tz_icmp_eq (pc := 43) (tgt := 58) dX5_kindOf_43 (by decide) (by omega) (by decide) (fun h_43 => ?_) (fun h_43 => ?_)
            · refine tz_iconst (pc := 58) dX5_kindOf_58 ?_
              refine tz_goto (pc := 59) (tgt := 63) dX5_kindOf_59 (by decide) ?_
              refine tz_istore_n (pc := 63) (L2 := [_, _]) dX5_kindOf_63 rfl (by decide) rfl ?_
              refine tz_iload_n (pc := 64) dX5_kindOf_64 rfl rfl ?_
              refine tz_if_eqF (pc := 65) (tgt := 72) (by decide) dX5_kindOf_65 (by decide) (by decide) ?_
              refine tz_iload_n (pc := 68) dX5_kindOf_68 rfl rfl ?_
              refine tz_goto (pc := 69) (tgt := 73) dX5_kindOf_69 (by decide) ?_
              exact tz_iret (pc := 73) (z := x) dX5_kindOf_73 rfl (Nat.le_of_ble_eq_true rfl) (Nat.le_of_ble_eq_true rfl) ⟨Nat.le_refl _, Nat.le_add_right _ _⟩ ⟨_, rfl, (by omega), rfl⟩
            · refine tz_iload_n (pc := 46) dX5_kindOf_46 rfl rfl ?_
              refine tz_bipush (pc := 47) dX5_kindOf_47 (by decide) ?_
              refine tz_icmp_eq (pc := 49) (tgt := 58) dX5_kindOf_49 (by decide) (by omega) (by decide) (fun h_49 => ?_) (fun h_49 => ?_)
              · refine tz_iconst (pc := 58) dX5_kindOf_58 ?_
                refine tz_goto (pc := 59) (tgt := 63) dX5_kindOf_59 (by decide) ?_
                refine tz_istore_n (pc := 63) (L2 := [_, _]) dX5_kindOf_63 rfl (by decide) rfl ?_
                refine tz_iload_n (pc := 64) dX5_kindOf_64 rfl rfl ?_
                refine tz_if_eqF (pc := 65) (tgt := 72) (by decide) dX5_kindOf_65 (by decide) (by decide) ?_
                refine tz_iload_n (pc := 68) dX5_kindOf_68 rfl rfl ?_
                refine tz_goto (pc := 69) (tgt := 73) dX5_kindOf_69 (by decide) ?_
                exact tz_iret (pc := 73) (z := x) dX5_kindOf_73 rfl (Nat.le_of_ble_eq_true rfl) (Nat.le_of_ble_eq_true rfl) ⟨Nat.le_refl _, Nat.le_add_right _ _⟩ ⟨_, rfl, (by omega), rfl⟩
              · refine tz_iload_n (pc := 52) dX5_kindOf_52 rfl rfl ?_
                refine tz_bipush (pc := 53) dX5_kindOf_53 (by decide) ?_
                refine tz_icmp_ne (pc := 55) (tgt := 62) dX5_kindOf_55 (by decide) (by omega) (by decide) (fun h_55 => ?_) (fun h_55 => ?_)
                · refine tz_iconst (pc := 62) dX5_kindOf_62 ?_
                  refine tz_istore_n (pc := 63) (L2 := [_, _]) dX5_kindOf_63 rfl (by decide) rfl ?_
                  refine tz_iload_n (pc := 64) dX5_kindOf_64 rfl rfl ?_
                  refine tz_if_eqT (pc := 65) (tgt := 72) (by decide) dX5_kindOf_65 (by decide) (by decide) ?_
                  refine tz_iconst (pc := 72) dX5_kindOf_72 ?_
                  exact tz_iret (pc := 73) (z := 1) dX5_kindOf_73 rfl (Nat.le_of_ble_eq_true rfl) (Nat.le_of_ble_eq_true rfl) ⟨Nat.le_refl _, Nat.le_add_right _ _⟩ ⟨_, rfl, (by decide), rfl⟩
                · refine tz_iconst (pc := 58) dX5_kindOf_58 ?_
                  refine tz_goto (pc := 59) (tgt := 63) dX5_kindOf_59 (by decide) ?_
                  refine tz_istore_n (pc := 63) (L2 := [_, _]) dX5_kindOf_63 rfl (by decide) rfl ?_
                  refine tz_iload_n (pc := 64) dX5_kindOf_64 rfl rfl ?_
                  refine tz_if_eqF (pc := 65) (tgt := 72) (by decide) dX5_kindOf_65 (by decide) (by decide) ?_
                  refine tz_iload_n (pc := 68) dX5_kindOf_68 rfl rfl ?_
                  refine tz_goto (pc := 69) (tgt := 73) dX5_kindOf_69 (by decide) ?_
                  exact tz_iret (pc := 73) (z := x) dX5_kindOf_73 rfl (Nat.le_of_ble_eq_true rfl) (Nat.le_of_ble_eq_true rfl) ⟨Nat.le_refl _, Nat.le_add_right _ _⟩ ⟨_, rfl, (by omega), rfl⟩
      · refine tz_iconst (pc := 26) dX5_kindOf_26 ?_
        exact tz_iret (pc := 27) (z := 3) dX5_kindOf_27 rfl (Nat.le_of_ble_eq_true rfl) (Nat.le_of_ble_eq_true rfl) ⟨Nat.le_refl _, Nat.le_add_right _ _⟩ ⟨_, rfl, (by decide), rfl⟩
  · refine tz_iload_n (pc := 6) dX5_kindOf_6 rfl rfl ?_
    refine tz_bipush (pc := 7) dX5_kindOf_7 (by decide) ?_
    refine tz_icmp_gt (pc := 9) (tgt := 14) dX5_kindOf_9 (by decide) (by omega) (by decide) (fun h_9 => ?_) (fun h_9 => ?_)
    · refine tz_iload_n (pc := 14) dX5_kindOf_14 rfl rfl ?_
      refine tz_bipush (pc := 15) dX5_kindOf_15 (by decide) ?_
      refine tz_icmp_lt (pc := 17) (tgt := 28) dX5_kindOf_17 (by decide) (by omega) (by decide) (fun h_17 => ?_) (fun h_17 => ?_)
      · refine tz_iload_n (pc := 28) dX5_kindOf_28 rfl rfl ?_
        refine tz_bipush (pc := 29) dX5_kindOf_29 (by decide) ?_
        refine tz_icmp_eq (pc := 31) (tgt := 58) dX5_kindOf_31 (by decide) (by omega) (by decide) (fun h_31 => ?_) (fun h_31 => ?_)
        · refine tz_iconst (pc := 58) dX5_kindOf_58 ?_
          refine tz_goto (pc := 59) (tgt := 63) dX5_kindOf_59 (by decide) ?_
          refine tz_istore_n (pc := 63) (L2 := [_, _]) dX5_kindOf_63 rfl (by decide) rfl ?_
          refine tz_iload_n (pc := 64) dX5_kindOf_64 rfl rfl ?_
          refine tz_if_eqF (pc := 65) (tgt := 72) (by decide) dX5_kindOf_65 (by decide) (by decide) ?_
          refine tz_iload_n (pc := 68) dX5_kindOf_68 rfl rfl ?_
          refine tz_goto (pc := 69) (tgt := 73) dX5_kindOf_69 (by decide) ?_
          exact tz_iret (pc := 73) (z := x) dX5_kindOf_73 rfl (Nat.le_of_ble_eq_true rfl) (Nat.le_of_ble_eq_true rfl) ⟨Nat.le_refl _, Nat.le_add_right _ _⟩ ⟨_, rfl, (by omega), rfl⟩
        · refine tz_iload_n (pc := 34) dX5_kindOf_34 rfl rfl ?_
          refine tz_bipush (pc := 35) dX5_kindOf_35 (by decide) ?_
          refine tz_icmp_eq (pc := 37) (tgt := 58) dX5_kindOf_37 (by decide) (by omega) (by decide) (fun h_37 => ?_) (fun h_37 => ?_)
          · refine tz_iconst (pc := 58) dX5_kindOf_58 ?_
            refine tz_goto (pc := 59) (tgt := 63) dX5_kindOf_59 (by decide) ?_
            refine tz_istore_n (pc := 63) (L2 := [_, _]) dX5_kindOf_63 rfl (by decide) rfl ?_
            refine tz_iload_n (pc := 64) dX5_kindOf_64 rfl rfl ?_
            refine tz_if_eqF (pc := 65) (tgt := 72) (by decide) dX5_kindOf_65 (by decide) (by decide) ?_
            refine tz_iload_n (pc := 68) dX5_kindOf_68 rfl rfl ?_
            refine tz_goto (pc := 69) (tgt := 73) dX5_kindOf_69 (by decide) ?_
            exact tz_iret (pc := 73) (z := x) dX5_kindOf_73 rfl (Nat.le_of_ble_eq_true rfl) (Nat.le_of_ble_eq_true rfl) ⟨Nat.le_refl _, Nat.le_add_right _ _⟩ ⟨_, rfl, (by omega), rfl⟩
          · refine tz_iload_n (pc := 40) dX5_kindOf_40 rfl rfl ?_
            refine tz_bipush (pc := 41) dX5_kindOf_41 (by decide) ?_
            refine tz_icmp_eq (pc := 43) (tgt := 58) dX5_kindOf_43 (by decide) (by omega) (by decide) (fun h_43 => ?_) (fun h_43 => ?_)
            · refine tz_iconst (pc := 58) dX5_kindOf_58 ?_
              refine tz_goto (pc := 59) (tgt := 63) dX5_kindOf_59 (by decide) ?_
              refine tz_istore_n (pc := 63) (L2 := [_, _]) dX5_kindOf_63 rfl (by decide) rfl ?_
              refine tz_iload_n (pc := 64) dX5_kindOf_64 rfl rfl ?_
              refine tz_if_eqF (pc := 65) (tgt := 72) (by decide) dX5_kindOf_65 (by decide) (by decide) ?_
              refine tz_iload_n (pc := 68) dX5_kindOf_68 rfl rfl ?_
              refine tz_goto (pc := 69) (tgt := 73) dX5_kindOf_69 (by decide) ?_
              exact tz_iret (pc := 73) (z := x) dX5_kindOf_73 rfl (Nat.le_of_ble_eq_true rfl) (Nat.le_of_ble_eq_true rfl) ⟨Nat.le_refl _, Nat.le_add_right _ _⟩ ⟨_, rfl, (by omega), rfl⟩
            · refine tz_iload_n (pc := 46) dX5_kindOf_46 rfl rfl ?_
              refine tz_bipush (pc := 47) dX5_kindOf_47 (by decide) ?_
              refine tz_icmp_eq (pc := 49) (tgt := 58) dX5_kindOf_49 (by decide) (by omega) (by decide) (fun h_49 => ?_) (fun h_49 => ?_)
              · refine tz_iconst (pc := 58) dX5_kindOf_58 ?_
                refine tz_goto (pc := 59) (tgt := 63) dX5_kindOf_59 (by decide) ?_
                refine tz_istore_n (pc := 63) (L2 := [_, _]) dX5_kindOf_63 rfl (by decide) rfl ?_
                refine tz_iload_n (pc := 64) dX5_kindOf_64 rfl rfl ?_
                refine tz_if_eqF (pc := 65) (tgt := 72) (by decide) dX5_kindOf_65 (by decide) (by decide) ?_
                refine tz_iload_n (pc := 68) dX5_kindOf_68 rfl rfl ?_
                refine tz_goto (pc := 69) (tgt := 73) dX5_kindOf_69 (by decide) ?_
                exact tz_iret (pc := 73) (z := x) dX5_kindOf_73 rfl (Nat.le_of_ble_eq_true rfl) (Nat.le_of_ble_eq_true rfl) ⟨Nat.le_refl _, Nat.le_add_right _ _⟩ ⟨_, rfl, (by omega), rfl⟩
              · refine tz_iload_n (pc := 52) dX5_kindOf_52 rfl rfl ?_
                refine tz_bipush (pc := 53) dX5_kindOf_53 (by decide) ?_
                refine tz_icmp_ne (pc := 55) (tgt := 62) dX5_kindOf_55 (by decide) (by omega) (by decide) (fun h_55 => ?_) (fun h_55 => ?_)
                · refine tz_iconst (pc := 62) dX5_kindOf_62 ?_
                  refine tz_istore_n (pc := 63) (L2 := [_, _]) dX5_kindOf_63 rfl (by decide) rfl ?_
                  refine tz_iload_n (pc := 64) dX5_kindOf_64 rfl rfl ?_
                  refine tz_if_eqT (pc := 65) (tgt := 72) (by decide) dX5_kindOf_65 (by decide) (by decide) ?_
                  refine tz_iconst (pc := 72) dX5_kindOf_72 ?_
                  exact tz_iret (pc := 73) (z := 1) dX5_kindOf_73 rfl (Nat.le_of_ble_eq_true rfl) (Nat.le_of_ble_eq_true rfl) ⟨Nat.le_refl _, Nat.le_add_right _ _⟩ ⟨_, rfl, (by decide), rfl⟩
                · refine tz_iconst (pc := 58) dX5_kindOf_58 ?_
                  refine tz_goto (pc := 59) (tgt := 63) dX5_kindOf_59 (by decide) ?_
                  refine tz_istore_n (pc := 63) (L2 := [_, _]) dX5_kindOf_63 rfl (by decide) rfl ?_
                  refine tz_iload_n (pc := 64) dX5_kindOf_64 rfl rfl ?_
                  refine tz_if_eqF (pc := 65) (tgt := 72) (by decide) dX5_kindOf_65 (by decide) (by decide) ?_
                  refine tz_iload_n (pc := 68) dX5_kindOf_68 rfl rfl ?_
                  refine tz_goto (pc := 69) (tgt := 73) dX5_kindOf_69 (by decide) ?_
                  exact tz_iret (pc := 73) (z := x) dX5_kindOf_73 rfl (Nat.le_of_ble_eq_true rfl) (Nat.le_of_ble_eq_true rfl) ⟨Nat.le_refl _, Nat.le_add_right _ _⟩ ⟨_, rfl, (by omega), rfl⟩
      · refine tz_iload_n (pc := 20) dX5_kindOf_20 rfl rfl ?_
        refine tz_bipush (pc := 21) dX5_kindOf_21 (by decide) ?_
        refine tz_icmp_gt (pc := 23) (tgt := 28) dX5_kindOf_23 (by decide) (by omega) (by decide) (fun h_23 => ?_) (fun h_23 => ?_)
        · refine tz_iload_n (pc := 28) dX5_kindOf_28 rfl rfl ?_
          refine tz_bipush (pc := 29) dX5_kindOf_29 (by decide) ?_
          refine tz_icmp_eq (pc := 31) (tgt := 58) dX5_kindOf_31 (by decide) (by omega) (by decide) (fun h_31 => ?_) (fun h_31 => ?_)
          · refine tz_iconst (pc := 58) dX5_kindOf_58 ?_
            refine tz_goto (pc := 59) (tgt := 63) dX5_kindOf_59 (by decide) ?_
            refine tz_istore_n (pc := 63) (L2 := [_, _]) dX5_kindOf_63 rfl (by decide) rfl ?_
            refine tz_iload_n (pc := 64) dX5_kindOf_64 rfl rfl ?_
            refine tz_if_eqF (pc := 65) (tgt := 72) (by decide) dX5_kindOf_65 (by decide) (by decide) ?_
            refine tz_iload_n (pc := 68) dX5_kindOf_68 rfl rfl ?_
            refine tz_goto (pc := 69) (tgt := 73) dX5_kindOf_69 (by decide) ?_
            exact tz_iret (pc := 73) (z := x) dX5_kindOf_73 rfl (Nat.le_of_ble_eq_true rfl) (Nat.le_of_ble_eq_true rfl) ⟨Nat.le_refl _, Nat.le_add_right _ _⟩ ⟨_, rfl, (by omega), rfl⟩
          · refine tz_iload_n (pc := 34) dX5_kindOf_34 rfl rfl ?_
            refine tz_bipush (pc := 35) dX5_kindOf_35 (by decide) ?_
            refine tz_icmp_eq (pc := 37) (tgt := 58) dX5_kindOf_37 (by decide) (by omega) (by decide) (fun h_37 => ?_) (fun h_37 => ?_)
            · refine tz_iconst (pc := 58) dX5_kindOf_58 ?_
              refine tz_goto (pc := 59) (tgt := 63) dX5_kindOf_59 (by decide) ?_
              refine tz_istore_n (pc := 63) (L2 := [_, _]) dX5_kindOf_63 rfl (by decide) rfl ?_
              refine tz_iload_n (pc := 64) dX5_kindOf_64 rfl rfl ?_
              refine tz_if_eqF (pc := 65) (tgt := 72) (by decide) dX5_kindOf_65 (by decide) (by decide) ?_
              refine tz_iload_n (pc := 68) dX5_kindOf_68 rfl rfl ?_
              refine tz_goto (pc := 69) (tgt := 73) dX5_kindOf_69 (by decide) ?_
              exact tz_iret (pc := 73) (z := x) dX5_kindOf_73 rfl (Nat.le_of_ble_eq_true rfl) (Nat.le_of_ble_eq_true rfl) ⟨Nat.le_refl _, Nat.le_add_right _ _⟩ ⟨_, rfl, (by omega), rfl⟩
            · refine tz_iload_n (pc := 40) dX5_kindOf_40 rfl rfl ?_
              refine tz_bipush (pc := 41) dX5_kindOf_41 (by decide) ?_
              refine tz_icmp_eq (pc := 43) (tgt := 58) dX5_kindOf_43 (by decide) (by omega) (by decide) (fun h_43 => ?_) (fun h_43 => ?_)
              · refine tz_iconst (pc := 58) dX5_kindOf_58 ?_
                refine tz_goto (pc := 59) (tgt := 63) dX5_kindOf_59 (by decide) ?_
                refine tz_istore_n (pc := 63) (L2 := [_, _]) dX5_kindOf_63 rfl (by decide) rfl ?_
                refine tz_iload_n (pc := 64) dX5_kindOf_64 rfl rfl ?_
                refine tz_if_eqF (pc := 65) (tgt := 72) (by decide) dX5_kindOf_65 (by decide) (by decide) ?_
                refine tz_iload_n (pc := 68) dX5_kindOf_68 rfl rfl ?_
                refine tz_goto (pc := 69) (tgt := 73) dX5_kindOf_69 (by decide) ?_
                exact tz_iret (pc := 73) (z := x) dX5_kindOf_73 rfl (Nat.le_of_ble_eq_true rfl) (Nat.le_of_ble_eq_true rfl) ⟨Nat.le_refl _, Nat.le_add_right _ _⟩ ⟨_, rfl, (by omega), rfl⟩
              · refine tz_iload_n (pc := 46) dX5_kindOf_46 rfl rfl ?_
                refine tz_bipush (pc := 47) dX5_kindOf_47 (by decide) ?_
                refine tz_icmp_eq (pc := 49) (tgt := 58) dX5_kindOf_49 (by decide) (by omega) (by decide) (fun h_49 => ?_) (fun h_49 => ?_)
                · refine tz_iconst (pc := 58) dX5_kindOf_58 ?_
                  refine tz_goto (pc := 59) (tgt := 63) dX5_kindOf_59 (by decide) ?_
                  refine tz_istore_n (pc := 63) (L2 := [_, _]) dX5_kindOf_63 rfl (by decide) rfl ?_
                  refine tz_iload_n (pc := 64) dX5_kindOf_64 rfl rfl ?_
                  refine tz_if_eqF (pc := 65) (tgt := 72) (by decide) dX5_kindOf_65 (by decide) (by decide) ?_
                  refine tz_iload_n (pc := 68) dX5_kindOf_68 rfl rfl ?_
                  refine tz_goto (pc := 69) (tgt := 73) dX5_kindOf_69 (by decide) ?_
                  exact tz_iret (pc := 73) (z := x) dX5_kindOf_73 rfl (Nat.le_of_ble_eq_true rfl) (Nat.le_of_ble_eq_true rfl) ⟨Nat.le_refl _, Nat.le_add_right _ _⟩ ⟨_, rfl, (by omega), rfl⟩
                · refine tz_iload_n (pc := 52) dX5_kindOf_52 rfl rfl ?_
                  refine tz_bipush (pc := 53) dX5_kindOf_53 (by decide) ?_
                  refine tz_icmp_ne (pc := 55) (tgt := 62) dX5_kindOf_55 (by decide) (by omega) (by decide) (fun h_55 => ?_) (fun h_55 => ?_)
                  · refine tz_iconst (pc := 62) dX5_kindOf_62 ?_
                    refine tz_istore_n (pc := 63) (L2 := [_, _]) dX5_kindOf_63 rfl (by decide) rfl ?_
                    refine tz_iload_n (pc := 64) dX5_kindOf_64 rfl rfl ?_
                    refine tz_if_eqT (pc := 65) (tgt := 72) (by decide) dX5_kindOf_65 (by decide) (by decide) ?_
                    refine tz_iconst (pc := 72) dX5_kindOf_72 ?_
                    exact tz_iret (pc := 73) (z := 1) dX5_kindOf_73 rfl (Nat.le_of_ble_eq_true rfl) (Nat.le_of_ble_eq_true rfl) ⟨Nat.le_refl _, Nat.le_add_right _ _⟩ ⟨_, rfl, (by decide), rfl⟩
                  · refine tz_iconst (pc := 58) dX5_kindOf_58 ?_
                    refine tz_goto (pc := 59) (tgt := 63) dX5_kindOf_59 (by decide) ?_
                    refine tz_istore_n (pc := 63) (L2 := [_, _]) dX5_kindOf_63 rfl (by decide) rfl ?_
                    refine tz_iload_n (pc := 64) dX5_kindOf_64 rfl rfl ?_
                    refine tz_if_eqF (pc := 65) (tgt := 72) (by decide) dX5_kindOf_65 (by decide) (by decide) ?_
                    refine tz_iload_n (pc := 68) dX5_kindOf_68 rfl rfl ?_
                    refine tz_goto (pc := 69) (tgt := 73) dX5_kindOf_69 (by decide) ?_
                    exact tz_iret (pc := 73) (z := x) dX5_kindOf_73 rfl (Nat.le_of_ble_eq_true rfl) (Nat.le_of_ble_eq_true rfl) ⟨Nat.le_refl _, Nat.le_add_right _ _⟩ ⟨_, rfl, (by omega), rfl⟩
        · refine tz_iconst (pc := 26) dX5_kindOf_26 ?_
          exact tz_iret (pc := 27) (z := 3) dX5_kindOf_27 rfl (Nat.le_of_ble_eq_true rfl) (Nat.le_of_ble_eq_true rfl) ⟨Nat.le_refl _, Nat.le_add_right _ _⟩ ⟨_, rfl, (by decide), rfl⟩
    · refine tz_iconst (pc := 12) dX5_kindOf_12 ?_
      exact tz_iret (pc := 13) (z := 2) dX5_kindOf_13 rfl (Nat.le_of_ble_eq_true rfl) (Nat.le_of_ble_eq_true rfl) ⟨Nat.le_refl _, Nat.le_add_right _ _⟩ ⟨_, rfl, (by decide), rfl⟩

set_option maxHeartbeats 4000000 in
set_option maxRecDepth 100000 in
theorem c_next {l : Launch} {G : tb_G} (hl : l.stackTraces = false) (n : Nat) (J : zJ)    (h0 : 0 ≤ J 163 7 ∧ J 163 7 ≤ J 163 4) (h4 : J 163 4 ≤ 700) : tz_Ok l G M_X5_next 1 0 0 [.ref 163] n J (zqv (fun J' => RN J' J ∧ RD2 J' ∧ J' 163 8 = J 163 8)) zN := by
  refine tz_Ok.of hl (by decide +kernel) rfl (tb_c1 rfl) (Nat.le_of_ble_eq_true rfl) ?_
  show tz_At l G M_X5_next (tb_rm 1 0 0) none (tb_ZM G 0 0 (zQ n 0 (zqv (fun J' => RN J' J ∧ RD2 J' ∧ J' 163 8 = J 163 8))) (zX n 0 zN)) 0 0 n J 0 [some (.ref 163)] []
  refine tz_aload_n (pc := 0) dX5_next_0 rfl rfl ?_
  refine tz_aload_n (pc := 1) dX5_next_1 rfl rfl ?_
  refine tz_fI (pc := 2) (kz := 7) (v := (J 163 7)) dX5_next_2 fl_X5_21 i_163_7 rfl rfl (fun r_2 => ?_)
  refine tz_pI (pc := 5) (kz := 6) dX5_next_5 fl_X5_18 i_163_6 rfl rfl (by omega) ?_
  have loop8 : ∀ (f9 : Nat) (J1 : zJ), ((J1 163 4 - J1 163 6).toNat) < f9 → (zOf (zbut [163]) J1 J ∧ J1 163 4 = J 163 4 ∧ J1 163 8 = J 163 8) → (0 ≤ J1 163 6 ∧ J1 163 6 ≤ J1 163 4) → tz_At l G M_X5_next (tb_rm 1 0 0) none (tb_ZM G 0 0 (zQ n 0 (zqv (fun J' => RN J' J ∧ RD2 J' ∧ J' 163 8 = J 163 8))) (zX n 0 zN)) 0 0 n J1 8 [some (.ref 163)] [] := by
    intro f9
    induction f9 with
    | zero => intro J1 hm9; exact absurd hm9 (Nat.not_lt_zero _)
    | succ f9 ih8 =>
      intro J1 hm8 f1 h1
      have r4 := f1.2.1
      refine tz_aload_n (pc := 8) dX5_next_8 rfl rfl ?_
      refine tz_fI (pc := 9) (kz := 6) (v := (J1 163 6)) dX5_next_9 fl_X5_18 i_163_6 rfl rfl (fun r_9 => ?_)
      refine tz_aload_n (pc := 12) dX5_next_12 rfl rfl ?_
      refine tz_fI (pc := 13) (kz := 4) (v := (J1 163 4)) dX5_next_13 fl_X5_9 i_163_4 rfl rfl (fun r_13 => ?_)
      refine tz_icmp_ge (pc := 16) (tgt := 60) dX5_next_16 (by decide) (by omega) (by omega) (fun h_16 => ?_) (fun h_16 => ?_)
      · refine tz_aload_n (pc := 60) dX5_next_60 rfl rfl ?_
        refine tz_aload_n (pc := 61) dX5_next_61 rfl rfl ?_
        refine tz_fI (pc := 62) (kz := 6) (v := (J1 163 6)) dX5_next_62 fl_X5_18 i_163_6 rfl rfl (fun r_62 => ?_)
        refine tz_aload_n (pc := 65) dX5_next_65 rfl rfl ?_
        refine tz_fI (pc := 66) (kz := 4) (v := (J1 163 4)) dX5_next_66 fl_X5_9 i_163_4 rfl rfl (fun r_66 => ?_)
        refine tz_icmp_ge (pc := 69) (tgt := 87) dX5_next_69 (by decide) (by omega) (by omega) (fun h_69 => ?_) (fun h_69 => ?_)
        · refine tz_iconst (pc := 87) dX5_next_87 ?_
          refine tz_pI (pc := 88) (kz := 5) dX5_next_88 fl_X5_15 i_163_5 rfl rfl (by decide) ?_
          refine tz_aload_n (pc := 91) dX5_next_91 rfl rfl ?_
          refine tz_aload_n (pc := 92) dX5_next_92 rfl rfl ?_
          refine tz_fI (pc := 93) (kz := 6) (v := (J1 163 6)) dX5_next_93 fl_X5_18 i_163_6 rfl rfl (fun r_93 => ?_)
          refine tz_iconst (pc := 96) dX5_next_96 ?_
          refine tz_iadd (pc := 97) (v := (J1 163 6) + 1) dX5_next_97 rfl ?_
          refine tz_aload_n (pc := 98) dX5_next_98 rfl rfl ?_
          refine tz_fI (pc := 99) (kz := 4) (v := (J1 163 4)) dX5_next_99 fl_X5_9 i_163_4 rfl rfl (fun r_99 => ?_)
          have hmn := zmn_le (J1 163 6 + 1) (J1 163 4)
          refine tz_mn (pc := 102) (v := zmn (J1 163 6 + 1) (J1 163 4)) dX5_next_102 ml_X5_59 (Nat.le_of_ble_eq_true rfl) (Nat.le_of_ble_eq_true rfl) (Nat.le_of_ble_eq_true rfl) (Nat.le_of_ble_eq_true rfl) (by omega) (by omega) rfl ?_
          refine tz_pI (pc := 105) (kz := 7) dX5_next_105 fl_X5_21 i_163_7 rfl rfl (by omega) ?_
          have loop108 : ∀ (f9 : Nat) (J2 : zJ), ((J2 163 4 - J2 163 7).toNat) < f9 → (zOf (zbut [163]) J2 J ∧ J2 163 4 = J 163 4 ∧ J2 163 8 = J 163 8) → ((0 ≤ J2 163 6 ∧ J2 163 6 ≤ J2 163 7) ∧ J2 163 7 ≤ J2 163 4 ∧ (J2 163 5 = 0 ∨ J2 163 6 < J2 163 4)) → tz_At l G M_X5_next (tb_rm 1 0 0) none (tb_ZM G 0 0 (zQ n 0 (zqv (fun J' => RN J' J ∧ RD2 J' ∧ J' 163 8 = J 163 8))) (zX n 0 zN)) 0 0 n J2 108 [some (.ref 163)] [] := by
            intro f9
            induction f9 with
            | zero => intro J2 hm9; exact absurd hm9 (Nat.not_lt_zero _)
            | succ f9 ih108 =>
              intro J2 hm108 f2 h2
              have r42 := f2.2.1
              have h2a := h2.1
              have h2b := h2.2.1
              refine tz_aload_n (pc := 108) dX5_next_108 rfl rfl ?_
              refine tz_fI (pc := 109) (kz := 5) (v := (J2 163 5)) dX5_next_109 fl_X5_15 i_163_5 rfl rfl (fun r_109 => ?_)
              refine tz_iconst (pc := 112) dX5_next_112 ?_
              refine tz_icmp_eq (pc := 113) (tgt := 124) dX5_next_113 (by decide) (by omega) (by decide) (fun h_113 => ?_) (fun h_113 => ?_)
              · refine tz_aload_n (pc := 124) dX5_next_124 rfl rfl ?_
                refine tz_fI (pc := 125) (kz := 7) (v := (J2 163 7)) dX5_next_125 fl_X5_21 i_163_7 rfl rfl (fun r_125 => ?_)
                refine tz_aload_n (pc := 128) dX5_next_128 rfl rfl ?_
                refine tz_fI (pc := 129) (kz := 4) (v := (J2 163 4)) dX5_next_129 fl_X5_9 i_163_4 rfl rfl (fun r_129 => ?_)
                refine tz_icmp_ge (pc := 132) (tgt := 167) dX5_next_132 (by decide) (by omega) (by omega) (fun h_132 => ?_) (fun h_132 => ?_)
                · exact tz_vret (pc := 167) dX5_next_167 rfl (Nat.le_of_ble_eq_true rfl) (Nat.le_of_ble_eq_true rfl) ⟨Nat.le_refl _, Nat.le_add_right _ _⟩ ⟨rfl, ⟨⟨f2.1, f2.2.1, fun q => by rw [← f2.2.2]; exact q⟩, ⟨⟨h2.1, h2.2.1, by omega⟩, h2.2.2⟩, f2.2.2⟩⟩
                · refine tz_aload_n (pc := 135) dX5_next_135 rfl rfl ?_
                  refine tz_fR (pc := 136) dX5_next_136 fl_X5_34 r_163_0 ?_
                  refine tz_aload_n (pc := 139) dX5_next_139 rfl rfl ?_
                  refine tz_fI (pc := 140) (kz := 7) (v := (J2 163 7)) dX5_next_140 fl_X5_21 i_163_7 rfl rfl (fun r_140 => ?_)
                  refine tz_aL (pc := 143) (z := (J2 163 7)) (v := (J 162 (J2 163 7))) dX5_next_143 a_162 rfl (by omega) (Eq.trans (congrFun (f2.1 162 rfl) (J2 163 7)) rfl) (fun r_143 => ?_)
                  refine tz_cS (pc := 144) (c_kindOf hl n _ _ (by omega)) sl_X5_101 dX5_next_144 rfl rfl (Nat.le_of_ble_eq_true rfl) ⟨(Nat.le_of_ble_eq_true rfl), (Nat.le_of_ble_eq_true rfl)⟩ rfl rfl (Nat.le_of_ble_eq_true rfl) (Nat.le_of_ble_eq_true rfl) (fun r9 J_144 hq9 => ?_)
                  obtain ⟨z_144, rfl, hz_144, rfl⟩ := hq9
                  refine tz_aload_n (pc := 147) dX5_next_147 rfl rfl ?_
                  refine tz_fI (pc := 148) (kz := 5) (v := (J2 163 5)) dX5_next_148 fl_X5_15 i_163_5 rfl rfl (fun r_148 => ?_)
                  refine tz_icmp_ne (pc := 151) (tgt := 167) dX5_next_151 (by decide) (by omega) (by omega) (fun h_151 => ?_) (fun h_151 => ?_)
                  · exact tz_vret (pc := 167) dX5_next_167 rfl (Nat.le_of_ble_eq_true rfl) (Nat.le_of_ble_eq_true rfl) ⟨Nat.le_refl _, Nat.le_add_right _ _⟩ ⟨rfl, ⟨⟨f2.1, f2.2.1, fun q => by rw [← f2.2.2]; exact q⟩, ⟨⟨h2.1, h2.2.1, by omega⟩, h2.2.2⟩, f2.2.2⟩⟩
                  · refine tz_aload_n (pc := 154) dX5_next_154 rfl rfl ?_
                    refine tz_dup (pc := 155) dX5_next_155 rfl ?_
                    refine tz_fI (pc := 156) (kz := 7) (v := (J2 163 7)) dX5_next_156 fl_X5_21 i_163_7 rfl rfl (fun r_156 => ?_)
                    refine tz_iconst (pc := 159) dX5_next_159 ?_
                    refine tz_iadd (pc := 160) (v := (J2 163 7) + 1) dX5_next_160 rfl ?_
                    refine tz_pI (pc := 161) (kz := 7) dX5_next_161 fl_X5_21 i_163_7 rfl rfl (by omega) ?_
                    refine tz_goto (pc := 164) (tgt := 108) dX5_next_164 (by decide) ?_
                    exact ih108 _ (by show (J2 163 4 - (J2 163 7 + 1)).toNat < _; omega) ⟨zOf.up rfl f2.1, f2.2⟩ ⟨⟨h2.1.1, by show J2 163 6 ≤ J2 163 7 + 1; omega⟩, by show J2 163 7 + 1 ≤ J2 163 4; omega, h2.2.2⟩
              · refine tz_aload_n (pc := 116) dX5_next_116 rfl rfl ?_
                refine tz_fI (pc := 117) (kz := 5) (v := (J2 163 5)) dX5_next_117 fl_X5_15 i_163_5 rfl rfl (fun r_117 => ?_)
                refine tz_iconst (pc := 120) dX5_next_120 ?_
                refine tz_icmp_ne (pc := 121) (tgt := 167) dX5_next_121 (by decide) (by omega) (by decide) (fun h_121 => ?_) (fun h_121 => ?_)
                · exact tz_vret (pc := 167) dX5_next_167 rfl (Nat.le_of_ble_eq_true rfl) (Nat.le_of_ble_eq_true rfl) ⟨Nat.le_refl _, Nat.le_add_right _ _⟩ ⟨rfl, ⟨⟨f2.1, f2.2.1, fun q => by rw [← f2.2.2]; exact q⟩, ⟨⟨h2.1, h2.2.1, by omega⟩, h2.2.2⟩, f2.2.2⟩⟩
                · refine tz_aload_n (pc := 124) dX5_next_124 rfl rfl ?_
                  refine tz_fI (pc := 125) (kz := 7) (v := (J2 163 7)) dX5_next_125 fl_X5_21 i_163_7 rfl rfl (fun r_125 => ?_)
                  refine tz_aload_n (pc := 128) dX5_next_128 rfl rfl ?_
                  refine tz_fI (pc := 129) (kz := 4) (v := (J2 163 4)) dX5_next_129 fl_X5_9 i_163_4 rfl rfl (fun r_129 => ?_)
                  refine tz_icmp_ge (pc := 132) (tgt := 167) dX5_next_132 (by decide) (by omega) (by omega) (fun h_132 => ?_) (fun h_132 => ?_)
                  · exact tz_vret (pc := 167) dX5_next_167 rfl (Nat.le_of_ble_eq_true rfl) (Nat.le_of_ble_eq_true rfl) ⟨Nat.le_refl _, Nat.le_add_right _ _⟩ ⟨rfl, ⟨⟨f2.1, f2.2.1, fun q => by rw [← f2.2.2]; exact q⟩, ⟨⟨h2.1, h2.2.1, by omega⟩, h2.2.2⟩, f2.2.2⟩⟩
                  · refine tz_aload_n (pc := 135) dX5_next_135 rfl rfl ?_
                    refine tz_fR (pc := 136) dX5_next_136 fl_X5_34 r_163_0 ?_
                    refine tz_aload_n (pc := 139) dX5_next_139 rfl rfl ?_
                    refine tz_fI (pc := 140) (kz := 7) (v := (J2 163 7)) dX5_next_140 fl_X5_21 i_163_7 rfl rfl (fun r_140 => ?_)
                    refine tz_aL (pc := 143) (z := (J2 163 7)) (v := (J 162 (J2 163 7))) dX5_next_143 a_162 rfl (by omega) (Eq.trans (congrFun (f2.1 162 rfl) (J2 163 7)) rfl) (fun r_143 => ?_)
                    refine tz_cS (pc := 144) (c_kindOf hl n _ _ (by omega)) sl_X5_101 dX5_next_144 rfl rfl (Nat.le_of_ble_eq_true rfl) ⟨(Nat.le_of_ble_eq_true rfl), (Nat.le_of_ble_eq_true rfl)⟩ rfl rfl (Nat.le_of_ble_eq_true rfl) (Nat.le_of_ble_eq_true rfl) (fun r9 J_144 hq9 => ?_)
                    obtain ⟨z_144, rfl, hz_144, rfl⟩ := hq9
                    refine tz_aload_n (pc := 147) dX5_next_147 rfl rfl ?_
                    refine tz_fI (pc := 148) (kz := 5) (v := (J2 163 5)) dX5_next_148 fl_X5_15 i_163_5 rfl rfl (fun r_148 => ?_)
                    refine tz_icmp_ne (pc := 151) (tgt := 167) dX5_next_151 (by decide) (by omega) (by omega) (fun h_151 => ?_) (fun h_151 => ?_)
                    · exact tz_vret (pc := 167) dX5_next_167 rfl (Nat.le_of_ble_eq_true rfl) (Nat.le_of_ble_eq_true rfl) ⟨Nat.le_refl _, Nat.le_add_right _ _⟩ ⟨rfl, ⟨⟨f2.1, f2.2.1, fun q => by rw [← f2.2.2]; exact q⟩, ⟨⟨h2.1, h2.2.1, by omega⟩, h2.2.2⟩, f2.2.2⟩⟩
                    · refine tz_aload_n (pc := 154) dX5_next_154 rfl rfl ?_
                      refine tz_dup (pc := 155) dX5_next_155 rfl ?_
                      refine tz_fI (pc := 156) (kz := 7) (v := (J2 163 7)) dX5_next_156 fl_X5_21 i_163_7 rfl rfl (fun r_156 => ?_)
                      refine tz_iconst (pc := 159) dX5_next_159 ?_
                      refine tz_iadd (pc := 160) (v := (J2 163 7) + 1) dX5_next_160 rfl ?_
                      refine tz_pI (pc := 161) (kz := 7) dX5_next_161 fl_X5_21 i_163_7 rfl rfl (by omega) ?_
                      refine tz_goto (pc := 164) (tgt := 108) dX5_next_164 (by decide) ?_
                      exact ih108 _ (by show (J2 163 4 - (J2 163 7 + 1)).toNat < _; omega) ⟨zOf.up rfl f2.1, f2.2⟩ ⟨⟨h2.1.1, by show J2 163 6 ≤ J2 163 7 + 1; omega⟩, by show J2 163 7 + 1 ≤ J2 163 4; omega, h2.2.2⟩
          exact loop108 _ _ (Nat.lt_succ_self _) ⟨zOf.up rfl (zOf.up rfl f1.1), f1.2⟩ (by first | exact ⟨⟨h1.1, by show J1 163 6 ≤ zmn _ _; omega⟩, by show zmn _ _ ≤ J1 163 4; omega, Or.inr (by show J1 163 6 < J1 163 4; omega)⟩ | exact ⟨⟨h1.1, by show J1 163 6 ≤ zmn _ _; omega⟩, by show zmn _ _ ≤ J1 163 4; omega, Or.inl rfl⟩)
        · refine tz_aload_n (pc := 72) dX5_next_72 rfl rfl ?_
          refine tz_fR (pc := 73) dX5_next_73 fl_X5_34 r_163_0 ?_
          refine tz_aload_n (pc := 76) dX5_next_76 rfl rfl ?_
          refine tz_fI (pc := 77) (kz := 6) (v := (J1 163 6)) dX5_next_77 fl_X5_18 i_163_6 rfl rfl (fun r_77 => ?_)
          refine tz_aL (pc := 80) (z := (J1 163 6)) (v := (J 162 (J1 163 6))) dX5_next_80 a_162 rfl (by omega) (Eq.trans (congrFun (f1.1 162 rfl) (J1 163 6)) rfl) (fun r_80 => ?_)
          refine tz_cS (pc := 81) (c_kindOf hl n _ _ (by omega)) sl_X5_101 dX5_next_81 rfl rfl (Nat.le_of_ble_eq_true rfl) ⟨(Nat.le_of_ble_eq_true rfl), (Nat.le_of_ble_eq_true rfl)⟩ rfl rfl (Nat.le_of_ble_eq_true rfl) (Nat.le_of_ble_eq_true rfl) (fun r9 J_81 hq9 => ?_)
          obtain ⟨z_81, rfl, hz_81, rfl⟩ := hq9
          refine tz_goto (pc := 84) (tgt := 88) dX5_next_84 (by decide) ?_
          refine tz_pI (pc := 88) (kz := 5) dX5_next_88 fl_X5_15 i_163_5 rfl rfl (by omega) ?_
          refine tz_aload_n (pc := 91) dX5_next_91 rfl rfl ?_
          refine tz_aload_n (pc := 92) dX5_next_92 rfl rfl ?_
          refine tz_fI (pc := 93) (kz := 6) (v := (J1 163 6)) dX5_next_93 fl_X5_18 i_163_6 rfl rfl (fun r_93 => ?_)
          refine tz_iconst (pc := 96) dX5_next_96 ?_
          refine tz_iadd (pc := 97) (v := (J1 163 6) + 1) dX5_next_97 rfl ?_
          refine tz_aload_n (pc := 98) dX5_next_98 rfl rfl ?_
          refine tz_fI (pc := 99) (kz := 4) (v := (J1 163 4)) dX5_next_99 fl_X5_9 i_163_4 rfl rfl (fun r_99 => ?_)
          have hmn := zmn_le (J1 163 6 + 1) (J1 163 4)
          refine tz_mn (pc := 102) (v := zmn (J1 163 6 + 1) (J1 163 4)) dX5_next_102 ml_X5_59 (Nat.le_of_ble_eq_true rfl) (Nat.le_of_ble_eq_true rfl) (Nat.le_of_ble_eq_true rfl) (Nat.le_of_ble_eq_true rfl) (by omega) (by omega) rfl ?_
          refine tz_pI (pc := 105) (kz := 7) dX5_next_105 fl_X5_21 i_163_7 rfl rfl (by omega) ?_
          have loop108 : ∀ (f9 : Nat) (J2 : zJ), ((J2 163 4 - J2 163 7).toNat) < f9 → (zOf (zbut [163]) J2 J ∧ J2 163 4 = J 163 4 ∧ J2 163 8 = J 163 8) → ((0 ≤ J2 163 6 ∧ J2 163 6 ≤ J2 163 7) ∧ J2 163 7 ≤ J2 163 4 ∧ (J2 163 5 = 0 ∨ J2 163 6 < J2 163 4)) → tz_At l G M_X5_next (tb_rm 1 0 0) none (tb_ZM G 0 0 (zQ n 0 (zqv (fun J' => RN J' J ∧ RD2 J' ∧ J' 163 8 = J 163 8))) (zX n 0 zN)) 0 0 n J2 108 [some (.ref 163)] [] := by
            intro f9
            induction f9 with
            | zero => intro J2 hm9; exact absurd hm9 (Nat.not_lt_zero _)
            | succ f9 ih108 =>
              intro J2 hm108 f2 h2
              have r42 := f2.2.1
              have h2a := h2.1
              have h2b := h2.2.1
              refine tz_aload_n (pc := 108) dX5_next_108 rfl rfl ?_
              refine tz_fI (pc := 109) (kz := 5) (v := (J2 163 5)) dX5_next_109 fl_X5_15 i_163_5 rfl rfl (fun r_109 => ?_)
              refine tz_iconst (pc := 112) dX5_next_112 ?_
              refine tz_icmp_eq (pc := 113) (tgt := 124) dX5_next_113 (by decide) (by omega) (by decide) (fun h_113 => ?_) (fun h_113 => ?_)
              · refine tz_aload_n (pc := 124) dX5_next_124 rfl rfl ?_
                refine tz_fI (pc := 125) (kz := 7) (v := (J2 163 7)) dX5_next_125 fl_X5_21 i_163_7 rfl rfl (fun r_125 => ?_)
                refine tz_aload_n (pc := 128) dX5_next_128 rfl rfl ?_
                refine tz_fI (pc := 129) (kz := 4) (v := (J2 163 4)) dX5_next_129 fl_X5_9 i_163_4 rfl rfl (fun r_129 => ?_)
                refine tz_icmp_ge (pc := 132) (tgt := 167) dX5_next_132 (by decide) (by omega) (by omega) (fun h_132 => ?_) (fun h_132 => ?_)
                · exact tz_vret (pc := 167) dX5_next_167 rfl (Nat.le_of_ble_eq_true rfl) (Nat.le_of_ble_eq_true rfl) ⟨Nat.le_refl _, Nat.le_add_right _ _⟩ ⟨rfl, ⟨⟨f2.1, f2.2.1, fun q => by rw [← f2.2.2]; exact q⟩, ⟨⟨h2.1, h2.2.1, by omega⟩, h2.2.2⟩, f2.2.2⟩⟩
                · refine tz_aload_n (pc := 135) dX5_next_135 rfl rfl ?_
                  refine tz_fR (pc := 136) dX5_next_136 fl_X5_34 r_163_0 ?_
                  refine tz_aload_n (pc := 139) dX5_next_139 rfl rfl ?_
                  refine tz_fI (pc := 140) (kz := 7) (v := (J2 163 7)) dX5_next_140 fl_X5_21 i_163_7 rfl rfl (fun r_140 => ?_)
                  refine tz_aL (pc := 143) (z := (J2 163 7)) (v := (J 162 (J2 163 7))) dX5_next_143 a_162 rfl (by omega) (Eq.trans (congrFun (f2.1 162 rfl) (J2 163 7)) rfl) (fun r_143 => ?_)
                  refine tz_cS (pc := 144) (c_kindOf hl n _ _ (by omega)) sl_X5_101 dX5_next_144 rfl rfl (Nat.le_of_ble_eq_true rfl) ⟨(Nat.le_of_ble_eq_true rfl), (Nat.le_of_ble_eq_true rfl)⟩ rfl rfl (Nat.le_of_ble_eq_true rfl) (Nat.le_of_ble_eq_true rfl) (fun r9 J_144 hq9 => ?_)
                  obtain ⟨z_144, rfl, hz_144, rfl⟩ := hq9
                  refine tz_aload_n (pc := 147) dX5_next_147 rfl rfl ?_
                  refine tz_fI (pc := 148) (kz := 5) (v := (J2 163 5)) dX5_next_148 fl_X5_15 i_163_5 rfl rfl (fun r_148 => ?_)
                  refine tz_icmp_ne (pc := 151) (tgt := 167) dX5_next_151 (by decide) (by omega) (by omega) (fun h_151 => ?_) (fun h_151 => ?_)
                  · exact tz_vret (pc := 167) dX5_next_167 rfl (Nat.le_of_ble_eq_true rfl) (Nat.le_of_ble_eq_true rfl) ⟨Nat.le_refl _, Nat.le_add_right _ _⟩ ⟨rfl, ⟨⟨f2.1, f2.2.1, fun q => by rw [← f2.2.2]; exact q⟩, ⟨⟨h2.1, h2.2.1, by omega⟩, h2.2.2⟩, f2.2.2⟩⟩
                  · refine tz_aload_n (pc := 154) dX5_next_154 rfl rfl ?_
                    refine tz_dup (pc := 155) dX5_next_155 rfl ?_
                    refine tz_fI (pc := 156) (kz := 7) (v := (J2 163 7)) dX5_next_156 fl_X5_21 i_163_7 rfl rfl (fun r_156 => ?_)
                    refine tz_iconst (pc := 159) dX5_next_159 ?_
                    refine tz_iadd (pc := 160) (v := (J2 163 7) + 1) dX5_next_160 rfl ?_
                    refine tz_pI (pc := 161) (kz := 7) dX5_next_161 fl_X5_21 i_163_7 rfl rfl (by omega) ?_
                    refine tz_goto (pc := 164) (tgt := 108) dX5_next_164 (by decide) ?_
                    exact ih108 _ (by show (J2 163 4 - (J2 163 7 + 1)).toNat < _; omega) ⟨zOf.up rfl f2.1, f2.2⟩ ⟨⟨h2.1.1, by show J2 163 6 ≤ J2 163 7 + 1; omega⟩, by show J2 163 7 + 1 ≤ J2 163 4; omega, h2.2.2⟩
              · refine tz_aload_n (pc := 116) dX5_next_116 rfl rfl ?_
                refine tz_fI (pc := 117) (kz := 5) (v := (J2 163 5)) dX5_next_117 fl_X5_15 i_163_5 rfl rfl (fun r_117 => ?_)
                refine tz_iconst (pc := 120) dX5_next_120 ?_
                refine tz_icmp_ne (pc := 121) (tgt := 167) dX5_next_121 (by decide) (by omega) (by decide) (fun h_121 => ?_) (fun h_121 => ?_)
                · exact tz_vret (pc := 167) dX5_next_167 rfl (Nat.le_of_ble_eq_true rfl) (Nat.le_of_ble_eq_true rfl) ⟨Nat.le_refl _, Nat.le_add_right _ _⟩ ⟨rfl, ⟨⟨f2.1, f2.2.1, fun q => by rw [← f2.2.2]; exact q⟩, ⟨⟨h2.1, h2.2.1, by omega⟩, h2.2.2⟩, f2.2.2⟩⟩
                · refine tz_aload_n (pc := 124) dX5_next_124 rfl rfl ?_
                  refine tz_fI (pc := 125) (kz := 7) (v := (J2 163 7)) dX5_next_125 fl_X5_21 i_163_7 rfl rfl (fun r_125 => ?_)
                  refine tz_aload_n (pc := 128) dX5_next_128 rfl rfl ?_
                  refine tz_fI (pc := 129) (kz := 4) (v := (J2 163 4)) dX5_next_129 fl_X5_9 i_163_4 rfl rfl (fun r_129 => ?_)
                  refine tz_icmp_ge (pc := 132) (tgt := 167) dX5_next_132 (by decide) (by omega) (by omega) (fun h_132 => ?_) (fun h_132 => ?_)
                  · exact tz_vret (pc := 167) dX5_next_167 rfl (Nat.le_of_ble_eq_true rfl) (Nat.le_of_ble_eq_true rfl) ⟨Nat.le_refl _, Nat.le_add_right _ _⟩ ⟨rfl, ⟨⟨f2.1, f2.2.1, fun q => by rw [← f2.2.2]; exact q⟩, ⟨⟨h2.1, h2.2.1, by omega⟩, h2.2.2⟩, f2.2.2⟩⟩
                  · refine tz_aload_n (pc := 135) dX5_next_135 rfl rfl ?_
                    refine tz_fR (pc := 136) dX5_next_136 fl_X5_34 r_163_0 ?_
                    refine tz_aload_n (pc := 139) dX5_next_139 rfl rfl ?_
                    refine tz_fI (pc := 140) (kz := 7) (v := (J2 163 7)) dX5_next_140 fl_X5_21 i_163_7 rfl rfl (fun r_140 => ?_)
                    refine tz_aL (pc := 143) (z := (J2 163 7)) (v := (J 162 (J2 163 7))) dX5_next_143 a_162 rfl (by omega) (Eq.trans (congrFun (f2.1 162 rfl) (J2 163 7)) rfl) (fun r_143 => ?_)
                    refine tz_cS (pc := 144) (c_kindOf hl n _ _ (by omega)) sl_X5_101 dX5_next_144 rfl rfl (Nat.le_of_ble_eq_true rfl) ⟨(Nat.le_of_ble_eq_true rfl), (Nat.le_of_ble_eq_true rfl)⟩ rfl rfl (Nat.le_of_ble_eq_true rfl) (Nat.le_of_ble_eq_true rfl) (fun r9 J_144 hq9 => ?_)
                    obtain ⟨z_144, rfl, hz_144, rfl⟩ := hq9
                    refine tz_aload_n (pc := 147) dX5_next_147 rfl rfl ?_
                    refine tz_fI (pc := 148) (kz := 5) (v := (J2 163 5)) dX5_next_148 fl_X5_15 i_163_5 rfl rfl (fun r_148 => ?_)
                    refine tz_icmp_ne (pc := 151) (tgt := 167) dX5_next_151 (by decide) (by omega) (by omega) (fun h_151 => ?_) (fun h_151 => ?_)
                    · exact tz_vret (pc := 167) dX5_next_167 rfl (Nat.le_of_ble_eq_true rfl) (Nat.le_of_ble_eq_true rfl) ⟨Nat.le_refl _, Nat.le_add_right _ _⟩ ⟨rfl, ⟨⟨f2.1, f2.2.1, fun q => by rw [← f2.2.2]; exact q⟩, ⟨⟨h2.1, h2.2.1, by omega⟩, h2.2.2⟩, f2.2.2⟩⟩
                    · refine tz_aload_n (pc := 154) dX5_next_154 rfl rfl ?_
                      refine tz_dup (pc := 155) dX5_next_155 rfl ?_
                      refine tz_fI (pc := 156) (kz := 7) (v := (J2 163 7)) dX5_next_156 fl_X5_21 i_163_7 rfl rfl (fun r_156 => ?_)
                      refine tz_iconst (pc := 159) dX5_next_159 ?_
                      refine tz_iadd (pc := 160) (v := (J2 163 7) + 1) dX5_next_160 rfl ?_
                      refine tz_pI (pc := 161) (kz := 7) dX5_next_161 fl_X5_21 i_163_7 rfl rfl (by omega) ?_
                      refine tz_goto (pc := 164) (tgt := 108) dX5_next_164 (by decide) ?_
                      exact ih108 _ (by show (J2 163 4 - (J2 163 7 + 1)).toNat < _; omega) ⟨zOf.up rfl f2.1, f2.2⟩ ⟨⟨h2.1.1, by show J2 163 6 ≤ J2 163 7 + 1; omega⟩, by show J2 163 7 + 1 ≤ J2 163 4; omega, h2.2.2⟩
          exact loop108 _ _ (Nat.lt_succ_self _) ⟨zOf.up rfl (zOf.up rfl f1.1), f1.2⟩ (by first | exact ⟨⟨h1.1, by show J1 163 6 ≤ zmn _ _; omega⟩, by show zmn _ _ ≤ J1 163 4; omega, Or.inr (by show J1 163 6 < J1 163 4; omega)⟩ | exact ⟨⟨h1.1, by show J1 163 6 ≤ zmn _ _; omega⟩, by show zmn _ _ ≤ J1 163 4; omega, Or.inl rfl⟩)
      · refine tz_aload_n (pc := 19) dX5_next_19 rfl rfl ?_
        refine tz_fR (pc := 20) dX5_next_20 fl_X5_34 r_163_0 ?_
        refine tz_aload_n (pc := 23) dX5_next_23 rfl rfl ?_
        refine tz_fI (pc := 24) (kz := 6) (v := (J1 163 6)) dX5_next_24 fl_X5_18 i_163_6 rfl rfl (fun r_24 => ?_)
        refine tz_aL (pc := 27) (z := (J1 163 6)) (v := (J 162 (J1 163 6))) dX5_next_27 a_162 rfl (by omega) (Eq.trans (congrFun (f1.1 162 rfl) (J1 163 6)) rfl) (fun r_27 => ?_)
        refine tz_bipush (pc := 28) dX5_next_28 (by decide) ?_
        refine tz_icmp_eq (pc := 30) (tgt := 47) dX5_next_30 (by decide) (by omega) (by decide) (fun h_30 => ?_) (fun h_30 => ?_)
        · refine tz_aload_n (pc := 47) dX5_next_47 rfl rfl ?_
          refine tz_dup (pc := 48) dX5_next_48 rfl ?_
          refine tz_fI (pc := 49) (kz := 6) (v := (J1 163 6)) dX5_next_49 fl_X5_18 i_163_6 rfl rfl (fun r_49 => ?_)
          refine tz_iconst (pc := 52) dX5_next_52 ?_
          refine tz_iadd (pc := 53) (v := (J1 163 6) + 1) dX5_next_53 rfl ?_
          refine tz_pI (pc := 54) (kz := 6) dX5_next_54 fl_X5_18 i_163_6 rfl rfl (by omega) ?_
          refine tz_goto (pc := 57) (tgt := 8) dX5_next_57 (by decide) ?_
          exact ih8 _ (by show (J1 163 4 - (J1 163 6 + 1)).toNat < _; omega) ⟨zOf.up rfl f1.1, f1.2⟩ ⟨by show 0 ≤ J1 163 6 + 1; omega, by show J1 163 6 + 1 ≤ J1 163 4; omega⟩
        · refine tz_aload_n (pc := 33) dX5_next_33 rfl rfl ?_
          refine tz_fR (pc := 34) dX5_next_34 fl_X5_34 r_163_0 ?_
          refine tz_aload_n (pc := 37) dX5_next_37 rfl rfl ?_
          refine tz_fI (pc := 38) (kz := 6) (v := (J1 163 6)) dX5_next_38 fl_X5_18 i_163_6 rfl rfl (fun r_38 => ?_)
          refine tz_aL (pc := 41) (z := (J1 163 6)) (v := (J 162 (J1 163 6))) dX5_next_41 a_162 rfl (by omega) (Eq.trans (congrFun (f1.1 162 rfl) (J1 163 6)) rfl) (fun r_41 => ?_)
          refine tz_bipush (pc := 42) dX5_next_42 (by decide) ?_
          refine tz_icmp_ne (pc := 44) (tgt := 60) dX5_next_44 (by decide) (by omega) (by decide) (fun h_44 => ?_) (fun h_44 => ?_)
          · refine tz_aload_n (pc := 60) dX5_next_60 rfl rfl ?_
            refine tz_aload_n (pc := 61) dX5_next_61 rfl rfl ?_
            refine tz_fI (pc := 62) (kz := 6) (v := (J1 163 6)) dX5_next_62 fl_X5_18 i_163_6 rfl rfl (fun r_62 => ?_)
            refine tz_aload_n (pc := 65) dX5_next_65 rfl rfl ?_
            refine tz_fI (pc := 66) (kz := 4) (v := (J1 163 4)) dX5_next_66 fl_X5_9 i_163_4 rfl rfl (fun r_66 => ?_)
            refine tz_icmp_ge (pc := 69) (tgt := 87) dX5_next_69 (by decide) (by omega) (by omega) (fun h_69 => ?_) (fun h_69 => ?_)
            · refine tz_iconst (pc := 87) dX5_next_87 ?_
              refine tz_pI (pc := 88) (kz := 5) dX5_next_88 fl_X5_15 i_163_5 rfl rfl (by decide) ?_
              refine tz_aload_n (pc := 91) dX5_next_91 rfl rfl ?_
              refine tz_aload_n (pc := 92) dX5_next_92 rfl rfl ?_
              refine tz_fI (pc := 93) (kz := 6) (v := (J1 163 6)) dX5_next_93 fl_X5_18 i_163_6 rfl rfl (fun r_93 => ?_)
              refine tz_iconst (pc := 96) dX5_next_96 ?_
              refine tz_iadd (pc := 97) (v := (J1 163 6) + 1) dX5_next_97 rfl ?_
              refine tz_aload_n (pc := 98) dX5_next_98 rfl rfl ?_
              refine tz_fI (pc := 99) (kz := 4) (v := (J1 163 4)) dX5_next_99 fl_X5_9 i_163_4 rfl rfl (fun r_99 => ?_)
              have hmn := zmn_le (J1 163 6 + 1) (J1 163 4)
              refine tz_mn (pc := 102) (v := zmn (J1 163 6 + 1) (J1 163 4)) dX5_next_102 ml_X5_59 (Nat.le_of_ble_eq_true rfl) (Nat.le_of_ble_eq_true rfl) (Nat.le_of_ble_eq_true rfl) (Nat.le_of_ble_eq_true rfl) (by omega) (by omega) rfl ?_
              refine tz_pI (pc := 105) (kz := 7) dX5_next_105 fl_X5_21 i_163_7 rfl rfl (by omega) ?_
              have loop108 : ∀ (f9 : Nat) (J2 : zJ), ((J2 163 4 - J2 163 7).toNat) < f9 → (zOf (zbut [163]) J2 J ∧ J2 163 4 = J 163 4 ∧ J2 163 8 = J 163 8) → ((0 ≤ J2 163 6 ∧ J2 163 6 ≤ J2 163 7) ∧ J2 163 7 ≤ J2 163 4 ∧ (J2 163 5 = 0 ∨ J2 163 6 < J2 163 4)) → tz_At l G M_X5_next (tb_rm 1 0 0) none (tb_ZM G 0 0 (zQ n 0 (zqv (fun J' => RN J' J ∧ RD2 J' ∧ J' 163 8 = J 163 8))) (zX n 0 zN)) 0 0 n J2 108 [some (.ref 163)] [] := by
                intro f9
                induction f9 with
                | zero => intro J2 hm9; exact absurd hm9 (Nat.not_lt_zero _)
                | succ f9 ih108 =>
                  intro J2 hm108 f2 h2
                  have r42 := f2.2.1
                  have h2a := h2.1
                  have h2b := h2.2.1
                  refine tz_aload_n (pc := 108) dX5_next_108 rfl rfl ?_
                  refine tz_fI (pc := 109) (kz := 5) (v := (J2 163 5)) dX5_next_109 fl_X5_15 i_163_5 rfl rfl (fun r_109 => ?_)
                  refine tz_iconst (pc := 112) dX5_next_112 ?_
                  refine tz_icmp_eq (pc := 113) (tgt := 124) dX5_next_113 (by decide) (by omega) (by decide) (fun h_113 => ?_) (fun h_113 => ?_)
                  · refine tz_aload_n (pc := 124) dX5_next_124 rfl rfl ?_
                    refine tz_fI (pc := 125) (kz := 7) (v := (J2 163 7)) dX5_next_125 fl_X5_21 i_163_7 rfl rfl (fun r_125 => ?_)
                    refine tz_aload_n (pc := 128) dX5_next_128 rfl rfl ?_
                    refine tz_fI (pc := 129) (kz := 4) (v := (J2 163 4)) dX5_next_129 fl_X5_9 i_163_4 rfl rfl (fun r_129 => ?_)
                    refine tz_icmp_ge (pc := 132) (tgt := 167) dX5_next_132 (by decide) (by omega) (by omega) (fun h_132 => ?_) (fun h_132 => ?_)
                    · exact tz_vret (pc := 167) dX5_next_167 rfl (Nat.le_of_ble_eq_true rfl) (Nat.le_of_ble_eq_true rfl) ⟨Nat.le_refl _, Nat.le_add_right _ _⟩ ⟨rfl, ⟨⟨f2.1, f2.2.1, fun q => by rw [← f2.2.2]; exact q⟩, ⟨⟨h2.1, h2.2.1, by omega⟩, h2.2.2⟩, f2.2.2⟩⟩
                    · refine tz_aload_n (pc := 135) dX5_next_135 rfl rfl ?_
                      refine tz_fR (pc := 136) dX5_next_136 fl_X5_34 r_163_0 ?_
                      refine tz_aload_n (pc := 139) dX5_next_139 rfl rfl ?_
                      refine tz_fI (pc := 140) (kz := 7) (v := (J2 163 7)) dX5_next_140 fl_X5_21 i_163_7 rfl rfl (fun r_140 => ?_)
                      refine tz_aL (pc := 143) (z := (J2 163 7)) (v := (J 162 (J2 163 7))) dX5_next_143 a_162 rfl (by omega) (Eq.trans (congrFun (f2.1 162 rfl) (J2 163 7)) rfl) (fun r_143 => ?_)
                      refine tz_cS (pc := 144) (c_kindOf hl n _ _ (by omega)) sl_X5_101 dX5_next_144 rfl rfl (Nat.le_of_ble_eq_true rfl) ⟨(Nat.le_of_ble_eq_true rfl), (Nat.le_of_ble_eq_true rfl)⟩ rfl rfl (Nat.le_of_ble_eq_true rfl) (Nat.le_of_ble_eq_true rfl) (fun r9 J_144 hq9 => ?_)
                      obtain ⟨z_144, rfl, hz_144, rfl⟩ := hq9
                      refine tz_aload_n (pc := 147) dX5_next_147 rfl rfl ?_
                      refine tz_fI (pc := 148) (kz := 5) (v := (J2 163 5)) dX5_next_148 fl_X5_15 i_163_5 rfl rfl (fun r_148 => ?_)
                      refine tz_icmp_ne (pc := 151) (tgt := 167) dX5_next_151 (by decide) (by omega) (by omega) (fun h_151 => ?_) (fun h_151 => ?_)
                      · exact tz_vret (pc := 167) dX5_next_167 rfl (Nat.le_of_ble_eq_true rfl) (Nat.le_of_ble_eq_true rfl) ⟨Nat.le_refl _, Nat.le_add_right _ _⟩ ⟨rfl, ⟨⟨f2.1, f2.2.1, fun q => by rw [← f2.2.2]; exact q⟩, ⟨⟨h2.1, h2.2.1, by omega⟩, h2.2.2⟩, f2.2.2⟩⟩
                      · refine tz_aload_n (pc := 154) dX5_next_154 rfl rfl ?_
                        refine tz_dup (pc := 155) dX5_next_155 rfl ?_
                        refine tz_fI (pc := 156) (kz := 7) (v := (J2 163 7)) dX5_next_156 fl_X5_21 i_163_7 rfl rfl (fun r_156 => ?_)
                        refine tz_iconst (pc := 159) dX5_next_159 ?_
                        refine tz_iadd (pc := 160) (v := (J2 163 7) + 1) dX5_next_160 rfl ?_
                        refine tz_pI (pc := 161) (kz := 7) dX5_next_161 fl_X5_21 i_163_7 rfl rfl (by omega) ?_
                        refine tz_goto (pc := 164) (tgt := 108) dX5_next_164 (by decide) ?_
                        exact ih108 _ (by show (J2 163 4 - (J2 163 7 + 1)).toNat < _; omega) ⟨zOf.up rfl f2.1, f2.2⟩ ⟨⟨h2.1.1, by show J2 163 6 ≤ J2 163 7 + 1; omega⟩, by show J2 163 7 + 1 ≤ J2 163 4; omega, h2.2.2⟩
                  · refine tz_aload_n (pc := 116) dX5_next_116 rfl rfl ?_
                    refine tz_fI (pc := 117) (kz := 5) (v := (J2 163 5)) dX5_next_117 fl_X5_15 i_163_5 rfl rfl (fun r_117 => ?_)
                    refine tz_iconst (pc := 120) dX5_next_120 ?_
                    refine tz_icmp_ne (pc := 121) (tgt := 167) dX5_next_121 (by decide) (by omega) (by decide) (fun h_121 => ?_) (fun h_121 => ?_)
                    · exact tz_vret (pc := 167) dX5_next_167 rfl (Nat.le_of_ble_eq_true rfl) (Nat.le_of_ble_eq_true rfl) ⟨Nat.le_refl _, Nat.le_add_right _ _⟩ ⟨rfl, ⟨⟨f2.1, f2.2.1, fun q => by rw [← f2.2.2]; exact q⟩, ⟨⟨h2.1, h2.2.1, by omega⟩, h2.2.2⟩, f2.2.2⟩⟩
                    · refine tz_aload_n (pc := 124) dX5_next_124 rfl rfl ?_
                      refine tz_fI (pc := 125) (kz := 7) (v := (J2 163 7)) dX5_next_125 fl_X5_21 i_163_7 rfl rfl (fun r_125 => ?_)
                      refine tz_aload_n (pc := 128) dX5_next_128 rfl rfl ?_
                      refine tz_fI (pc := 129) (kz := 4) (v := (J2 163 4)) dX5_next_129 fl_X5_9 i_163_4 rfl rfl (fun r_129 => ?_)
                      refine tz_icmp_ge (pc := 132) (tgt := 167) dX5_next_132 (by decide) (by omega) (by omega) (fun h_132 => ?_) (fun h_132 => ?_)
                      · exact tz_vret (pc := 167) dX5_next_167 rfl (Nat.le_of_ble_eq_true rfl) (Nat.le_of_ble_eq_true rfl) ⟨Nat.le_refl _, Nat.le_add_right _ _⟩ ⟨rfl, ⟨⟨f2.1, f2.2.1, fun q => by rw [← f2.2.2]; exact q⟩, ⟨⟨h2.1, h2.2.1, by omega⟩, h2.2.2⟩, f2.2.2⟩⟩
                      · refine tz_aload_n (pc := 135) dX5_next_135 rfl rfl ?_
                        refine tz_fR (pc := 136) dX5_next_136 fl_X5_34 r_163_0 ?_
                        refine tz_aload_n (pc := 139) dX5_next_139 rfl rfl ?_
                        refine tz_fI (pc := 140) (kz := 7) (v := (J2 163 7)) dX5_next_140 fl_X5_21 i_163_7 rfl rfl (fun r_140 => ?_)
                        refine tz_aL (pc := 143) (z := (J2 163 7)) (v := (J 162 (J2 163 7))) dX5_next_143 a_162 rfl (by omega) (Eq.trans (congrFun (f2.1 162 rfl) (J2 163 7)) rfl) (fun r_143 => ?_)
                        refine tz_cS (pc := 144) (c_kindOf hl n _ _ (by omega)) sl_X5_101 dX5_next_144 rfl rfl (Nat.le_of_ble_eq_true rfl) ⟨(Nat.le_of_ble_eq_true rfl), (Nat.le_of_ble_eq_true rfl)⟩ rfl rfl (Nat.le_of_ble_eq_true rfl) (Nat.le_of_ble_eq_true rfl) (fun r9 J_144 hq9 => ?_)
                        obtain ⟨z_144, rfl, hz_144, rfl⟩ := hq9
                        refine tz_aload_n (pc := 147) dX5_next_147 rfl rfl ?_
                        refine tz_fI (pc := 148) (kz := 5) (v := (J2 163 5)) dX5_next_148 fl_X5_15 i_163_5 rfl rfl (fun r_148 => ?_)
                        refine tz_icmp_ne (pc := 151) (tgt := 167) dX5_next_151 (by decide) (by omega) (by omega) (fun h_151 => ?_) (fun h_151 => ?_)
                        · exact tz_vret (pc := 167) dX5_next_167 rfl (Nat.le_of_ble_eq_true rfl) (Nat.le_of_ble_eq_true rfl) ⟨Nat.le_refl _, Nat.le_add_right _ _⟩ ⟨rfl, ⟨⟨f2.1, f2.2.1, fun q => by rw [← f2.2.2]; exact q⟩, ⟨⟨h2.1, h2.2.1, by omega⟩, h2.2.2⟩, f2.2.2⟩⟩
                        · refine tz_aload_n (pc := 154) dX5_next_154 rfl rfl ?_
                          refine tz_dup (pc := 155) dX5_next_155 rfl ?_
                          refine tz_fI (pc := 156) (kz := 7) (v := (J2 163 7)) dX5_next_156 fl_X5_21 i_163_7 rfl rfl (fun r_156 => ?_)
                          refine tz_iconst (pc := 159) dX5_next_159 ?_
                          refine tz_iadd (pc := 160) (v := (J2 163 7) + 1) dX5_next_160 rfl ?_
                          refine tz_pI (pc := 161) (kz := 7) dX5_next_161 fl_X5_21 i_163_7 rfl rfl (by omega) ?_
                          refine tz_goto (pc := 164) (tgt := 108) dX5_next_164 (by decide) ?_
                          exact ih108 _ (by show (J2 163 4 - (J2 163 7 + 1)).toNat < _; omega) ⟨zOf.up rfl f2.1, f2.2⟩ ⟨⟨h2.1.1, by show J2 163 6 ≤ J2 163 7 + 1; omega⟩, by show J2 163 7 + 1 ≤ J2 163 4; omega, h2.2.2⟩
              exact loop108 _ _ (Nat.lt_succ_self _) ⟨zOf.up rfl (zOf.up rfl f1.1), f1.2⟩ (by first | exact ⟨⟨h1.1, by show J1 163 6 ≤ zmn _ _; omega⟩, by show zmn _ _ ≤ J1 163 4; omega, Or.inr (by show J1 163 6 < J1 163 4; omega)⟩ | exact ⟨⟨h1.1, by show J1 163 6 ≤ zmn _ _; omega⟩, by show zmn _ _ ≤ J1 163 4; omega, Or.inl rfl⟩)
            · refine tz_aload_n (pc := 72) dX5_next_72 rfl rfl ?_
              refine tz_fR (pc := 73) dX5_next_73 fl_X5_34 r_163_0 ?_
              refine tz_aload_n (pc := 76) dX5_next_76 rfl rfl ?_
              refine tz_fI (pc := 77) (kz := 6) (v := (J1 163 6)) dX5_next_77 fl_X5_18 i_163_6 rfl rfl (fun r_77 => ?_)
              refine tz_aL (pc := 80) (z := (J1 163 6)) (v := (J 162 (J1 163 6))) dX5_next_80 a_162 rfl (by omega) (Eq.trans (congrFun (f1.1 162 rfl) (J1 163 6)) rfl) (fun r_80 => ?_)
              refine tz_cS (pc := 81) (c_kindOf hl n _ _ (by omega)) sl_X5_101 dX5_next_81 rfl rfl (Nat.le_of_ble_eq_true rfl) ⟨(Nat.le_of_ble_eq_true rfl), (Nat.le_of_ble_eq_true rfl)⟩ rfl rfl (Nat.le_of_ble_eq_true rfl) (Nat.le_of_ble_eq_true rfl) (fun r9 J_81 hq9 => ?_)
              obtain ⟨z_81, rfl, hz_81, rfl⟩ := hq9
              refine tz_goto (pc := 84) (tgt := 88) dX5_next_84 (by decide) ?_
              refine tz_pI (pc := 88) (kz := 5) dX5_next_88 fl_X5_15 i_163_5 rfl rfl (by omega) ?_
              refine tz_aload_n (pc := 91) dX5_next_91 rfl rfl ?_
              refine tz_aload_n (pc := 92) dX5_next_92 rfl rfl ?_
              refine tz_fI (pc := 93) (kz := 6) (v := (J1 163 6)) dX5_next_93 fl_X5_18 i_163_6 rfl rfl (fun r_93 => ?_)
              refine tz_iconst (pc := 96) dX5_next_96 ?_
              refine tz_iadd (pc := 97) (v := (J1 163 6) + 1) dX5_next_97 rfl ?_
              refine tz_aload_n (pc := 98) dX5_next_98 rfl rfl ?_
              refine tz_fI (pc := 99) (kz := 4) (v := (J1 163 4)) dX5_next_99 fl_X5_9 i_163_4 rfl rfl (fun r_99 => ?_)
              have hmn := zmn_le (J1 163 6 + 1) (J1 163 4)
              refine tz_mn (pc := 102) (v := zmn (J1 163 6 + 1) (J1 163 4)) dX5_next_102 ml_X5_59 (Nat.le_of_ble_eq_true rfl) (Nat.le_of_ble_eq_true rfl) (Nat.le_of_ble_eq_true rfl) (Nat.le_of_ble_eq_true rfl) (by omega) (by omega) rfl ?_
              refine tz_pI (pc := 105) (kz := 7) dX5_next_105 fl_X5_21 i_163_7 rfl rfl (by omega) ?_
              have loop108 : ∀ (f9 : Nat) (J2 : zJ), ((J2 163 4 - J2 163 7).toNat) < f9 → (zOf (zbut [163]) J2 J ∧ J2 163 4 = J 163 4 ∧ J2 163 8 = J 163 8) → ((0 ≤ J2 163 6 ∧ J2 163 6 ≤ J2 163 7) ∧ J2 163 7 ≤ J2 163 4 ∧ (J2 163 5 = 0 ∨ J2 163 6 < J2 163 4)) → tz_At l G M_X5_next (tb_rm 1 0 0) none (tb_ZM G 0 0 (zQ n 0 (zqv (fun J' => RN J' J ∧ RD2 J' ∧ J' 163 8 = J 163 8))) (zX n 0 zN)) 0 0 n J2 108 [some (.ref 163)] [] := by
                intro f9
                induction f9 with
                | zero => intro J2 hm9; exact absurd hm9 (Nat.not_lt_zero _)
                | succ f9 ih108 =>
                  intro J2 hm108 f2 h2
                  have r42 := f2.2.1
                  have h2a := h2.1
                  have h2b := h2.2.1
                  refine tz_aload_n (pc := 108) dX5_next_108 rfl rfl ?_
                  refine tz_fI (pc := 109) (kz := 5) (v := (J2 163 5)) dX5_next_109 fl_X5_15 i_163_5 rfl rfl (fun r_109 => ?_)
                  refine tz_iconst (pc := 112) dX5_next_112 ?_
                  refine tz_icmp_eq (pc := 113) (tgt := 124) dX5_next_113 (by decide) (by omega) (by decide) (fun h_113 => ?_) (fun h_113 => ?_)
                  · refine tz_aload_n (pc := 124) dX5_next_124 rfl rfl ?_
                    refine tz_fI (pc := 125) (kz := 7) (v := (J2 163 7)) dX5_next_125 fl_X5_21 i_163_7 rfl rfl (fun r_125 => ?_)
                    refine tz_aload_n (pc := 128) dX5_next_128 rfl rfl ?_
                    refine tz_fI (pc := 129) (kz := 4) (v := (J2 163 4)) dX5_next_129 fl_X5_9 i_163_4 rfl rfl (fun r_129 => ?_)
                    refine tz_icmp_ge (pc := 132) (tgt := 167) dX5_next_132 (by decide) (by omega) (by omega) (fun h_132 => ?_) (fun h_132 => ?_)
                    · exact tz_vret (pc := 167) dX5_next_167 rfl (Nat.le_of_ble_eq_true rfl) (Nat.le_of_ble_eq_true rfl) ⟨Nat.le_refl _, Nat.le_add_right _ _⟩ ⟨rfl, ⟨⟨f2.1, f2.2.1, fun q => by rw [← f2.2.2]; exact q⟩, ⟨⟨h2.1, h2.2.1, by omega⟩, h2.2.2⟩, f2.2.2⟩⟩
                    · refine tz_aload_n (pc := 135) dX5_next_135 rfl rfl ?_
                      refine tz_fR (pc := 136) dX5_next_136 fl_X5_34 r_163_0 ?_
                      refine tz_aload_n (pc := 139) dX5_next_139 rfl rfl ?_
                      refine tz_fI (pc := 140) (kz := 7) (v := (J2 163 7)) dX5_next_140 fl_X5_21 i_163_7 rfl rfl (fun r_140 => ?_)
                      refine tz_aL (pc := 143) (z := (J2 163 7)) (v := (J 162 (J2 163 7))) dX5_next_143 a_162 rfl (by omega) (Eq.trans (congrFun (f2.1 162 rfl) (J2 163 7)) rfl) (fun r_143 => ?_)
                      refine tz_cS (pc := 144) (c_kindOf hl n _ _ (by omega)) sl_X5_101 dX5_next_144 rfl rfl (Nat.le_of_ble_eq_true rfl) ⟨(Nat.le_of_ble_eq_true rfl), (Nat.le_of_ble_eq_true rfl)⟩ rfl rfl (Nat.le_of_ble_eq_true rfl) (Nat.le_of_ble_eq_true rfl) (fun r9 J_144 hq9 => ?_)
                      obtain ⟨z_144, rfl, hz_144, rfl⟩ := hq9
                      refine tz_aload_n (pc := 147) dX5_next_147 rfl rfl ?_
                      refine tz_fI (pc := 148) (kz := 5) (v := (J2 163 5)) dX5_next_148 fl_X5_15 i_163_5 rfl rfl (fun r_148 => ?_)
                      refine tz_icmp_ne (pc := 151) (tgt := 167) dX5_next_151 (by decide) (by omega) (by omega) (fun h_151 => ?_) (fun h_151 => ?_)
                      · exact tz_vret (pc := 167) dX5_next_167 rfl (Nat.le_of_ble_eq_true rfl) (Nat.le_of_ble_eq_true rfl) ⟨Nat.le_refl _, Nat.le_add_right _ _⟩ ⟨rfl, ⟨⟨f2.1, f2.2.1, fun q => by rw [← f2.2.2]; exact q⟩, ⟨⟨h2.1, h2.2.1, by omega⟩, h2.2.2⟩, f2.2.2⟩⟩
                      · refine tz_aload_n (pc := 154) dX5_next_154 rfl rfl ?_
                        refine tz_dup (pc := 155) dX5_next_155 rfl ?_
                        refine tz_fI (pc := 156) (kz := 7) (v := (J2 163 7)) dX5_next_156 fl_X5_21 i_163_7 rfl rfl (fun r_156 => ?_)
                        refine tz_iconst (pc := 159) dX5_next_159 ?_
                        refine tz_iadd (pc := 160) (v := (J2 163 7) + 1) dX5_next_160 rfl ?_
                        refine tz_pI (pc := 161) (kz := 7) dX5_next_161 fl_X5_21 i_163_7 rfl rfl (by omega) ?_
                        refine tz_goto (pc := 164) (tgt := 108) dX5_next_164 (by decide) ?_
                        exact ih108 _ (by show (J2 163 4 - (J2 163 7 + 1)).toNat < _; omega) ⟨zOf.up rfl f2.1, f2.2⟩ ⟨⟨h2.1.1, by show J2 163 6 ≤ J2 163 7 + 1; omega⟩, by show J2 163 7 + 1 ≤ J2 163 4; omega, h2.2.2⟩
                  · refine tz_aload_n (pc := 116) dX5_next_116 rfl rfl ?_
                    refine tz_fI (pc := 117) (kz := 5) (v := (J2 163 5)) dX5_next_117 fl_X5_15 i_163_5 rfl rfl (fun r_117 => ?_)
                    refine tz_iconst (pc := 120) dX5_next_120 ?_
                    refine tz_icmp_ne (pc := 121) (tgt := 167) dX5_next_121 (by decide) (by omega) (by decide) (fun h_121 => ?_) (fun h_121 => ?_)
                    · exact tz_vret (pc := 167) dX5_next_167 rfl (Nat.le_of_ble_eq_true rfl) (Nat.le_of_ble_eq_true rfl) ⟨Nat.le_refl _, Nat.le_add_right _ _⟩ ⟨rfl, ⟨⟨f2.1, f2.2.1, fun q => by rw [← f2.2.2]; exact q⟩, ⟨⟨h2.1, h2.2.1, by omega⟩, h2.2.2⟩, f2.2.2⟩⟩
                    · refine tz_aload_n (pc := 124) dX5_next_124 rfl rfl ?_
                      refine tz_fI (pc := 125) (kz := 7) (v := (J2 163 7)) dX5_next_125 fl_X5_21 i_163_7 rfl rfl (fun r_125 => ?_)
                      refine tz_aload_n (pc := 128) dX5_next_128 rfl rfl ?_
                      refine tz_fI (pc := 129) (kz := 4) (v := (J2 163 4)) dX5_next_129 fl_X5_9 i_163_4 rfl rfl (fun r_129 => ?_)
                      refine tz_icmp_ge (pc := 132) (tgt := 167) dX5_next_132 (by decide) (by omega) (by omega) (fun h_132 => ?_) (fun h_132 => ?_)
                      · exact tz_vret (pc := 167) dX5_next_167 rfl (Nat.le_of_ble_eq_true rfl) (Nat.le_of_ble_eq_true rfl) ⟨Nat.le_refl _, Nat.le_add_right _ _⟩ ⟨rfl, ⟨⟨f2.1, f2.2.1, fun q => by rw [← f2.2.2]; exact q⟩, ⟨⟨h2.1, h2.2.1, by omega⟩, h2.2.2⟩, f2.2.2⟩⟩
                      · refine tz_aload_n (pc := 135) dX5_next_135 rfl rfl ?_
                        refine tz_fR (pc := 136) dX5_next_136 fl_X5_34 r_163_0 ?_
                        refine tz_aload_n (pc := 139) dX5_next_139 rfl rfl ?_
                        refine tz_fI (pc := 140) (kz := 7) (v := (J2 163 7)) dX5_next_140 fl_X5_21 i_163_7 rfl rfl (fun r_140 => ?_)
                        refine tz_aL (pc := 143) (z := (J2 163 7)) (v := (J 162 (J2 163 7))) dX5_next_143 a_162 rfl (by omega) (Eq.trans (congrFun (f2.1 162 rfl) (J2 163 7)) rfl) (fun r_143 => ?_)
                        refine tz_cS (pc := 144) (c_kindOf hl n _ _ (by omega)) sl_X5_101 dX5_next_144 rfl rfl (Nat.le_of_ble_eq_true rfl) ⟨(Nat.le_of_ble_eq_true rfl), (Nat.le_of_ble_eq_true rfl)⟩ rfl rfl (Nat.le_of_ble_eq_true rfl) (Nat.le_of_ble_eq_true rfl) (fun r9 J_144 hq9 => ?_)
                        obtain ⟨z_144, rfl, hz_144, rfl⟩ := hq9
                        refine tz_aload_n (pc := 147) dX5_next_147 rfl rfl ?_
                        refine tz_fI (pc := 148) (kz := 5) (v := (J2 163 5)) dX5_next_148 fl_X5_15 i_163_5 rfl rfl (fun r_148 => ?_)
                        refine tz_icmp_ne (pc := 151) (tgt := 167) dX5_next_151 (by decide) (by omega) (by omega) (fun h_151 => ?_) (fun h_151 => ?_)
                        · exact tz_vret (pc := 167) dX5_next_167 rfl (Nat.le_of_ble_eq_true rfl) (Nat.le_of_ble_eq_true rfl) ⟨Nat.le_refl _, Nat.le_add_right _ _⟩ ⟨rfl, ⟨⟨f2.1, f2.2.1, fun q => by rw [← f2.2.2]; exact q⟩, ⟨⟨h2.1, h2.2.1, by omega⟩, h2.2.2⟩, f2.2.2⟩⟩
                        · refine tz_aload_n (pc := 154) dX5_next_154 rfl rfl ?_
                          refine tz_dup (pc := 155) dX5_next_155 rfl ?_
                          refine tz_fI (pc := 156) (kz := 7) (v := (J2 163 7)) dX5_next_156 fl_X5_21 i_163_7 rfl rfl (fun r_156 => ?_)
                          refine tz_iconst (pc := 159) dX5_next_159 ?_
                          refine tz_iadd (pc := 160) (v := (J2 163 7) + 1) dX5_next_160 rfl ?_
                          refine tz_pI (pc := 161) (kz := 7) dX5_next_161 fl_X5_21 i_163_7 rfl rfl (by omega) ?_
                          refine tz_goto (pc := 164) (tgt := 108) dX5_next_164 (by decide) ?_
                          exact ih108 _ (by show (J2 163 4 - (J2 163 7 + 1)).toNat < _; omega) ⟨zOf.up rfl f2.1, f2.2⟩ ⟨⟨h2.1.1, by show J2 163 6 ≤ J2 163 7 + 1; omega⟩, by show J2 163 7 + 1 ≤ J2 163 4; omega, h2.2.2⟩
              exact loop108 _ _ (Nat.lt_succ_self _) ⟨zOf.up rfl (zOf.up rfl f1.1), f1.2⟩ (by first | exact ⟨⟨h1.1, by show J1 163 6 ≤ zmn _ _; omega⟩, by show zmn _ _ ≤ J1 163 4; omega, Or.inr (by show J1 163 6 < J1 163 4; omega)⟩ | exact ⟨⟨h1.1, by show J1 163 6 ≤ zmn _ _; omega⟩, by show zmn _ _ ≤ J1 163 4; omega, Or.inl rfl⟩)
          · refine tz_aload_n (pc := 47) dX5_next_47 rfl rfl ?_
            refine tz_dup (pc := 48) dX5_next_48 rfl ?_
            refine tz_fI (pc := 49) (kz := 6) (v := (J1 163 6)) dX5_next_49 fl_X5_18 i_163_6 rfl rfl (fun r_49 => ?_)
            refine tz_iconst (pc := 52) dX5_next_52 ?_
            refine tz_iadd (pc := 53) (v := (J1 163 6) + 1) dX5_next_53 rfl ?_
            refine tz_pI (pc := 54) (kz := 6) dX5_next_54 fl_X5_18 i_163_6 rfl rfl (by omega) ?_
            refine tz_goto (pc := 57) (tgt := 8) dX5_next_57 (by decide) ?_
            exact ih8 _ (by show (J1 163 4 - (J1 163 6 + 1)).toNat < _; omega) ⟨zOf.up rfl f1.1, f1.2⟩ ⟨by show 0 ≤ J1 163 6 + 1; omega, by show J1 163 6 + 1 ≤ J1 163 4; omega⟩
  exact loop8 _ _ (Nat.lt_succ_self _) ⟨zOf.up rfl zOf.rf, rfl, rfl⟩ ⟨h0.1, h0.2⟩

set_option maxHeartbeats 4000000 in
set_option maxRecDepth 100000 in
theorem c_fail {l : Launch} {G : tb_G} (hl : l.stackTraces = false) (n : Nat) (J : zJ) (k : Int) (hr_k : -2147483648 ≤ k ∧ k < 2147483648)  (hk : ¬ k = 0) : tz_Ok l G M_X5_fail 0 0 0 [.ref 163, zi k] n J (zqi (fun z J' => RN J' J ∧ (RD2 J → RD2 J') ∧ z = -1 ∧ ¬ J' 163 8 = 0)) zN := by
  refine tz_Ok.of hl (by decide +kernel) rfl (tb_c1 rfl) (Nat.le_of_ble_eq_true rfl) ?_
  show tz_At l G M_X5_fail (tb_rm 0 0 0) none (tb_ZM G 0 0 (zQ n 0 (zqi (fun z J' => RN J' J ∧ (RD2 J → RD2 J') ∧ z = -1 ∧ ¬ J' 163 8 = 0))) (zX n 0 zN)) 0 0 n J 0 [some (.ref 163), some (zi k)] []
  refine tz_aload_n (pc := 0) dX5_fail_0 rfl rfl ?_
  refine tz_fI (pc := 1) (kz := 8) (v := (J 163 8)) dX5_fail_1 fl_X5_24 i_163_8 rfl rfl (fun r_1 => ?_)
  refine tz_if_ne (pc := 4) (tgt := 20) dX5_fail_4 (by decide) (by omega) (fun h_4 => ?_) (fun h_4 => ?_)
  · refine tz_iconst (pc := 20) dX5_fail_20 ?_
    exact tz_iret (pc := 21) (z := (-1)) dX5_fail_21 rfl (Nat.le_of_ble_eq_true rfl) (Nat.le_of_ble_eq_true rfl) ⟨Nat.le_refl _, Nat.le_add_right _ _⟩ ⟨_, rfl, (by decide), (by first | exact ⟨⟨zOf.up rfl (zOf.up rfl zOf.rf), rfl, fun _ => by omega⟩, id, rfl, hk⟩ | exact ⟨RN.rf, id, rfl, by omega⟩)⟩
  · refine tz_aload_n (pc := 7) dX5_fail_7 rfl rfl ?_
    refine tz_iload_n (pc := 8) dX5_fail_8 rfl rfl ?_
    refine tz_pI (pc := 9) (kz := 8) dX5_fail_9 fl_X5_24 i_163_8 rfl rfl (by omega) ?_
    refine tz_aload_n (pc := 12) dX5_fail_12 rfl rfl ?_
    refine tz_aload_n (pc := 13) dX5_fail_13 rfl rfl ?_
    refine tz_fI (pc := 14) (kz := 6) (v := (J 163 6)) dX5_fail_14 fl_X5_18 i_163_6 rfl rfl (fun r_14 => ?_)
    refine tz_pI (pc := 17) (kz := 9) dX5_fail_17 fl_X5_27 i_163_9 rfl rfl (by omega) ?_
    refine tz_iconst (pc := 20) dX5_fail_20 ?_
    exact tz_iret (pc := 21) (z := (-1)) dX5_fail_21 rfl (Nat.le_of_ble_eq_true rfl) (Nat.le_of_ble_eq_true rfl) ⟨Nat.le_refl _, Nat.le_add_right _ _⟩ ⟨_, rfl, (by decide), (by first | exact ⟨⟨zOf.up rfl (zOf.up rfl zOf.rf), rfl, fun _ => by omega⟩, id, rfl, hk⟩ | exact ⟨RN.rf, id, rfl, by omega⟩)⟩

set_option maxHeartbeats 4000000 in
set_option maxRecDepth 100000 in
theorem c_pass {l : Launch} {G : tb_G} (hl : l.stackTraces = false) (n : Nat) (J : zJ) (k : Int) (hr_k : -2147483648 ≤ k ∧ k < 2147483648)  (hD : RD2 J) : tz_Ok l G M_X5_pass 2 0 0 [.ref 163, zi k] n J (zqv (fun J' => RN J' J ∧ RD2 J')) zN := by
  refine tz_Ok.of hl (by decide +kernel) rfl (tb_c1 rfl) (Nat.le_of_ble_eq_true rfl) ?_
  show tz_At l G M_X5_pass (tb_rm 2 0 0) none (tb_ZM G 0 0 (zQ n 0 (zqv (fun J' => RN J' J ∧ RD2 J'))) (zX n 0 zN)) 0 0 n J 0 [some (.ref 163), some (zi k)] []
  refine tz_aload_n (pc := 0) dX5_pass_0 rfl rfl ?_
  refine tz_fI (pc := 1) (kz := 8) (v := (J 163 8)) dX5_pass_1 fl_X5_24 i_163_8 rfl rfl (fun r_1 => ?_)
  refine tz_if_eq (pc := 4) (tgt := 8) dX5_pass_4 (by decide) (by omega) (fun h_4 => ?_) (fun h_4 => ?_)
  · refine tz_aload_n (pc := 8) dX5_pass_8 rfl rfl ?_
    refine tz_fI (pc := 9) (kz := 5) (v := (J 163 5)) dX5_pass_9 fl_X5_15 i_163_5 rfl rfl (fun r_9 => ?_)
    refine tz_iload_n (pc := 12) dX5_pass_12 rfl rfl ?_
    refine tz_icmp_eq (pc := 13) (tgt := 23) dX5_pass_13 (by decide) (by omega) (by omega) (fun h_13 => ?_) (fun h_13 => ?_)
    · refine tz_aload_n (pc := 23) dX5_pass_23 rfl rfl ?_
      refine tz_cV (pc := 24) (c_next hl n _ (by have := hD.1; exact ⟨by have := this.1; omega, this.2.1⟩) hD.1.2.2) vl_X5_65 dX5_pass_24 o_163 rfl rfl (Nat.le_of_ble_eq_true rfl) ⟨(Nat.le_of_ble_eq_true rfl), (Nat.le_of_ble_eq_true rfl)⟩ rfl rfl (Nat.le_of_ble_eq_true rfl) (Nat.le_of_ble_eq_true rfl) (fun r9 J_24 hq9 => ?_)
      obtain ⟨rfl, g9, d9, v9⟩ := hq9
      exact tz_vret (pc := 27) dX5_pass_27 rfl (Nat.le_of_ble_eq_true rfl) (Nat.le_of_ble_eq_true rfl) ⟨Nat.le_refl _, Nat.le_add_right _ _⟩ ⟨rfl, (by first | exact ⟨g9, d9 hD⟩ | exact ⟨g9, d9⟩ | exact ⟨RN.rf, hD⟩)⟩
    · refine tz_aload_n (pc := 16) dX5_pass_16 rfl rfl ?_
      refine tz_iconst (pc := 17) dX5_pass_17 ?_
      refine tz_cV (pc := 18) (c_fail hl n _ _ (by decide) (by decide)) vl_X5_97 dX5_pass_18 o_163 rfl rfl (Nat.le_of_ble_eq_true rfl) ⟨(Nat.le_of_ble_eq_true rfl), (Nat.le_of_ble_eq_true rfl)⟩ rfl rfl (Nat.le_of_ble_eq_true rfl) (Nat.le_of_ble_eq_true rfl) (fun r9 J_18 hq9 => ?_)
      obtain ⟨z_18, rfl, hz_18, g9, d9, e9, v9⟩ := hq9
      refine tz_pop (pc := 21) dX5_pass_21 rfl ?_
      exact tz_vret (pc := 22) dX5_pass_22 rfl (Nat.le_of_ble_eq_true rfl) (Nat.le_of_ble_eq_true rfl) ⟨Nat.le_refl _, Nat.le_add_right _ _⟩ ⟨rfl, (by first | exact ⟨g9, d9 hD⟩ | exact ⟨g9, d9⟩ | exact ⟨RN.rf, hD⟩)⟩
  · exact tz_vret (pc := 7) dX5_pass_7 rfl (Nat.le_of_ble_eq_true rfl) (Nat.le_of_ble_eq_true rfl) ⟨Nat.le_refl _, Nat.le_add_right _ _⟩ ⟨rfl, (by first | exact ⟨g9, d9 hD⟩ | exact ⟨g9, d9⟩ | exact ⟨RN.rf, hD⟩)⟩

set_option maxHeartbeats 4000000 in
set_option maxRecDepth 100000 in
theorem c_readNum {l : Launch} {G : tb_G} (hl : l.stackTraces = false) (n : Nat) (J : zJ) (a : Int) (b : Int) (hr_a : -2147483648 ≤ a ∧ a < 2147483648) (hr_b : -2147483648 ≤ b ∧ b < 2147483648)  (hD : RD2 J) (ha : a = 0 ∨ a = 1) (hb : 0 ≤ b ∧ b ≤ 9) : tz_Ok l G M_X5_readNumber 2 0 0 [.ref 163, zi a, zi b] n J (zqi (fun z J' => RN J' J ∧ RD2 J' ∧ (J' 163 8 = 0 → a ≤ z ∧ z ≤ b))) zN := by
  refine tz_Ok.of hl (by decide +kernel) rfl (tb_c1 rfl) (Nat.le_of_ble_eq_true rfl) ?_
  show tz_At l G M_X5_readNumber (tb_rm 2 0 0) none (tb_ZM G 0 0 (zQ n 0 (zqi (fun z J' => RN J' J ∧ RD2 J' ∧ (J' 163 8 = 0 → a ≤ z ∧ z ≤ b)))) (zX n 0 zN)) 0 0 n J 0 [some (.ref 163), some (zi a), some (zi b), none] []
  obtain ⟨⟨⟨hD1, hD2⟩, hD3, hD4⟩, hD5⟩ := id hD
  refine tz_aload_n (pc := 0) dX5_readNumber_0 rfl rfl ?_
  refine tz_fI (pc := 1) (kz := 8) (v := (J 163 8)) dX5_readNumber_1 fl_X5_24 i_163_8 rfl rfl (fun r_1 => ?_)
  refine tz_if_eq (pc := 4) (tgt := 9) dX5_readNumber_4 (by decide) (by omega) (fun h_4 => ?_) (fun h_4 => ?_)
  · refine tz_aload_n (pc := 9) dX5_readNumber_9 rfl rfl ?_
    refine tz_fI (pc := 10) (kz := 5) (v := (J 163 5)) dX5_readNumber_10 fl_X5_15 i_163_5 rfl rfl (fun r_10 => ?_)
    refine tz_iconst (pc := 13) dX5_readNumber_13 ?_
    refine tz_icmp_eq (pc := 14) (tgt := 23) dX5_readNumber_14 (by decide) (by omega) (by decide) (fun h_14 => ?_) (fun h_14 => ?_)
    · refine tz_aload_n (pc := 23) dX5_readNumber_23 rfl rfl ?_
      refine tz_fR (pc := 24) dX5_readNumber_24 fl_X5_34 r_163_0 ?_
      refine tz_aload_n (pc := 27) dX5_readNumber_27 rfl rfl ?_
      refine tz_fI (pc := 28) (kz := 6) (v := (J 163 6)) dX5_readNumber_28 fl_X5_18 i_163_6 rfl rfl (fun r_28 => ?_)
      refine tz_aL (pc := 31) (z := (J 163 6)) (v := (J 162 (J 163 6))) dX5_readNumber_31 a_162 rfl (by omega) rfl (fun r_31 => ?_)
      refine tz_bipush (pc := 32) dX5_readNumber_32 (by decide) ?_
      refine tz_isub (pc := 34) (v := (J 162 (J 163 6)) - 48) dX5_readNumber_34 rfl ?_
      refine tz_tw ?_
      have rw_35 := zw_rg ((J 162 (J 163 6)) - 48)
      refine tz_istore_n (pc := 35) (L2 := [_, _, _, _]) dX5_readNumber_35 rfl (by decide) rfl ?_
      refine tz_aload_n (pc := 36) dX5_readNumber_36 rfl rfl ?_
      refine tz_fI (pc := 37) (kz := 7) (v := (J 163 7)) dX5_readNumber_37 fl_X5_21 i_163_7 rfl rfl (fun r_37 => ?_)
      refine tz_aload_n (pc := 40) dX5_readNumber_40 rfl rfl ?_
      refine tz_fI (pc := 41) (kz := 6) (v := (J 163 6)) dX5_readNumber_41 fl_X5_18 i_163_6 rfl rfl (fun r_41 => ?_)
      refine tz_isub (pc := 44) (v := (J 163 7) - (J 163 6)) dX5_readNumber_44 rfl ?_
      refine tz_iconst (pc := 45) dX5_readNumber_45 ?_
      refine tz_icmp_gt (pc := 46) (tgt := 59) dX5_readNumber_46 (by decide) (by omega) (by decide) (fun h_46 => ?_) (fun h_46 => ?_)
      · refine tz_aload_n (pc := 59) dX5_readNumber_59 rfl rfl ?_
        refine tz_iconst (pc := 60) dX5_readNumber_60 ?_
        refine tz_cV (pc := 61) (c_fail hl n _ _ (by decide) (by decide)) vl_X5_97 dX5_readNumber_61 o_163 rfl rfl (Nat.le_of_ble_eq_true rfl) ⟨(Nat.le_of_ble_eq_true rfl), (Nat.le_of_ble_eq_true rfl)⟩ rfl rfl (Nat.le_of_ble_eq_true rfl) (Nat.le_of_ble_eq_true rfl) (fun r9 J_61 hq9 => ?_)
        obtain ⟨z_61, rfl, hz_61, g9, d9, e9, v9⟩ := hq9
        exact tz_iret (pc := 64) (z := z_61) dX5_readNumber_64 rfl (Nat.le_of_ble_eq_true rfl) (Nat.le_of_ble_eq_true rfl) ⟨Nat.le_refl _, Nat.le_add_right _ _⟩ ⟨_, rfl, (by omega), (by first | exact ⟨g9, d9 hD, fun q => absurd q v9⟩ | exact ⟨g9, d9, fun q => by omega⟩ | exact ⟨RN.rf, hD, fun q => by omega⟩)⟩
      · refine tz_iload_n (pc := 49) dX5_readNumber_49 rfl rfl ?_
        refine tz_iload_n (pc := 50) dX5_readNumber_50 rfl rfl ?_
        refine tz_icmp_lt (pc := 51) (tgt := 59) dX5_readNumber_51 (by decide) (zw_rg _) (by omega) (fun h_51 => ?_) (fun h_51 => ?_)
        · refine tz_aload_n (pc := 59) dX5_readNumber_59 rfl rfl ?_
          refine tz_iconst (pc := 60) dX5_readNumber_60 ?_
          refine tz_cV (pc := 61) (c_fail hl n _ _ (by decide) (by decide)) vl_X5_97 dX5_readNumber_61 o_163 rfl rfl (Nat.le_of_ble_eq_true rfl) ⟨(Nat.le_of_ble_eq_true rfl), (Nat.le_of_ble_eq_true rfl)⟩ rfl rfl (Nat.le_of_ble_eq_true rfl) (Nat.le_of_ble_eq_true rfl) (fun r9 J_61 hq9 => ?_)
          obtain ⟨z_61, rfl, hz_61, g9, d9, e9, v9⟩ := hq9
          exact tz_iret (pc := 64) (z := z_61) dX5_readNumber_64 rfl (Nat.le_of_ble_eq_true rfl) (Nat.le_of_ble_eq_true rfl) ⟨Nat.le_refl _, Nat.le_add_right _ _⟩ ⟨_, rfl, (by omega), (by first | exact ⟨g9, d9 hD, fun q => absurd q v9⟩ | exact ⟨g9, d9, fun q => by omega⟩ | exact ⟨RN.rf, hD, fun q => by omega⟩)⟩
        · refine tz_iload_n (pc := 54) dX5_readNumber_54 rfl rfl ?_
          refine tz_iload_n (pc := 55) dX5_readNumber_55 rfl rfl ?_
          refine tz_icmp_le (pc := 56) (tgt := 65) dX5_readNumber_56 (by decide) (zw_rg _) (by omega) (fun h_56 => ?_) (fun h_56 => ?_)
          · refine tz_aload_n (pc := 65) dX5_readNumber_65 rfl rfl ?_
            refine tz_cV (pc := 66) (c_next hl n _ (by have := hD.1; exact ⟨by have := this.1; omega, this.2.1⟩) hD.1.2.2) vl_X5_65 dX5_readNumber_66 o_163 rfl rfl (Nat.le_of_ble_eq_true rfl) ⟨(Nat.le_of_ble_eq_true rfl), (Nat.le_of_ble_eq_true rfl)⟩ rfl rfl (Nat.le_of_ble_eq_true rfl) (Nat.le_of_ble_eq_true rfl) (fun r9 J_66 hq9 => ?_)
            obtain ⟨rfl, g9, d9, v9⟩ := hq9
            refine tz_iload_n (pc := 69) dX5_readNumber_69 rfl rfl ?_
            exact tz_iret (pc := 70) (z := (zw ((J 162 (J 163 6)) - 48))) dX5_readNumber_70 rfl (Nat.le_of_ble_eq_true rfl) (Nat.le_of_ble_eq_true rfl) ⟨Nat.le_refl _, Nat.le_add_right _ _⟩ ⟨_, rfl, (zw_rg _), (by first | exact ⟨g9, d9 hD, fun q => absurd q v9⟩ | exact ⟨g9, d9, fun q => by omega⟩ | exact ⟨RN.rf, hD, fun q => by omega⟩)⟩
          · refine tz_aload_n (pc := 59) dX5_readNumber_59 rfl rfl ?_
            refine tz_iconst (pc := 60) dX5_readNumber_60 ?_
            refine tz_cV (pc := 61) (c_fail hl n _ _ (by decide) (by decide)) vl_X5_97 dX5_readNumber_61 o_163 rfl rfl (Nat.le_of_ble_eq_true rfl) ⟨(Nat.le_of_ble_eq_true rfl), (Nat.le_of_ble_eq_true rfl)⟩ rfl rfl (Nat.le_of_ble_eq_true rfl) (Nat.le_of_ble_eq_true rfl) (fun r9 J_61 hq9 => ?_)
            obtain ⟨z_61, rfl, hz_61, g9, d9, e9, v9⟩ := hq9
            exact tz_iret (pc := 64) (z := z_61) dX5_readNumber_64 rfl (Nat.le_of_ble_eq_true rfl) (Nat.le_of_ble_eq_true rfl) ⟨Nat.le_refl _, Nat.le_add_right _ _⟩ ⟨_, rfl, (by omega), (by first | exact ⟨g9, d9 hD, fun q => absurd q v9⟩ | exact ⟨g9, d9, fun q => by omega⟩ | exact ⟨RN.rf, hD, fun q => by omega⟩)⟩
    · refine tz_aload_n (pc := 17) dX5_readNumber_17 rfl rfl ?_
      refine tz_iconst (pc := 18) dX5_readNumber_18 ?_
      refine tz_cV (pc := 19) (c_fail hl n _ _ (by decide) (by decide)) vl_X5_97 dX5_readNumber_19 o_163 rfl rfl (Nat.le_of_ble_eq_true rfl) ⟨(Nat.le_of_ble_eq_true rfl), (Nat.le_of_ble_eq_true rfl)⟩ rfl rfl (Nat.le_of_ble_eq_true rfl) (Nat.le_of_ble_eq_true rfl) (fun r9 J_19 hq9 => ?_)
      obtain ⟨z_19, rfl, hz_19, g9, d9, e9, v9⟩ := hq9
      exact tz_iret (pc := 22) (z := z_19) dX5_readNumber_22 rfl (Nat.le_of_ble_eq_true rfl) (Nat.le_of_ble_eq_true rfl) ⟨Nat.le_refl _, Nat.le_add_right _ _⟩ ⟨_, rfl, (by omega), (by first | exact ⟨g9, d9 hD, fun q => absurd q v9⟩ | exact ⟨g9, d9, fun q => by omega⟩ | exact ⟨RN.rf, hD, fun q => by omega⟩)⟩
  · refine tz_iconst (pc := 7) dX5_readNumber_7 ?_
    exact tz_iret (pc := 8) (z := (-1)) dX5_readNumber_8 rfl (Nat.le_of_ble_eq_true rfl) (Nat.le_of_ble_eq_true rfl) ⟨Nat.le_refl _, Nat.le_add_right _ _⟩ ⟨_, rfl, (by decide), (by first | exact ⟨g9, d9 hD, fun q => absurd q v9⟩ | exact ⟨g9, d9, fun q => by omega⟩ | exact ⟨RN.rf, hD, fun q => by omega⟩)⟩
