set_option maxHeartbeats 4000000 in
set_option maxRecDepth 100000 in
theorem c_reached {l : Launch} {G : tb_G} (hl : l.stackTraces = false) (n : Nat) (J : zJ) (bs : Int) (hr_bs : -2147483648 ≤ bs ∧ bs < 2147483648) (m : Int) (C : CT J m) (hr : rOK J 19 7 m) : tz_Ok l G M_X2_reachedFrom 0 0 0 [.ref 141, zi bs, .ref 19, zi 7] n J (zqi (fun z J' => J = J')) zN := by
  refine tz_Ok.of hl (by decide +kernel) rfl (tb_c1 rfl) (Nat.le_of_ble_eq_true rfl) ?_
  show tz_At l G M_X2_reachedFrom (tb_rm 0 0 0) none (tb_ZM G 0 0 (zQ n 0 (zqi (fun z J' => J = J'))) (zX n 0 zN)) 0 0 n J 0 [some (.ref 141), some (zi bs), some (.ref 19), some (zi 7), none, none, none, none] []
  have hb := C.told
  refine tz_iload_n (pc := 0) dX2_reachedFrom_0 rfl rfl ?_
  refine tz_istore (pc := 1) (L2 := [_, _, _, _, _, _, _, _]) dX2_reachedFrom_1 (by decide) rfl ?_
  refine tz_iconst (pc := 3) dX2_reachedFrom_3 ?_
  refine tz_istore (pc := 4) (L2 := [_, _, _, _, _, _, _, _]) dX2_reachedFrom_4 (by decide) rfl ?_
  have loop6 : ∀ (f9 : Nat) (x : Int) (k : Int) (d6 : Option Value) (d7 : Option Value), ((8 - k).toNat) < f9 → (-2147483648 ≤ x ∧ x < 2147483648) → (0 ≤ k ∧ k ≤ 8) → tz_At l G M_X2_reachedFrom (tb_rm 0 0 0) none (tb_ZM G 0 0 (zQ n 0 (zqi (fun z J' => J = J'))) (zX n 0 zN)) 0 0 n J 6 [some (.ref 141), some (zi bs), some (.ref 19), some (zi 7), some (zi x), some (zi k), d6, d7] [] := by
    intro f9
    induction f9 with
    | zero => intro x k d6 d7 hm9; exact absurd hm9 (Nat.not_lt_zero _)
    | succ f9 ih6 =>
      intro x k d6 d7 hm6 hx hk
      refine tz_iload (pc := 6) dX2_reachedFrom_6 rfl ?_
      refine tz_bipush (pc := 8) dX2_reachedFrom_8 (by decide) ?_
      refine tz_icmp_ge (pc := 10) (tgt := 74) dX2_reachedFrom_10 (by decide) (by omega) (by decide) (fun h_10 => ?_) (fun h_10 => ?_)
      · refine tz_iload (pc := 74) dX2_reachedFrom_74 rfl ?_
        exact tz_iret (pc := 76) (z := x) dX2_reachedFrom_76 rfl (Nat.le_of_ble_eq_true rfl) (Nat.le_of_ble_eq_true rfl) ⟨Nat.le_refl _, Nat.le_add_right _ _⟩ ⟨_, rfl, (by omega), rfl⟩
      · refine tz_iconst (pc := 13) dX2_reachedFrom_13 ?_
        refine tz_istore (pc := 14) (L2 := [_, _, _, _, _, _, _, _]) dX2_reachedFrom_14 (by decide) rfl ?_
        have loop16 : ∀ (f9 : Nat) (x2 : Int) (v : Int) (e7 : Option Value), ((8 - v).toNat) < f9 → (-2147483648 ≤ x2 ∧ x2 < 2147483648) → (0 ≤ v ∧ v ≤ 8) → tz_At l G M_X2_reachedFrom (tb_rm 0 0 0) none (tb_ZM G 0 0 (zQ n 0 (zqi (fun z J' => J = J'))) (zX n 0 zN)) 0 0 n J 16 [some (.ref 141), some (zi bs), some (.ref 19), some (zi 7), some (zi x2), some (zi k), some (zi v), e7] [] := by
          intro f9
          induction f9 with
          | zero => intro x2 v e7 hm9; exact absurd hm9 (Nat.not_lt_zero _)
          | succ f9 ih16 =>
            intro x2 v e7 hm16 hx2 hv
            have hq := hr v
            refine tz_iload (pc := 16) dX2_reachedFrom_16 rfl ?_
            refine tz_bipush (pc := 18) dX2_reachedFrom_18 (by decide) ?_
            refine tz_icmp_ge (pc := 20) (tgt := 68) dX2_reachedFrom_20 (by decide) (by omega) (by decide) (fun h_20 => ?_) (fun h_20 => ?_)
            · refine tz_iinc (pc := 68) (z := k + 1) (L2 := [_, _, _, _, _, _, _, _]) dX2_reachedFrom_68 rfl (by omega) rfl ?_
              refine tz_goto (pc := 71) (tgt := 6) dX2_reachedFrom_71 (by decide) ?_
              exact ih6 _ (k + 1) _ _ (by omega) hx2 (by omega)
            · refine tz_aload_n (pc := 23) dX2_reachedFrom_23 rfl rfl ?_
              refine tz_iload_n (pc := 24) dX2_reachedFrom_24 rfl rfl ?_
              refine tz_iload (pc := 25) dX2_reachedFrom_25 rfl ?_
              refine tz_iadd (pc := 27) (v := 7 + v) dX2_reachedFrom_27 rfl ?_
              refine tz_aL (pc := 28) (z := (7 + v)) (v := (J 19 (7 + v))) dX2_reachedFrom_28 a_19 rfl (by omega) rfl (fun r_28 => ?_)
              refine tz_istore (pc := 29) (L2 := [_, _, _, _, _, _, _, _]) dX2_reachedFrom_29 (by decide) rfl ?_
              refine tz_iload (pc := 31) dX2_reachedFrom_31 rfl ?_
              refine tz_iload (pc := 33) dX2_reachedFrom_33 rfl ?_
              refine tz_ishr (pc := 35) (v := zshr x2 v) dX2_reachedFrom_35 rfl ?_
              refine tz_iconst (pc := 36) dX2_reachedFrom_36 ?_
              refine tz_iand (pc := 37) (v := zand (zshr x2 v) 1) dX2_reachedFrom_37 rfl ?_
              have r_37 := zand_rg (zshr x2 v) 1
              refine tz_if_eq (pc := 38) (tgt := 62) dX2_reachedFrom_38 (by decide) (zand_rg _ _) (fun h_38 => ?_) (fun h_38 => ?_)
              · refine tz_iinc (pc := 62) (z := v + 1) (L2 := [_, _, _, _, _, _, _, _]) dX2_reachedFrom_62 rfl (by omega) rfl ?_
                refine tz_goto (pc := 65) (tgt := 16) dX2_reachedFrom_65 (by decide) ?_
                exact ih16 _ (v + 1) _ (by omega) (by omega) (by omega)
              · refine tz_iload (pc := 41) dX2_reachedFrom_41 rfl ?_
                refine tz_iconst (pc := 43) dX2_reachedFrom_43 ?_
                refine tz_icmp_eq (pc := 44) (tgt := 62) dX2_reachedFrom_44 (by decide) (by omega) (by decide) (fun h_44 => ?_) (fun h_44 => ?_)
                · refine tz_iinc (pc := 62) (z := v + 1) (L2 := [_, _, _, _, _, _, _, _]) dX2_reachedFrom_62 rfl (by omega) rfl ?_
                  refine tz_goto (pc := 65) (tgt := 16) dX2_reachedFrom_65 (by decide) ?_
                  exact ih16 _ (v + 1) _ (by omega) (by omega) (by omega)
                · refine tz_iload (pc := 47) dX2_reachedFrom_47 rfl ?_
                  refine tz_aload_n (pc := 49) dX2_reachedFrom_49 rfl rfl ?_
                  refine tz_fR (pc := 50) dX2_reachedFrom_50 fl_X2_28 r_141_0 ?_
                  refine tz_fR (pc := 53) dX2_reachedFrom_53 fl_X2_56 r_6_7 ?_
                  refine tz_iload (pc := 56) dX2_reachedFrom_56 rfl ?_
                  refine tz_aL (pc := 58) (z := (J 19 (7 + v))) (v := (J 13 (J 19 (7 + v)))) dX2_reachedFrom_58 a_13 rfl (by omega) rfl (fun r_58 => ?_)
                  refine tz_ior (pc := 59) (v := zor x2 (J 13 (J 19 (7 + v)))) dX2_reachedFrom_59 rfl ?_
                  have r_59 := zor_rg x2 (J 13 (J 19 (7 + v)))
                  refine tz_istore (pc := 60) (L2 := [_, _, _, _, _, _, _, _]) dX2_reachedFrom_60 (by decide) rfl ?_
                  refine tz_iinc (pc := 62) (z := v + 1) (L2 := [_, _, _, _, _, _, _, _]) dX2_reachedFrom_62 rfl (by omega) rfl ?_
                  refine tz_goto (pc := 65) (tgt := 16) dX2_reachedFrom_65 (by decide) ?_
                  exact ih16 _ (v + 1) _ (by omega) (by omega) (by omega)
        exact loop16 _ _ 0 _ (Nat.lt_succ_self _) hx (by omega)
  exact loop6 _ _ 0 none none (Nat.lt_succ_self _) hr_bs (by omega)

set_option maxHeartbeats 4000000 in
set_option maxRecDepth 100000 in
theorem c_hasRing {l : Launch} {G : tb_G} (hl : l.stackTraces = false) (n : Nat) (J : zJ) (t : Int) (hr_t : -2147483648 ≤ t ∧ t < 2147483648) (m : Int) (C : CT J m) (hr : rOK J 19 7 m) (ht : 0 ≤ t ∧ t < m) : tz_Ok l G M_X2_hasRing 1 0 0 [.ref 141, zi t, .ref 19, zi 7] n J (zqi (fun z J' => J = J' ∧ (z = 0 ∨ z = 1))) zN := by
  refine tz_Ok.of hl (by decide +kernel) rfl (tb_c1 rfl) (Nat.le_of_ble_eq_true rfl) ?_
  show tz_At l G M_X2_hasRing (tb_rm 1 0 0) none (tb_ZM G 0 0 (zQ n 0 (zqi (fun z J' => J = J' ∧ (z = 0 ∨ z = 1)))) (zX n 0 zN)) 0 0 n J 0 [some (.ref 141), some (zi t), some (.ref 19), some (zi 7), none, none, none] []
  have hb := C.told
  refine tz_aload_n (pc := 0) dX2_hasRing_0 rfl rfl ?_
  refine tz_aload_n (pc := 1) dX2_hasRing_1 rfl rfl ?_
  refine tz_fR (pc := 2) dX2_hasRing_2 fl_X2_28 r_141_0 ?_
  refine tz_fR (pc := 5) dX2_hasRing_5 fl_X2_56 r_6_7 ?_
  refine tz_iload_n (pc := 8) dX2_hasRing_8 rfl rfl ?_
  refine tz_aL (pc := 9) (z := t) (v := (J 13 t)) dX2_hasRing_9 a_13 rfl (by omega) rfl (fun r_9 => ?_)
  refine tz_aload_n (pc := 10) dX2_hasRing_10 rfl rfl ?_
  refine tz_iload_n (pc := 11) dX2_hasRing_11 rfl rfl ?_
  refine tz_cV (pc := 12) (c_reached hl n _ _ (by omega) m C hr) vl_X2_59 dX2_hasRing_12 o_141 rfl rfl (Nat.le_of_ble_eq_true rfl) ⟨(Nat.le_of_ble_eq_true rfl), (Nat.le_of_ble_eq_true rfl)⟩ rfl rfl (Nat.le_of_ble_eq_true rfl) (Nat.le_of_ble_eq_true rfl) (fun r9 J_12 hq9 => ?_)
  obtain ⟨z_12, rfl, hz_12, rfl⟩ := hq9
  refine tz_istore (pc := 15) (L2 := [_, _, _, _, _, _, _]) dX2_hasRing_15 (by decide) rfl ?_
  refine tz_iconst (pc := 17) dX2_hasRing_17 ?_
  refine tz_istore (pc := 18) (L2 := [_, _, _, _, _, _, _]) dX2_hasRing_18 (by decide) rfl ?_
  have loop20 : ∀ (f9 : Nat) (v : Int) (d6 : Option Value), ((8 - v).toNat) < f9 → (0 ≤ v ∧ v ≤ 8) → tz_At l G M_X2_hasRing (tb_rm 1 0 0) none (tb_ZM G 0 0 (zQ n 0 (zqi (fun z J' => J = J' ∧ (z = 0 ∨ z = 1)))) (zX n 0 zN)) 0 0 n J 20 [some (.ref 141), some (zi t), some (.ref 19), some (zi 7), some (zi z_12), some (zi v), d6] [] := by
    intro f9
    induction f9 with
    | zero => intro v d6 hm9; exact absurd hm9 (Nat.not_lt_zero _)
    | succ f9 ih20 =>
      intro v d6 hm20 hv
      have hq := hr v
      refine tz_iload (pc := 20) dX2_hasRing_20 rfl ?_
      refine tz_bipush (pc := 22) dX2_hasRing_22 (by decide) ?_
      refine tz_icmp_ge (pc := 24) (tgt := 83) dX2_hasRing_24 (by decide) (by omega) (by decide) (fun h_24 => ?_) (fun h_24 => ?_)
      · refine tz_iconst (pc := 83) dX2_hasRing_83 ?_
        exact tz_zret (pc := 84) (z := 0) dX2_hasRing_84 rfl (Or.inl rfl) (Nat.le_of_ble_eq_true rfl) (Nat.le_of_ble_eq_true rfl) ⟨Nat.le_refl _, Nat.le_add_right _ _⟩ ⟨_, rfl, (by decide), ⟨rfl, by omega⟩⟩
      · refine tz_aload_n (pc := 27) dX2_hasRing_27 rfl rfl ?_
        refine tz_iload_n (pc := 28) dX2_hasRing_28 rfl rfl ?_
        refine tz_iload (pc := 29) dX2_hasRing_29 rfl ?_
        refine tz_iadd (pc := 31) (v := 7 + v) dX2_hasRing_31 rfl ?_
        refine tz_aL (pc := 32) (z := (7 + v)) (v := (J 19 (7 + v))) dX2_hasRing_32 a_19 rfl (by omega) rfl (fun r_32 => ?_)
        refine tz_istore (pc := 33) (L2 := [_, _, _, _, _, _, _]) dX2_hasRing_33 (by decide) rfl ?_
        refine tz_iload (pc := 35) dX2_hasRing_35 rfl ?_
        refine tz_iload (pc := 37) dX2_hasRing_37 rfl ?_
        refine tz_ishr (pc := 39) (v := zshr z_12 v) dX2_hasRing_39 rfl ?_
        refine tz_iconst (pc := 40) dX2_hasRing_40 ?_
        refine tz_iand (pc := 41) (v := zand (zshr z_12 v) 1) dX2_hasRing_41 rfl ?_
        have r_41 := zand_rg (zshr z_12 v) 1
        refine tz_if_eq (pc := 42) (tgt := 77) dX2_hasRing_42 (by decide) (zand_rg _ _) (fun h_42 => ?_) (fun h_42 => ?_)
        · refine tz_iinc (pc := 77) (z := v + 1) (L2 := [_, _, _, _, _, _, _]) dX2_hasRing_77 rfl (by omega) rfl ?_
          refine tz_goto (pc := 80) (tgt := 20) dX2_hasRing_80 (by decide) ?_
          exact ih20 (v + 1) _ (by omega) (by omega)
        · refine tz_iload (pc := 45) dX2_hasRing_45 rfl ?_
          refine tz_iconst (pc := 47) dX2_hasRing_47 ?_
          refine tz_icmp_eq (pc := 48) (tgt := 77) dX2_hasRing_48 (by decide) (by omega) (by decide) (fun h_48 => ?_) (fun h_48 => ?_)
          · refine tz_iinc (pc := 77) (z := v + 1) (L2 := [_, _, _, _, _, _, _]) dX2_hasRing_77 rfl (by omega) rfl ?_
            refine tz_goto (pc := 80) (tgt := 20) dX2_hasRing_80 (by decide) ?_
            exact ih20 (v + 1) _ (by omega) (by omega)
          · refine tz_aload_n (pc := 51) dX2_hasRing_51 rfl rfl ?_
            refine tz_aload_n (pc := 52) dX2_hasRing_52 rfl rfl ?_
            refine tz_fR (pc := 53) dX2_hasRing_53 fl_X2_28 r_141_0 ?_
            refine tz_fR (pc := 56) dX2_hasRing_56 fl_X2_56 r_6_7 ?_
            refine tz_iload (pc := 59) dX2_hasRing_59 rfl ?_
            refine tz_aL (pc := 61) (z := (J 19 (7 + v))) (v := (J 13 (J 19 (7 + v)))) dX2_hasRing_61 a_13 rfl (by omega) rfl (fun r_61 => ?_)
            refine tz_aload_n (pc := 62) dX2_hasRing_62 rfl rfl ?_
            refine tz_iload_n (pc := 63) dX2_hasRing_63 rfl rfl ?_
            refine tz_cV (pc := 64) (c_reached hl n _ _ (by omega) m C hr) vl_X2_59 dX2_hasRing_64 o_141 rfl rfl (Nat.le_of_ble_eq_true rfl) ⟨(Nat.le_of_ble_eq_true rfl), (Nat.le_of_ble_eq_true rfl)⟩ rfl rfl (Nat.le_of_ble_eq_true rfl) (Nat.le_of_ble_eq_true rfl) (fun r9 J_64 hq9 => ?_)
            obtain ⟨z_64, rfl, hz_64, rfl⟩ := hq9
            refine tz_iload (pc := 67) dX2_hasRing_67 rfl ?_
            refine tz_ishr (pc := 69) (v := zshr z_64 v) dX2_hasRing_69 rfl ?_
            refine tz_iconst (pc := 70) dX2_hasRing_70 ?_
            refine tz_iand (pc := 71) (v := zand (zshr z_64 v) 1) dX2_hasRing_71 rfl ?_
            have r_71 := zand_rg (zshr z_64 v) 1
            refine tz_if_eq (pc := 72) (tgt := 77) dX2_hasRing_72 (by decide) (zand_rg _ _) (fun h_72 => ?_) (fun h_72 => ?_)
            · refine tz_iinc (pc := 77) (z := v + 1) (L2 := [_, _, _, _, _, _, _]) dX2_hasRing_77 rfl (by omega) rfl ?_
              refine tz_goto (pc := 80) (tgt := 20) dX2_hasRing_80 (by decide) ?_
              exact ih20 (v + 1) _ (by omega) (by omega)
            · refine tz_iconst (pc := 75) dX2_hasRing_75 ?_
              exact tz_zret (pc := 76) (z := 1) dX2_hasRing_76 rfl (Or.inr rfl) (Nat.le_of_ble_eq_true rfl) (Nat.le_of_ble_eq_true rfl) ⟨Nat.le_refl _, Nat.le_add_right _ _⟩ ⟨_, rfl, (by decide), ⟨rfl, by omega⟩⟩
  exact loop20 _ 0 none (Nat.lt_succ_self _) (by omega)

