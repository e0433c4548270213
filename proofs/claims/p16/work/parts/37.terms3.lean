set_option maxHeartbeats 4000000 in
set_option maxRecDepth 100000 in
theorem c_inPlace {l : Launch} {G : tb_G} (hl : l.stackTraces = false) (n : Nat) (J : zJ) (t : Int) (p : Int) (hr_t : -2147483648 ≤ t ∧ t < 2147483648) (hr_p : -2147483648 ≤ p ∧ p < 2147483648) (m : Int) (C : CT J m) (h0 : 0 ≤ t ∧ t < m) (hp : 0 ≤ p ∧ p < J 10 t) : tz_Ok l G M_X9_inPlace 2 0 0 [.ref 6, zi t, zi p] n J (zqi (fun z J' => J = J' ∧ 0 ≤ z ∧ z ≤ t)) zN := by
  refine tz_Ok.of hl (by decide +kernel) rfl (tb_c1 rfl) (Nat.le_of_ble_eq_true rfl) ?_
  show tz_At l G M_X9_inPlace (tb_rm 2 0 0) none (tb_ZM G 0 0 (zQ n 0 (zqi (fun z J' => J = J' ∧ 0 ≤ z ∧ z ≤ t))) (zX n 0 zN)) 0 0 n J 0 [some (.ref 6), some (zi t), some (zi p), none, none, none, none] []
  have ht := C.told
  refine tz_iload_n (pc := 0) dX9_inPlace_0 rfl rfl ?_
  refine tz_istore_n (pc := 1) (L2 := [_, _, _, _, _, _, _]) dX9_inPlace_1 rfl (by decide) rfl ?_
  refine tz_iload_n (pc := 2) dX9_inPlace_2 rfl rfl ?_
  refine tz_istore (pc := 3) (L2 := [_, _, _, _, _, _, _]) dX9_inPlace_3 (by decide) rfl ?_
  refine tz_iconst (pc := 5) dX9_inPlace_5 ?_
  refine tz_istore (pc := 6) (L2 := [_, _, _, _, _, _, _]) dX9_inPlace_6 (by decide) rfl ?_
  have loop8 : ∀ (f9 : Nat) (x : Int) (q : Int) (k : Int) (d6 : Option Value), ((6 - k).toNat) < f9 → (0 ≤ k ∧ k ≤ 6) → (0 ≤ x ∧ x ≤ t) → (0 ≤ q ∧ q < J 10 x) → tz_At l G M_X9_inPlace (tb_rm 2 0 0) none (tb_ZM G 0 0 (zQ n 0 (zqi (fun z J' => J = J' ∧ 0 ≤ z ∧ z ≤ t))) (zX n 0 zN)) 0 0 n J 8 [some (.ref 6), some (zi t), some (zi p), some (zi x), some (zi q), some (zi k), d6] [] := by
    intro f9
    induction f9 with
    | zero => intro x q k d6 hm9; exact absurd hm9 (Nat.not_lt_zero _)
    | succ f9 ih8 =>
      intro x q k d6 hm8 hk hx hq
      have hn := C.nums (t := x) (by omega) (by omega)
      have har := C.ar (t := x) (by omega) (by omega)
      refine tz_iload (pc := 8) dX9_inPlace_8 rfl ?_
      refine tz_bipush (pc := 10) dX9_inPlace_10 (by decide) ?_
      refine tz_icmp_ge (pc := 12) (tgt := 54) dX9_inPlace_12 (by decide) (by omega) (by decide) (fun h_12 => ?_) (fun h_12 => ?_)
      · refine tz_iload_n (pc := 54) dX9_inPlace_54 rfl rfl ?_
        exact tz_iret (pc := 55) (z := x) dX9_inPlace_55 rfl (Nat.le_of_ble_eq_true rfl) (Nat.le_of_ble_eq_true rfl) ⟨Nat.le_refl _, Nat.le_add_right _ _⟩ ⟨_, rfl, (by omega), ⟨rfl, by omega, by omega⟩⟩
      · refine tz_iload (pc := 15) dX9_inPlace_15 rfl ?_
        refine tz_if_le (pc := 17) (tgt := 54) dX9_inPlace_17 (by decide) (by omega) (fun h_17 => ?_) (fun h_17 => ?_)
        · refine tz_iload_n (pc := 54) dX9_inPlace_54 rfl rfl ?_
          exact tz_iret (pc := 55) (z := x) dX9_inPlace_55 rfl (Nat.le_of_ble_eq_true rfl) (Nat.le_of_ble_eq_true rfl) ⟨Nat.le_refl _, Nat.le_add_right _ _⟩ ⟨_, rfl, (by omega), ⟨rfl, by omega, by omega⟩⟩
        · refine tz_aload_n (pc := 20) dX9_inPlace_20 rfl rfl ?_
          refine tz_iload_n (pc := 21) dX9_inPlace_21 rfl rfl ?_
          refine tz_iload (pc := 22) dX9_inPlace_22 rfl ?_
          refine tz_cV (pc := 24) (c_atPlace hl n _ _ _ (by omega) (by omega) m C (by omega) (by omega)) vl_X9_92 dX9_inPlace_24 o_6 rfl rfl (Nat.le_of_ble_eq_true rfl) ⟨(Nat.le_of_ble_eq_true rfl), (Nat.le_of_ble_eq_true rfl)⟩ rfl rfl (Nat.le_of_ble_eq_true rfl) (Nat.le_of_ble_eq_true rfl) (fun r9 J_24 hq9 => ?_)
          obtain ⟨z_24, rfl, hz_24, rfl, hz1, hz2, hz3⟩ := hq9
          have hg := C.arg (t := x) (i := z_24) (by omega) (by omega) (by omega) (by omega)
          have hb := zfr_bd C (t := x) (by omega) (by omega) z_24.toNat (by omega)
          refine tz_istore (pc := 27) (L2 := [_, _, _, _, _, _, _]) dX9_inPlace_27 (by decide) rfl ?_
          refine tz_aload_n (pc := 29) dX9_inPlace_29 rfl rfl ?_
          refine tz_iload_n (pc := 30) dX9_inPlace_30 rfl rfl ?_
          refine tz_iload (pc := 31) dX9_inPlace_31 rfl ?_
          refine tz_iload (pc := 33) dX9_inPlace_33 rfl ?_
          refine tz_cV (pc := 35) (c_inArg hl n _ _ _ _ (by omega) (by omega) (by omega) m C (by omega) (by omega) (by omega)) vl_X9_95 dX9_inPlace_35 o_6 rfl rfl (Nat.le_of_ble_eq_true rfl) ⟨(Nat.le_of_ble_eq_true rfl), (Nat.le_of_ble_eq_true rfl)⟩ rfl rfl (Nat.le_of_ble_eq_true rfl) (Nat.le_of_ble_eq_true rfl) (fun r9 J_35 hq9 => ?_)
          obtain ⟨z_35, rfl, hz_35, rfl, rfl⟩ := hq9
          refine tz_istore (pc := 38) (L2 := [_, _, _, _, _, _, _]) dX9_inPlace_38 (by decide) rfl ?_
          refine tz_aload_n (pc := 40) dX9_inPlace_40 rfl rfl ?_
          refine tz_iload_n (pc := 41) dX9_inPlace_41 rfl rfl ?_
          refine tz_iload (pc := 42) dX9_inPlace_42 rfl ?_
          refine tz_cV (pc := 44) (c_arg hl n _ _ _ (by omega) (by omega) (by omega)) vl_X9_99 dX9_inPlace_44 o_6 rfl rfl (Nat.le_of_ble_eq_true rfl) ⟨(Nat.le_of_ble_eq_true rfl), (Nat.le_of_ble_eq_true rfl)⟩ rfl rfl (Nat.le_of_ble_eq_true rfl) (Nat.le_of_ble_eq_true rfl) (fun r9 J_44 hq9 => ?_)
          obtain ⟨z_44, rfl, hz_44, rfl, rfl⟩ := hq9
          refine tz_istore_n (pc := 47) (L2 := [_, _, _, _, _, _, _]) dX9_inPlace_47 rfl (by decide) rfl ?_
          refine tz_iinc (pc := 48) (z := k + 1) (L2 := [_, _, _, _, _, _, _]) dX9_inPlace_48 rfl (by omega) rfl ?_
          refine tz_goto (pc := 51) (tgt := 8) dX9_inPlace_51 (by decide) ?_
          exact ih8 _ _ (k + 1) _ (by omega) (by omega) (by omega) (by have := zfr_s (J := J) (t := x) (i := z_24) (by omega); omega)
  exact loop8 _ _ _ 0 none (Nat.lt_succ_self _) (by omega) (by omega) hp

set_option maxHeartbeats 4000000 in
set_option maxRecDepth 100000 in
theorem c_mark {l : Launch} {G : tb_G} (hl : l.stackTraces = false) (n : Nat) (J : zJ) (t : Int) (hr_t : -2147483648 ≤ t ∧ t < 2147483648) (m : Int) (C : CT J m) (h0 : 0 ≤ t ∧ t < m) : tz_Ok l G M_X9_markParts 1 0 0 [.ref 6, zi t] n J (zqv (fun J' => zOf (zbut [17]) J' J ∧ ∀ k, 0 ≤ k → k < 401 → J' 17 k = 0 ∨ J' 17 k = 1)) zN := by
  refine tz_Ok.of hl (by decide +kernel) rfl (tb_c1 rfl) (Nat.le_of_ble_eq_true rfl) ?_
  show tz_At l G M_X9_markParts (tb_rm 1 0 0) none (tb_ZM G 0 0 (zQ n 0 (zqv (fun J' => zOf (zbut [17]) J' J ∧ ∀ k, 0 ≤ k → k < 401 → J' 17 k = 0 ∨ J' 17 k = 1))) (zX n 0 zN)) 0 0 n J 0 [some (.ref 6), some (zi t), none, none] []
  have ht := C.told
  refine tz_aload_n (pc := 0) dX9_markParts_0 rfl rfl ?_
  refine tz_fR (pc := 1) dX9_markParts_1 fl_X9_42 r_6_11 ?_
  refine tz_iconst (pc := 4) dX9_markParts_4 ?_
  refine tz_cS (pc := 5) (zJ_fill hl n _ 17 _ 401 0 (by decide) a_17 rfl) sl_X9_53 dX9_markParts_5 rfl rfl (Nat.le_of_ble_eq_true rfl) ⟨(Nat.le_of_ble_eq_true rfl), (Nat.le_of_ble_eq_true rfl)⟩ rfl rfl (Nat.le_of_ble_eq_true rfl) (Nat.le_of_ble_eq_true rfl) (fun r9 J_5 hq9 => ?_)
  obtain ⟨rfl, rfl⟩ := hq9
  refine tz_aload_n (pc := 8) dX9_markParts_8 rfl rfl ?_
  refine tz_fR (pc := 9) dX9_markParts_9 fl_X9_42 r_6_11 ?_
  refine tz_iload_n (pc := 12) dX9_markParts_12 rfl rfl ?_
  refine tz_iconst (pc := 13) dX9_markParts_13 ?_
  refine tz_aS (pc := 14) (z := t) dX9_markParts_14 a_17 rfl (by omega) (by decide) ?_
  refine tz_iload_n (pc := 15) dX9_markParts_15 rfl rfl ?_
  refine tz_istore_n (pc := 16) (L2 := [_, _, _, _]) dX9_markParts_16 rfl (by decide) rfl ?_
  have loop17 : ∀ (f9 : Nat) (k : Int) (d3 : Option Value) (J1 : zJ), ((k + 1).toNat) < f9 → (-1 ≤ k ∧ k ≤ t) → (zOf (zbut [17]) J1 J) → (∀ k, 0 ≤ k → k < 401 → J1 17 k = 0 ∨ J1 17 k = 1) → tz_At l G M_X9_markParts (tb_rm 1 0 0) none (tb_ZM G 0 0 (zQ n 0 (zqv (fun J' => zOf (zbut [17]) J' J ∧ ∀ k, 0 ≤ k → k < 401 → J' 17 k = 0 ∨ J' 17 k = 1))) (zX n 0 zN)) 0 0 n J1 17 [some (.ref 6), some (zi t), some (zi k), d3] [] := by
    intro f9
    induction f9 with
    | zero => intro k d3 J1 hm9; exact absurd hm9 (Nat.not_lt_zero _)
    | succ f9 ih17 =>
      intro k d3 J1 hm17 hk fr h1
      refine tz_iload_n (pc := 17) dX9_markParts_17 rfl rfl ?_
      refine tz_if_lt (pc := 18) (tgt := 67) dX9_markParts_18 (by decide) (by omega) (fun h_18 => ?_) (fun h_18 => ?_)
      · exact tz_vret (pc := 67) dX9_markParts_67 rfl (Nat.le_of_ble_eq_true rfl) (Nat.le_of_ble_eq_true rfl) ⟨Nat.le_refl _, Nat.le_add_right _ _⟩ ⟨rfl, ⟨fr, h1⟩⟩
      · refine tz_iconst (pc := 21) dX9_markParts_21 ?_
        refine tz_istore_n (pc := 22) (L2 := [_, _, _, _]) dX9_markParts_22 rfl (by decide) rfl ?_
        have loop23 : ∀ (f9 : Nat) (i : Int) (J2 : zJ), ((3 - i).toNat) < f9 → (0 ≤ i ∧ i ≤ J 8 k) → (zOf (zbut [17]) J2 J1) → (∀ k, 0 ≤ k → k < 401 → J2 17 k = 0 ∨ J2 17 k = 1) → tz_At l G M_X9_markParts (tb_rm 1 0 0) none (tb_ZM G 0 0 (zQ n 0 (zqv (fun J' => zOf (zbut [17]) J' J ∧ ∀ k, 0 ≤ k → k < 401 → J' 17 k = 0 ∨ J' 17 k = 1))) (zX n 0 zN)) 0 0 n J2 23 [some (.ref 6), some (zi t), some (zi k), some (zi i)] [] := by
          intro f9
          induction f9 with
          | zero => intro i J2 hm9; exact absurd hm9 (Nat.not_lt_zero _)
          | succ f9 ih23 =>
            intro i J2 hm23 hi fr2 h2
            have har := C.ar (t := k) (by omega) (by omega)
            refine tz_aload_n (pc := 23) dX9_markParts_23 rfl rfl ?_
            refine tz_fR (pc := 24) dX9_markParts_24 fl_X9_42 r_6_11 ?_
            refine tz_iload_n (pc := 27) dX9_markParts_27 rfl rfl ?_
            refine tz_aL (pc := 28) (z := k) (v := (J2 17 k)) dX9_markParts_28 a_17 rfl (by omega) rfl (fun r_28 => ?_)
            refine tz_iconst (pc := 29) dX9_markParts_29 ?_
            refine tz_icmp_ne (pc := 30) (tgt := 61) dX9_markParts_30 (by decide) (by omega) (by decide) (fun h_30 => ?_) (fun h_30 => ?_)
            · refine tz_iinc (pc := 61) (z := k - 1) (L2 := [_, _, _, _]) dX9_markParts_61 rfl (by omega) rfl ?_
              refine tz_goto (pc := 64) (tgt := 17) dX9_markParts_64 (by decide) ?_
              exact ih17 (k - 1) _ _ (by omega) (by omega) (zOf.tr fr2 fr) h2
            · refine tz_iload_n (pc := 33) dX9_markParts_33 rfl rfl ?_
              refine tz_aload_n (pc := 34) dX9_markParts_34 rfl rfl ?_
              refine tz_fR (pc := 35) dX9_markParts_35 fl_X9_15 r_6_2 ?_
              refine tz_iload_n (pc := 38) dX9_markParts_38 rfl rfl ?_
              refine tz_aL (pc := 39) (z := k) (v := (J 8 k)) dX9_markParts_39 a_8 rfl (by omega) (Eq.trans (congrFun (fr2 8 rfl) k) (Eq.trans (congrFun (fr 8 rfl) k) rfl)) (fun r_39 => ?_)
              refine tz_icmp_ge (pc := 40) (tgt := 61) dX9_markParts_40 (by decide) (by omega) (by omega) (fun h_40 => ?_) (fun h_40 => ?_)
              · refine tz_iinc (pc := 61) (z := k - 1) (L2 := [_, _, _, _]) dX9_markParts_61 rfl (by omega) rfl ?_
                refine tz_goto (pc := 64) (tgt := 17) dX9_markParts_64 (by decide) ?_
                exact ih17 (k - 1) _ _ (by omega) (by omega) (zOf.tr fr2 fr) h2
              · have hg := C.arg (t := k) (i := i) (by omega) (by omega) (by omega) (by omega)
                refine tz_aload_n (pc := 43) dX9_markParts_43 rfl rfl ?_
                refine tz_fR (pc := 44) dX9_markParts_44 fl_X9_42 r_6_11 ?_
                refine tz_aload_n (pc := 47) dX9_markParts_47 rfl rfl ?_
                refine tz_iload_n (pc := 48) dX9_markParts_48 rfl rfl ?_
                refine tz_iload_n (pc := 49) dX9_markParts_49 rfl rfl ?_
                refine tz_cV (pc := 50) (c_arg hl n _ _ _ (by omega) (by omega) (by omega)) vl_X9_99 dX9_markParts_50 o_6 rfl rfl (Nat.le_of_ble_eq_true rfl) ⟨(Nat.le_of_ble_eq_true rfl), (Nat.le_of_ble_eq_true rfl)⟩ rfl rfl (Nat.le_of_ble_eq_true rfl) (Nat.le_of_ble_eq_true rfl) (fun r9 J_50 hq9 => ?_)
                obtain ⟨z_50, rfl, hz_50, rfl, hv_50⟩ := hq9
                obtain rfl : (J 9 (k * 3 + i)) = z_50 := by rw [← hv_50, show J2 9 = J 9 from (fr2 9 rfl).trans (fr 9 rfl)]
                refine tz_iconst (pc := 53) dX9_markParts_53 ?_
                refine tz_aS (pc := 54) (z := (J 9 (k * 3 + i))) dX9_markParts_54 a_17 rfl (by omega) (by decide) ?_
                refine tz_iinc (pc := 55) (z := i + 1) (L2 := [_, _, _, _]) dX9_markParts_55 rfl (by omega) rfl ?_
                refine tz_goto (pc := 58) (tgt := 23) dX9_markParts_58 (by decide) ?_
                exact ih23 (i + 1) _ (by omega) (by omega) (zOf.up rfl fr2) (fun q a b => (Decidable.em (q = J 9 (k * 3 + i))).elim (fun e => Or.inr (by rw [e]; exact zup_at)) (fun e => by rw [zup_ne e]; exact h2 q a b))
        exact loop23 _ 0 _ (Nat.lt_succ_self _) (by have := C.ar (t := k) (by omega) (by omega); omega) zOf.rf h1
  exact loop17 _ _ none _ (Nat.lt_succ_self _) (by omega) (zOf.up rfl (zOf.fl rfl zOf.rf)) (fun k a b => (Decidable.em (k = t)).elim (fun e => Or.inr (by rw [e]; exact zup_at)) (fun e => Or.inl ((zup_ne e).trans (zfl_in b))))

set_option maxHeartbeats 4000000 in
set_option maxRecDepth 100000 in
theorem c_shared {l : Launch} {G : tb_G} (hl : l.stackTraces = false) (n : Nat) (J : zJ) (t : Int) (hr_t : -2147483648 ≤ t ∧ t < 2147483648) (m : Int) (C : CT J m) (h0 : 0 ≤ t ∧ t < m) : tz_Ok l G M_X9_shared 2 0 0 [.ref 6, zi t] n J (zqi (fun z J' => zOf (zbut [17]) J' J ∧ 0 ≤ z ∧ z ≤ 401)) zN := by
  refine tz_Ok.of hl (by decide +kernel) rfl (tb_c1 rfl) (Nat.le_of_ble_eq_true rfl) ?_
  show tz_At l G M_X9_shared (tb_rm 2 0 0) none (tb_ZM G 0 0 (zQ n 0 (zqi (fun z J' => zOf (zbut [17]) J' J ∧ 0 ≤ z ∧ z ≤ 401))) (zX n 0 zN)) 0 0 n J 0 [some (.ref 6), some (zi t), none, none] []
  have ht := C.told
  refine tz_aload_n (pc := 0) dX9_shared_0 rfl rfl ?_
  refine tz_iload_n (pc := 1) dX9_shared_1 rfl rfl ?_
  refine tz_cV (pc := 2) (c_mark hl n _ _ (by omega) m C h0) vl_X9_102 dX9_shared_2 o_6 rfl rfl (Nat.le_of_ble_eq_true rfl) ⟨(Nat.le_of_ble_eq_true rfl), (Nat.le_of_ble_eq_true rfl)⟩ rfl rfl (Nat.le_of_ble_eq_true rfl) (Nat.le_of_ble_eq_true rfl) (fun r9 J_2 hq9 => ?_)
  obtain ⟨rfl, fr, h1⟩ := hq9
  refine tz_iconst (pc := 5) dX9_shared_5 ?_
  refine tz_istore_n (pc := 6) (L2 := [_, _, _, _]) dX9_shared_6 rfl (by decide) rfl ?_
  refine tz_iconst (pc := 7) dX9_shared_7 ?_
  refine tz_istore_n (pc := 8) (L2 := [_, _, _, _]) dX9_shared_8 rfl (by decide) rfl ?_
  have loop9 : ∀ (f9 : Nat) (k : Int) (s : Int), ((t + 1 - k).toNat) < f9 → (0 ≤ k ∧ k ≤ t + 1) → (0 ≤ s ∧ s ≤ k) → tz_At l G M_X9_shared (tb_rm 2 0 0) none (tb_ZM G 0 0 (zQ n 0 (zqi (fun z J' => zOf (zbut [17]) J' J ∧ 0 ≤ z ∧ z ≤ 401))) (zX n 0 zN)) 0 0 n J_2 9 [some (.ref 6), some (zi t), some (zi s), some (zi k)] [] := by
    intro f9
    induction f9 with
    | zero => intro k s hm9; exact absurd hm9 (Nat.not_lt_zero _)
    | succ f9 ih9 =>
      intro k s hm9 hk hs
      refine tz_iload_n (pc := 9) dX9_shared_9 rfl rfl ?_
      refine tz_iload_n (pc := 10) dX9_shared_10 rfl rfl ?_
      refine tz_icmp_gt (pc := 11) (tgt := 29) dX9_shared_11 (by decide) (by omega) (by omega) (fun h_11 => ?_) (fun h_11 => ?_)
      · refine tz_iload_n (pc := 29) dX9_shared_29 rfl rfl ?_
        exact tz_iret (pc := 30) (z := s) dX9_shared_30 rfl (Nat.le_of_ble_eq_true rfl) (Nat.le_of_ble_eq_true rfl) ⟨Nat.le_refl _, Nat.le_add_right _ _⟩ ⟨_, rfl, (by omega), ⟨fr, by omega, by omega⟩⟩
      · refine tz_iload_n (pc := 14) dX9_shared_14 rfl rfl ?_
        refine tz_aload_n (pc := 15) dX9_shared_15 rfl rfl ?_
        refine tz_fR (pc := 16) dX9_shared_16 fl_X9_42 r_6_11 ?_
        refine tz_iload_n (pc := 19) dX9_shared_19 rfl rfl ?_
        have hg := h1 k (by omega) (by omega)
        refine tz_aL (pc := 20) (z := k) (v := (J_2 17 k)) dX9_shared_20 a_17 rfl (by omega) rfl (fun r_20 => ?_)
        refine tz_iadd (pc := 21) (v := s + (J_2 17 k)) dX9_shared_21 rfl ?_
        refine tz_istore_n (pc := 22) (L2 := [_, _, _, _]) dX9_shared_22 rfl (by decide) rfl ?_
        refine tz_iinc (pc := 23) (z := k + 1) (L2 := [_, _, _, _]) dX9_shared_23 rfl (by omega) rfl ?_
        refine tz_goto (pc := 26) (tgt := 9) dX9_shared_26 (by decide) ?_
        exact ih9 (k + 1) _ (by omega) (by omega) (by omega)
  exact loop9 _ 0 _ (Nat.lt_succ_self _) (by omega) (by omega)

set_option maxHeartbeats 4000000 in
set_option maxRecDepth 100000 in
theorem c_users {l : Launch} {G : tb_G} (hl : l.stackTraces = false) (n : Nat) (J : zJ) (t : Int) (hr_t : -2147483648 ≤ t ∧ t < 2147483648) (m : Int) (C : CT J m) (hm : J 6 12 = m) (h0 : 0 ≤ t ∧ t < m) : tz_Ok l G M_X9_users 1 0 0 [.ref 6, zi t] n J (zqi (fun z J' => J = J')) zN := by
  refine tz_Ok.of hl (by decide +kernel) rfl (tb_c1 rfl) (Nat.le_of_ble_eq_true rfl) ?_
  show tz_At l G M_X9_users (tb_rm 1 0 0) none (tb_ZM G 0 0 (zQ n 0 (zqi (fun z J' => J = J'))) (zX n 0 zN)) 0 0 n J 0 [some (.ref 6), some (zi t), none, none] []
  have ht := C.told
  refine tz_iconst (pc := 0) dX9_users_0 ?_
  refine tz_istore_n (pc := 1) (L2 := [_, _, _, _]) dX9_users_1 rfl (by decide) rfl ?_
  refine tz_iload_n (pc := 2) dX9_users_2 rfl rfl ?_
  refine tz_iconst (pc := 3) dX9_users_3 ?_
  refine tz_iadd (pc := 4) (v := t + 1) dX9_users_4 rfl ?_
  refine tz_istore_n (pc := 5) (L2 := [_, _, _, _]) dX9_users_5 rfl (by decide) rfl ?_
  have loop6 : ∀ (f9 : Nat) (k : Int) (s : Int), ((m - k).toNat) < f9 → (0 ≤ k ∧ k ≤ m) → (0 ≤ s ∧ s ≤ k) → tz_At l G M_X9_users (tb_rm 1 0 0) none (tb_ZM G 0 0 (zQ n 0 (zqi (fun z J' => J = J'))) (zX n 0 zN)) 0 0 n J 6 [some (.ref 6), some (zi t), some (zi s), some (zi k)] [] := by
    intro f9
    induction f9 with
    | zero => intro k s hm9; exact absurd hm9 (Nat.not_lt_zero _)
    | succ f9 ih6 =>
      intro k s hm6 hk hs
      refine tz_iload_n (pc := 6) dX9_users_6 rfl rfl ?_
      refine tz_aload_n (pc := 7) dX9_users_7 rfl rfl ?_
      refine tz_fI (pc := 8) (kz := 12) (v := m) dX9_users_8 fl_X9_45 i_6_12 rfl hm (fun r_8 => ?_)
      refine tz_icmp_ge (pc := 11) (tgt := 53) dX9_users_11 (by decide) (by omega) (by omega) (fun h_11 => ?_) (fun h_11 => ?_)
      · refine tz_iload_n (pc := 53) dX9_users_53 rfl rfl ?_
        exact tz_iret (pc := 54) (z := s) dX9_users_54 rfl (Nat.le_of_ble_eq_true rfl) (Nat.le_of_ble_eq_true rfl) ⟨Nat.le_refl _, Nat.le_add_right _ _⟩ ⟨_, rfl, (by omega), rfl⟩
      · refine tz_aload_n (pc := 14) dX9_users_14 rfl rfl ?_
        refine tz_iload_n (pc := 15) dX9_users_15 rfl rfl ?_
        refine tz_iconst (pc := 16) dX9_users_16 ?_
        refine tz_cV (pc := 17) (c_arg hl n _ _ _ (by omega) (by omega) (by omega)) vl_X9_99 dX9_users_17 o_6 rfl rfl (Nat.le_of_ble_eq_true rfl) ⟨(Nat.le_of_ble_eq_true rfl), (Nat.le_of_ble_eq_true rfl)⟩ rfl rfl (Nat.le_of_ble_eq_true rfl) (Nat.le_of_ble_eq_true rfl) (fun r9 J_17 hq9 => ?_)
        obtain ⟨z_17, rfl, hz_17, rfl, -⟩ := hq9
        refine tz_iload_n (pc := 20) dX9_users_20 rfl rfl ?_
        refine tz_icmp_eq (pc := 21) (tgt := 44) dX9_users_21 (by decide) (by omega) (by omega) (fun h_21 => ?_) (fun h_21 => ?_)
        · refine tz_iinc (pc := 44) (z := s + 1) (L2 := [_, _, _, _]) dX9_users_44 rfl (by omega) rfl ?_
          refine tz_iinc (pc := 47) (z := k + 1) (L2 := [_, _, _, _]) dX9_users_47 rfl (by omega) rfl ?_
          refine tz_goto (pc := 50) (tgt := 6) dX9_users_50 (by decide) ?_
          exact ih6 (k + 1) _ (by omega) (by omega) (by omega)
        · refine tz_aload_n (pc := 24) dX9_users_24 rfl rfl ?_
          refine tz_iload_n (pc := 25) dX9_users_25 rfl rfl ?_
          refine tz_iconst (pc := 26) dX9_users_26 ?_
          refine tz_cV (pc := 27) (c_arg hl n _ _ _ (by omega) (by omega) (by omega)) vl_X9_99 dX9_users_27 o_6 rfl rfl (Nat.le_of_ble_eq_true rfl) ⟨(Nat.le_of_ble_eq_true rfl), (Nat.le_of_ble_eq_true rfl)⟩ rfl rfl (Nat.le_of_ble_eq_true rfl) (Nat.le_of_ble_eq_true rfl) (fun r9 J_27 hq9 => ?_)
          obtain ⟨z_27, rfl, hz_27, rfl, -⟩ := hq9
          refine tz_iload_n (pc := 30) dX9_users_30 rfl rfl ?_
          refine tz_icmp_eq (pc := 31) (tgt := 44) dX9_users_31 (by decide) (by omega) (by omega) (fun h_31 => ?_) (fun h_31 => ?_)
          · refine tz_iinc (pc := 44) (z := s + 1) (L2 := [_, _, _, _]) dX9_users_44 rfl (by omega) rfl ?_
            refine tz_iinc (pc := 47) (z := k + 1) (L2 := [_, _, _, _]) dX9_users_47 rfl (by omega) rfl ?_
            refine tz_goto (pc := 50) (tgt := 6) dX9_users_50 (by decide) ?_
            exact ih6 (k + 1) _ (by omega) (by omega) (by omega)
          · refine tz_aload_n (pc := 34) dX9_users_34 rfl rfl ?_
            refine tz_iload_n (pc := 35) dX9_users_35 rfl rfl ?_
            refine tz_iconst (pc := 36) dX9_users_36 ?_
            refine tz_cV (pc := 37) (c_arg hl n _ _ _ (by omega) (by omega) (by omega)) vl_X9_99 dX9_users_37 o_6 rfl rfl (Nat.le_of_ble_eq_true rfl) ⟨(Nat.le_of_ble_eq_true rfl), (Nat.le_of_ble_eq_true rfl)⟩ rfl rfl (Nat.le_of_ble_eq_true rfl) (Nat.le_of_ble_eq_true rfl) (fun r9 J_37 hq9 => ?_)
            obtain ⟨z_37, rfl, hz_37, rfl, -⟩ := hq9
            refine tz_iload_n (pc := 40) dX9_users_40 rfl rfl ?_
            refine tz_icmp_ne (pc := 41) (tgt := 47) dX9_users_41 (by decide) (by omega) (by omega) (fun h_41 => ?_) (fun h_41 => ?_)
            · refine tz_iinc (pc := 47) (z := k + 1) (L2 := [_, _, _, _]) dX9_users_47 rfl (by omega) rfl ?_
              refine tz_goto (pc := 50) (tgt := 6) dX9_users_50 (by decide) ?_
              exact ih6 (k + 1) _ (by omega) (by omega) (by omega)
            · refine tz_iinc (pc := 44) (z := s + 1) (L2 := [_, _, _, _]) dX9_users_44 rfl (by omega) rfl ?_
              refine tz_iinc (pc := 47) (z := k + 1) (L2 := [_, _, _, _]) dX9_users_47 rfl (by omega) rfl ?_
              refine tz_goto (pc := 50) (tgt := 6) dX9_users_50 (by decide) ?_
              exact ih6 (k + 1) _ (by omega) (by omega) (by omega)
  exact loop6 _ _ _ (Nat.lt_succ_self _) (by omega) (by omega)

set_option maxHeartbeats 4000000 in
set_option maxRecDepth 100000 in
theorem c_unlike {l : Launch} {G : tb_G} (hl : l.stackTraces = false) (n : Nat) (J : zJ)   (m : Int) (hm : J 6 12 = m) (h0 : 0 ≤ m ∧ m ≤ 400) : tz_Ok l G M_X9_unlikeShapes 0 0 0 [.ref 6] n J (zqi (fun z J' => J = J')) zN := by
  refine tz_Ok.of hl (by decide +kernel) rfl (tb_c1 rfl) (Nat.le_of_ble_eq_true rfl) ?_
  show tz_At l G M_X9_unlikeShapes (tb_rm 0 0 0) none (tb_ZM G 0 0 (zQ n 0 (zqi (fun z J' => J = J'))) (zX n 0 zN)) 0 0 n J 0 [some (.ref 6), none, none] []
  refine tz_iconst (pc := 0) dX9_unlikeShapes_0 ?_
  refine tz_istore_n (pc := 1) (L2 := [_, _, _]) dX9_unlikeShapes_1 rfl (by decide) rfl ?_
  refine tz_iconst (pc := 2) dX9_unlikeShapes_2 ?_
  refine tz_istore_n (pc := 3) (L2 := [_, _, _]) dX9_unlikeShapes_3 rfl (by decide) rfl ?_
  have loop4 : ∀ (f9 : Nat) (k : Int) (s : Int), ((m - k).toNat) < f9 → (0 ≤ k ∧ k ≤ m) → (0 ≤ s ∧ s ≤ k) → tz_At l G M_X9_unlikeShapes (tb_rm 0 0 0) none (tb_ZM G 0 0 (zQ n 0 (zqi (fun z J' => J = J'))) (zX n 0 zN)) 0 0 n J 4 [some (.ref 6), some (zi s), some (zi k)] [] := by
    intro f9
    induction f9 with
    | zero => intro k s hm9; exact absurd hm9 (Nat.not_lt_zero _)
    | succ f9 ih4 =>
      intro k s hm4 hk hs
      refine tz_iload_n (pc := 4) dX9_unlikeShapes_4 rfl rfl ?_
      refine tz_aload_n (pc := 5) dX9_unlikeShapes_5 rfl rfl ?_
      refine tz_fI (pc := 6) (kz := 12) (v := m) dX9_unlikeShapes_6 fl_X9_45 i_6_12 rfl hm (fun r_6 => ?_)
      refine tz_icmp_ge (pc := 9) (tgt := 36) dX9_unlikeShapes_9 (by decide) (by omega) (by omega) (fun h_9 => ?_) (fun h_9 => ?_)
      · refine tz_iload_n (pc := 36) dX9_unlikeShapes_36 rfl rfl ?_
        exact tz_iret (pc := 37) (z := s) dX9_unlikeShapes_37 rfl (Nat.le_of_ble_eq_true rfl) (Nat.le_of_ble_eq_true rfl) ⟨Nat.le_refl _, Nat.le_add_right _ _⟩ ⟨_, rfl, (by omega), rfl⟩
      · refine tz_iload_n (pc := 12) dX9_unlikeShapes_12 rfl rfl ?_
        refine tz_aload_n (pc := 13) dX9_unlikeShapes_13 rfl rfl ?_
        refine tz_fR (pc := 14) dX9_unlikeShapes_14 fl_X9_33 r_6_8 ?_
        refine tz_iload_n (pc := 17) dX9_unlikeShapes_17 rfl rfl ?_
        refine tz_aL (pc := 18) (z := k) (v := (J 14 k)) dX9_unlikeShapes_18 a_14 rfl (by omega) rfl (fun r_18 => ?_)
        refine tz_iload_n (pc := 19) dX9_unlikeShapes_19 rfl rfl ?_
        have join28 : ∀ (e : Int), (-2147483648 ≤ e ∧ e < 2147483648) → (0 ≤ e ∧ e ≤ 1) → tz_At l G M_X9_unlikeShapes (tb_rm 0 0 0) none (tb_ZM G 0 0 (zQ n 0 (zqi (fun z J' => J = J'))) (zX n 0 zN)) 0 0 n J 28 [some (.ref 6), some (zi s), some (zi k)] (zi e :: zi s :: []) := by
          intro e hr_e
          intro hj_28
          refine tz_iadd (pc := 28) (v := s + e) dX9_unlikeShapes_28 rfl ?_
          refine tz_istore_n (pc := 29) (L2 := [_, _, _]) dX9_unlikeShapes_29 rfl (by decide) rfl ?_
          refine tz_iinc (pc := 30) (z := k + 1) (L2 := [_, _, _]) dX9_unlikeShapes_30 rfl (by omega) rfl ?_
          refine tz_goto (pc := 33) (tgt := 4) dX9_unlikeShapes_33 (by decide) ?_
          exact ih4 (k + 1) _ (by omega) (by omega) (by omega)
        refine tz_icmp_ne (pc := 20) (tgt := 27) dX9_unlikeShapes_20 (by decide) (by omega) (by omega) (fun h_20 => ?_) (fun h_20 => ?_)
        · refine tz_iconst (pc := 27) dX9_unlikeShapes_27 ?_
          exact join28 0 (by decide) (by omega)
        · refine tz_iconst (pc := 23) dX9_unlikeShapes_23 ?_
          refine tz_goto (pc := 24) (tgt := 28) dX9_unlikeShapes_24 (by decide) ?_
          exact join28 1 (by decide) (by omega)
  exact loop4 _ 0 _ (Nat.lt_succ_self _) (by omega) (by omega)

