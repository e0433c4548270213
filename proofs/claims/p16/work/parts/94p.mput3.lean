/-! ===== put of the reference, exact ===== -/
theorem tps_mo {J : zJ} {b r d s m t : Int} (hM : MS J b r d s m) (ht : 0 ≤ t ∧ t < m) (n : Nat) : ∀ k : Nat, ((n + k : Nat) : Int) ≤ mar J b d t → tps (msz J b d) (mag J b) t n ≤ tps (msz J b d) (mag J b) t (n + k)
  | 0, _ => Int.le_refl _
  | k + 1, h => by
    have q := tps_mo hM ht n k (by omega)
    have hg := hM.arg ht (i := ((n + k : Nat) : Int)) (by omega)
    have z := hM.sz (t := mag J b t ((n + k : Nat) : Int)) ⟨hg.1.1, by have := hg.1.2; show J 167 (3 * (b + t) + ((n + k : Nat) : Int)) < m; omega⟩
    show _ ≤ tps _ _ t (n + k) + msz J b d (mag J b t ((n + k : Nat) : Int))
    omega
set_option maxHeartbeats 4000000 in
set_option maxRecDepth 100000 in
theorem o_placeR {l : Launch} {G : tb_G} (hl : l.stackTraces = false) (n : Nat) : ∀ (r9 : Nat) (J : zJ) (t : Int) (p : Int) (hr_t : -2147483648 ≤ t ∧ t < 2147483648) (hr_p : -2147483648 ≤ p ∧ p < 2147483648) (b r d s m : Int) (hM : MS J b r d s m) (ht : 0 ≤ t ∧ t < m), ((J 168 (b + t)).toNat) < r9 → tz_Ok l G M_X12_placeOf (12 + 1 * r9) 0 0 [.ref 164, zi t, zi p] n J (zqi (fun z J' => J = J' ∧ (z = -1 ∨ (0 ≤ z ∧ z < m)) ∧ (0 ≤ z → 0 ≤ p ∧ p < msz J b d t) ∧ (0 ≤ p → p < msz J b d t → 0 ≤ z))) zN := by
  intro r9
  induction r9 with
  | zero => intro J t p hr_t hr_p b r d s m hM ht hm9; exact absurd hm9 (Nat.not_lt_zero _)
  | succ r9 ih =>
    intro J t p hr_t hr_p b r d s m hM ht hm9
    refine tz_Ok.of hl (by decide +kernel) rfl (tb_c1 rfl) (Nat.le_of_ble_eq_true rfl) ?_
    show tz_At l G M_X12_placeOf (tb_rm (12 + 1 * (r9 + 1)) 0 0) none (tb_ZM G 0 0 (zQ n 0 (zqi (fun z J' => J = J' ∧ (z = -1 ∨ (0 ≤ z ∧ z < m)) ∧ (0 ≤ z → 0 ≤ p ∧ p < msz J b d t) ∧ (0 ≤ p → p < msz J b d t → 0 ≤ z)))) (zX n 0 zN)) 0 0 n J 0 [some (.ref 164), some (zi t), some (zi p), none, none, none] []
    obtain ⟨hM1, hM2, hM3, hM4, hM5, hM6⟩ := id hM
    have hT := hM.told
    have ha := hM.ar ht
    have hz := hM.sz ht
    have hu := msz_un hM ht
    refine tz_iload_n (pc := 0) dX12_placeOf_0 rfl rfl ?_
    refine tz_if_ge (pc := 1) (tgt := 6) dX12_placeOf_1 (by decide) (by omega) (fun h_1 => ?_) (fun h_1 => ?_)
    · refine tz_iload_n (pc := 6) dX12_placeOf_6 rfl rfl ?_
      refine tz_if_ne (pc := 7) (tgt := 12) dX12_placeOf_7 (by decide) (by omega) (fun h_7 => ?_) (fun h_7 => ?_)
      · refine tz_iload_n (pc := 12) dX12_placeOf_12 rfl rfl ?_
        refine tz_iconst (pc := 13) dX12_placeOf_13 ?_
        refine tz_isub (pc := 14) (v := p - 1) dX12_placeOf_14 rfl ?_
        refine tz_istore_n (pc := 15) (L2 := [_, _, _, _, _, _]) dX12_placeOf_15 rfl (by decide) rfl ?_
        refine tz_iconst (pc := 16) dX12_placeOf_16 ?_
        refine tz_istore (pc := 17) (L2 := [_, _, _, _, _, _]) dX12_placeOf_17 (by decide) rfl ?_
        have loop19 : ∀ (f9 : Nat) (q : Int) (i : Int) (d5 : Option Value), ((3 - i).toNat) < f9 → ((0 ≤ i ∧ i ≤ mar J b d t) ∧ 0 ≤ q) → (q = p - tps (msz J b d) (mag J b) t i.toNat) → tz_At l G M_X12_placeOf (tb_rm (12 + 1 * (r9 + 1)) 0 0) none (tb_ZM G 0 0 (zQ n 0 (zqi (fun z J' => J = J' ∧ (z = -1 ∨ (0 ≤ z ∧ z < m)) ∧ (0 ≤ z → 0 ≤ p ∧ p < msz J b d t) ∧ (0 ≤ p → p < msz J b d t → 0 ≤ z)))) (zX n 0 zN)) 0 0 n J 19 [some (.ref 164), some (zi t), some (zi p), some (zi q), some (zi i), d5] [] := by
          intro f9
          induction f9 with
          | zero => intro q i d5 hm9; exact absurd hm9 (Nat.not_lt_zero _)
          | succ f9 ih19 =>
            intro q i d5 hm19 hi hq
            have hb9 := tps_bd hM ht i.toNat (by omega)
            refine tz_iload (pc := 19) dX12_placeOf_19 rfl ?_
            refine tz_aload_n (pc := 21) dX12_placeOf_21 rfl rfl ?_
            refine tz_iload_n (pc := 22) dX12_placeOf_22 rfl rfl ?_
            refine tz_cV (pc := 23) (m_arity hl n _ _ (by omega) b r d s m hM (by omega)) vl_X12_111 dX12_placeOf_23 o_164 rfl rfl (Nat.le_of_ble_eq_true rfl) ⟨(show 2 + 1 ≤ 12 + 1 * (r9 + 1) by omega), (show 8 + (2 + 11) + 40 * (2) ≤ 40 * (12 + 1 * (r9 + 1)) by omega)⟩ rfl rfl (Nat.le_of_ble_eq_true rfl) (Nat.le_of_ble_eq_true rfl) (fun r9 J_23 hq9 => ?_)
            obtain ⟨z_23, rfl, hz_23, rfl, rfl⟩ := hq9
            refine tz_icmp_ge (pc := 26) (tgt := 72) dX12_placeOf_26 (by decide) (by omega) (by omega) (fun h_26 => ?_) (fun h_26 => ?_)
            · refine tz_iconst (pc := 72) dX12_placeOf_72 ?_
              exact tz_iret (pc := 73) (z := (-1)) dX12_placeOf_73 rfl (Nat.le_of_ble_eq_true rfl) (Nat.le_of_ble_eq_true rfl) ⟨Nat.le_refl _, Nat.le_add_right _ _⟩ ⟨_, rfl, (by decide), (by first | exact ⟨rfl, hz1, fun _ => ⟨by omega, by have a9 := tps_mo hM ht (i + 1).toNat ((mar J b d t).toNat - (i + 1).toNat) (by omega); rw [show (i + 1).toNat + ((mar J b d t).toNat - (i + 1).toNat) = (mar J b d t).toNat by omega, ← hu, tps_s (by omega)] at a9; omega⟩, fun _ _ => hz2 (by omega) (by omega)⟩ | exact ⟨rfl, by omega, fun _ => by omega, fun _ _ => by omega⟩ | exact ⟨rfl, Or.inl rfl, fun q9 => absurd q9 (by decide), fun _ w9 => by rw [hu, show (mar J b d t).toNat = i.toNat by omega] at w9; omega⟩)⟩
            · refine tz_aload_n (pc := 29) dX12_placeOf_29 rfl rfl ?_
              refine tz_aload_n (pc := 30) dX12_placeOf_30 rfl rfl ?_
              refine tz_iload_n (pc := 31) dX12_placeOf_31 rfl rfl ?_
              refine tz_iload (pc := 32) dX12_placeOf_32 rfl ?_
              refine tz_cV (pc := 34) (m_arg hl n _ _ _ (by omega) (by omega) b r d s m hM (by omega) (by omega)) vl_X12_88 dX12_placeOf_34 o_164 rfl rfl (Nat.le_of_ble_eq_true rfl) ⟨(show 0 + 1 ≤ 12 + 1 * (r9 + 1) by omega), (show 8 + (3 + 11) + 40 * (0) ≤ 40 * (12 + 1 * (r9 + 1)) by omega)⟩ rfl rfl (Nat.le_of_ble_eq_true rfl) (Nat.le_of_ble_eq_true rfl) (fun r9 J_34 hq9 => ?_)
              obtain ⟨z_34, rfl, hz_34, rfl, rfl⟩ := hq9
              have hg := hM.arg (t := t) (i := i) ht (by omega)
              have hs := hM.sz (t := J 167 (3 * (b + t) + i)) (by omega)
              refine tz_cV (pc := 37) (m_size hl n _ _ (by omega) b r d s m hM (by omega)) vl_X12_114 dX12_placeOf_37 o_164 rfl rfl (Nat.le_of_ble_eq_true rfl) ⟨(show 10 + 1 ≤ 12 + 1 * (r9 + 1) by omega), (show 8 + (4 + 11) + 40 * (10) ≤ 40 * (12 + 1 * (r9 + 1)) by omega)⟩ rfl rfl (Nat.le_of_ble_eq_true rfl) (Nat.le_of_ble_eq_true rfl) (fun r9 J_37 hq9 => ?_)
              obtain ⟨z_37, rfl, hz_37, rfl, rfl⟩ := hq9
              refine tz_istore (pc := 40) (L2 := [_, _, _, _, _, _]) dX12_placeOf_40 (by decide) rfl ?_
              refine tz_iload_n (pc := 42) dX12_placeOf_42 rfl rfl ?_
              refine tz_iload (pc := 43) dX12_placeOf_43 rfl ?_
              refine tz_icmp_ge (pc := 45) (tgt := 61) dX12_placeOf_45 (by decide) (by omega) (by omega) (fun h_45 => ?_) (fun h_45 => ?_)
              · refine tz_iload_n (pc := 61) dX12_placeOf_61 rfl rfl ?_
                refine tz_iload (pc := 62) dX12_placeOf_62 rfl ?_
                refine tz_isub (pc := 64) (v := q - (msz J b d (J 167 (3 * (b + t) + i)))) dX12_placeOf_64 rfl ?_
                refine tz_istore_n (pc := 65) (L2 := [_, _, _, _, _, _]) dX12_placeOf_65 rfl (by decide) rfl ?_
                refine tz_iinc (pc := 66) (z := i + 1) (L2 := [_, _, _, _, _, _]) dX12_placeOf_66 rfl (by omega) rfl ?_
                refine tz_goto (pc := 69) (tgt := 19) dX12_placeOf_69 (by decide) ?_
                exact ih19 _ (i + 1) _ (by omega) (by omega) (by rw [tps_s (by omega)]; omega)
              · refine tz_aload_n (pc := 48) dX12_placeOf_48 rfl rfl ?_
                refine tz_aload_n (pc := 49) dX12_placeOf_49 rfl rfl ?_
                refine tz_iload_n (pc := 50) dX12_placeOf_50 rfl rfl ?_
                refine tz_iload (pc := 51) dX12_placeOf_51 rfl ?_
                refine tz_cV (pc := 53) (m_arg hl n _ _ _ (by omega) (by omega) b r d s m hM (by omega) (by omega)) vl_X12_88 dX12_placeOf_53 o_164 rfl rfl (Nat.le_of_ble_eq_true rfl) ⟨(show 0 + 1 ≤ 12 + 1 * (r9 + 1) by omega), (show 8 + (3 + 11) + 40 * (0) ≤ 40 * (12 + 1 * (r9 + 1)) by omega)⟩ rfl rfl (Nat.le_of_ble_eq_true rfl) (Nat.le_of_ble_eq_true rfl) (fun r9 J_53 hq9 => ?_)
                obtain ⟨z_53, rfl, hz_53, rfl, rfl⟩ := hq9
                refine tz_iload_n (pc := 56) dX12_placeOf_56 rfl rfl ?_
                refine tz_cV (pc := 57) (ih _ _ _ (by omega) (by omega) b r d s m hM (by omega) (by omega)) vl_X12_139 dX12_placeOf_57 o_164 rfl rfl (Nat.le_of_ble_eq_true rfl) ⟨(show (12 + 1 * r9) + 1 ≤ 12 + 1 * (r9 + 1) by omega), (show 8 + (6 + 11) + 40 * ((12 + 1 * r9)) ≤ 40 * (12 + 1 * (r9 + 1)) by omega)⟩ rfl rfl (Nat.le_of_ble_eq_true rfl) (Nat.le_of_ble_eq_true rfl) (fun r9 J_57 hq9 => ?_)
                obtain ⟨z_57, rfl, hz_57, rfl, hz1, hz3, hz2⟩ := hq9
                exact tz_iret (pc := 60) (z := z_57) dX12_placeOf_60 rfl (Nat.le_of_ble_eq_true rfl) (Nat.le_of_ble_eq_true rfl) ⟨Nat.le_refl _, Nat.le_add_right _ _⟩ ⟨_, rfl, (by omega), (by first | exact ⟨rfl, hz1, fun _ => ⟨by omega, by have a9 := tps_mo hM ht (i + 1).toNat ((mar J b d t).toNat - (i + 1).toNat) (by omega); rw [show (i + 1).toNat + ((mar J b d t).toNat - (i + 1).toNat) = (mar J b d t).toNat by omega, ← hu, tps_s (by omega)] at a9; omega⟩, fun _ _ => hz2 (by omega) (by omega)⟩ | exact ⟨rfl, by omega, fun _ => by omega, fun _ _ => by omega⟩ | exact ⟨rfl, Or.inl rfl, fun q9 => absurd q9 (by decide), fun _ w9 => by rw [hu, show (mar J b d t).toNat = i.toNat by omega] at w9; omega⟩)⟩
        exact loop19 _ _ 0 none (Nat.lt_succ_self _) (by omega) rfl
      · refine tz_iload_n (pc := 10) dX12_placeOf_10 rfl rfl ?_
        exact tz_iret (pc := 11) (z := t) dX12_placeOf_11 rfl (Nat.le_of_ble_eq_true rfl) (Nat.le_of_ble_eq_true rfl) ⟨Nat.le_refl _, Nat.le_add_right _ _⟩ ⟨_, rfl, (by omega), (by first | exact ⟨rfl, hz1, fun _ => ⟨by omega, by have a9 := tps_mo hM ht (i + 1).toNat ((mar J b d t).toNat - (i + 1).toNat) (by omega); rw [show (i + 1).toNat + ((mar J b d t).toNat - (i + 1).toNat) = (mar J b d t).toNat by omega, ← hu, tps_s (by omega)] at a9; omega⟩, fun _ _ => hz2 (by omega) (by omega)⟩ | exact ⟨rfl, by omega, fun _ => by omega, fun _ _ => by omega⟩ | exact ⟨rfl, Or.inl rfl, fun q9 => absurd q9 (by decide), fun _ w9 => by rw [hu, show (mar J b d t).toNat = i.toNat by omega] at w9; omega⟩)⟩
    · refine tz_iconst (pc := 4) dX12_placeOf_4 ?_
      exact tz_iret (pc := 5) (z := (-1)) dX12_placeOf_5 rfl (Nat.le_of_ble_eq_true rfl) (Nat.le_of_ble_eq_true rfl) ⟨Nat.le_refl _, Nat.le_add_right _ _⟩ ⟨_, rfl, (by decide), (by first | exact ⟨rfl, hz1, fun _ => ⟨by omega, by have a9 := tps_mo hM ht (i + 1).toNat ((mar J b d t).toNat - (i + 1).toNat) (by omega); rw [show (i + 1).toNat + ((mar J b d t).toNat - (i + 1).toNat) = (mar J b d t).toNat by omega, ← hu, tps_s (by omega)] at a9; omega⟩, fun _ _ => hz2 (by omega) (by omega)⟩ | exact ⟨rfl, by omega, fun _ => by omega, fun _ _ => by omega⟩ | exact ⟨rfl, Or.inl rfl, fun q9 => absurd q9 (by decide), fun _ w9 => by rw [hu, show (mar J b d t).toNat = i.toNat by omega] at w9; omega⟩)⟩

theorem o_place {l : Launch} {G : tb_G} (hl : l.stackTraces = false) (n : Nat) (J : zJ) (t p : Int) (hr_t : -2147483648 ≤ t ∧ t < 2147483648) (hr_p : -2147483648 ≤ p ∧ p < 2147483648) (b r d s m : Int) (hM : MS J b r d s m) (ht : 0 ≤ t ∧ t < m) : tz_Ok l G M_X12_placeOf 19 0 0 [.ref 164, zi t, zi p] n J (zqi (fun z J' => J = J' ∧ (z = -1 ∨ (0 ≤ z ∧ z < m)) ∧ (0 ≤ z → 0 ≤ p ∧ p < msz J b d t) ∧ (0 ≤ p → p < msz J b d t → 0 ≤ z))) zN := o_placeR hl n 7 J t p hr_t hr_p b r d s m hM ht (by have := (hM.ar ht).2.2.1; omega)
