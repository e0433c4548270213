/-! ===== common of the reference, exact ===== -/
theorem MS.oa {J : zJ} {s m t : Int} (hM : MS J 0 0 0 s m) (ht : 0 ≤ t ∧ t < m) : tb0 J 166 (0 + t) = J 166 (0 + t) ∧ oar (tb0 J) (tb0 J 166 (0 + t)) = mar J 0 0 t := by
  have hT := hM.told
  have hd := (hM.ar ht).2.1
  have h6 : tb0 J 166 (0 + t) = J 166 (0 + t) := by rw [tb0_6, if_pos (by omega)]
  refine ⟨h6, ?_⟩
  rw [h6]
  exact arh_cg (fun q => by rw [tb0_0, if_pos (by omega)])
theorem MS.tc {J : zJ} {s m : Int} (hM : MS J 0 0 0 s m) : tcl (tb0 J) m := fun t i ht a b => by
  have hT := hM.told
  rw [(hM.oa ht).2] at b
  have h3 := (hM.ar ht).1
  have := (hM.arg ht ⟨a, b⟩).1
  rw [tb0_7, if_pos (by omega)]
  exact ⟨by omega, by omega, by omega⟩
theorem rc_a {X : List Nat} {F : List Int} {rp : Int → Bool} {J Ji Jn : zJ} {s m mi u t z : Int} {i k : Nat} (hM : MS J 0 0 0 s m) (g : MG X F rp Ji J 0 0 0 s m mi) (e0 : Ji 170 = J 170) (hu : 0 ≤ u ∧ u < m) (ht : 0 ≤ t ∧ t < m) (hh : J 166 (0 + u) = J 166 (0 + t)) (hi : (i : Int) < mar J 0 0 u) (x : rcP k Ji Jn (J 167 (3 * (0 + u) + i)) (J 167 (3 * (0 + t) + i)) z) : (i : Int) < mar J 0 0 u ∧ rcP k Ji Jn (tb0 Ji 167 (3 * (0 + u) + i)) (tb0 Ji 167 (3 * (0 + t) + i)) z ∧ ∀ L, cpO k (tb0 Ji) L (tb0 Ji 167 (3 * (0 + u) + i)) (tb0 Ji 167 (3 * (0 + t) + i)) = cT k (tb0 J) u t L i := by
  have hT := hM.told
  have h3 := (hM.ar hu).1
  have eh := MS.hd8 (d := 0) hh
  have r1 := (hM.arg hu (i := (i : Int)) ⟨by omega, hi⟩).1
  have r2 := (hM.arg ht (i := (i : Int)) ⟨by omega, by omega⟩).1
  have w : ∀ q, (0 ≤ q ∧ q < m) → tb0 Ji 167 (3 * (0 + q) + i) = J 167 (3 * (0 + q) + i) := fun q hq => by
    rw [tb0_7, if_pos (by omega)]
    exact (g.2.1 q hq.1 hq.2).2 i (by omega) (by omega)
  have v : ∀ q, (0 ≤ q ∧ q < m) → tb0 J 167 (3 * (0 + q) + i) = J 167 (3 * (0 + q) + i) := fun q hq => by rw [tb0_7, if_pos (by omega)]
  rw [w u hu, w t ht]
  refine ⟨hi, x, fun L => ?_⟩
  unfold cT
  rw [v u hu, v t ht]
  refine cpO_cg hM.tc (fun q a b => ?_) (fun q j a b c d => ?_) (fun q => ?_) k L _ _ ⟨r1.1, by omega⟩ ⟨r2.1, by omega⟩
  · rw [tb0_6, if_pos (by omega), tb0_6, if_pos (by omega)]
    exact (g.2.1 q a b).1.1
  · rw [tb0_7, if_pos (by omega), tb0_7, if_pos (by omega)]
    exact (g.2.1 q a b).2 j c d
  · rw [tb0_0, tb0_0, e0]
theorem rc_s {k : Nat} {J : zJ} {L0 : List (Int × Int)} {s t A : Int} {zf : Nat → Int} (h21 : J 164 21 = 0) (h33 : J 164 33 = 0) (c : cM J L0) : rcS k J J L0 s t A zf 0 := Or.inl ⟨h21, h33, L0, rfl, c, fun M => ⟨rfl, fun j hj => absurd hj (Nat.not_lt_zero j)⟩⟩
theorem rc_k {J J' : zJ} {s m u t z : Int} {k : Nat} (hM : MS J 0 0 0 s m) (hu : 0 ≤ u ∧ u < m) (hk : J 168 (0 + u) ≤ k) (h21 : J 164 21 = 0) (h33 : J 164 33 = 0) (e : ∀ (k9 : Nat) L0, cM J L0 → k = k9 + 1 → rcQ (k9 + 1) J J' u t z L0) : rcP k J J' u t z := by
  have dp := (hM.ar hu).2.2.1
  obtain ⟨k9, rfl⟩ : ∃ k9, k = k9 + 1 := ⟨k - 1, by omega⟩
  exact ⟨fun q => absurd ⟨h21, h33⟩ q, fun _ _ L0 c => e k9 L0 c rfl⟩
set_option maxHeartbeats 4000000 in
set_option maxRecDepth 100000 in
theorem o_coupleOf {l : Launch} {G : tb_G} (hl : l.stackTraces = false) (n : Nat) (J : zJ) (u : Int) (t : Int) (hr_u : -2147483648 ≤ u ∧ u < 2147483648) (hr_t : -2147483648 ≤ t ∧ t < 2147483648)  (h0 : 0 ≤ J 164 32 ∧ J 164 32 ≤ 8) : tz_Ok l G M_X12_coupleOf 0 0 0 [.ref 164, zi u, zi t] n J (zqi (fun z J' => (zOf (zbut [164, 182]) J' J ∧ (∀ k, ¬ k = 32 → ¬ k = 33 → J' 164 k = J 164 k) ∧ (0 ≤ J' 164 32 ∧ J' 164 32 ≤ 8) ∧ (J' 164 33 = 0 → J 164 33 = 0 ∧ 0 ≤ z ∧ z < 8)) ∧ (((0 ≤ z ∧ z < J 164 32) ∧ (J 182 (2 * z) = u ∧ J 182 (2 * z + 1) = t) ∧ (∀ i, 0 ≤ i → i < z → ¬ (J 182 (2 * i) = u ∧ J 182 (2 * i + 1) = t)) ∧ J = J') ∨ ((∀ i, 0 ≤ i → i < J 164 32 → ¬ (J 182 (2 * i) = u ∧ J 182 (2 * i + 1) = t)) ∧ (((¬ J 164 33 = 0 ∨ J 164 32 = 8) ∧ J' 164 33 = 1) ∨ (J 164 32 < 8 ∧ z = J 164 32 ∧ zup (zup (zup (zup J 164 33 0) 182 (2 * J 164 32) u) 182 (2 * J 164 32 + 1) t) 164 32 (J 164 32 + 1) = J')))))) zN := by
  refine tz_Ok.of hl (by decide +kernel) rfl (tb_c1 rfl) (Nat.le_of_ble_eq_true rfl) ?_
  show tz_At l G M_X12_coupleOf (tb_rm 0 0 0) none (tb_ZM G 0 0 (zQ n 0 (zqi (fun z J' => (zOf (zbut [164, 182]) J' J ∧ (∀ k, ¬ k = 32 → ¬ k = 33 → J' 164 k = J 164 k) ∧ (0 ≤ J' 164 32 ∧ J' 164 32 ≤ 8) ∧ (J' 164 33 = 0 → J 164 33 = 0 ∧ 0 ≤ z ∧ z < 8)) ∧ (((0 ≤ z ∧ z < J 164 32) ∧ (J 182 (2 * z) = u ∧ J 182 (2 * z + 1) = t) ∧ (∀ i, 0 ≤ i → i < z → ¬ (J 182 (2 * i) = u ∧ J 182 (2 * i + 1) = t)) ∧ J = J') ∨ ((∀ i, 0 ≤ i → i < J 164 32 → ¬ (J 182 (2 * i) = u ∧ J 182 (2 * i + 1) = t)) ∧ (((¬ J 164 33 = 0 ∨ J 164 32 = 8) ∧ J' 164 33 = 1) ∨ (J 164 32 < 8 ∧ z = J 164 32 ∧ zup (zup (zup (zup J 164 33 0) 182 (2 * J 164 32) u) 182 (2 * J 164 32 + 1) t) 164 32 (J 164 32 + 1) = J'))))))) (zX n 0 zN)) 0 0 n J 0 [some (.ref 164), some (zi u), some (zi t), none] []
  refine tz_iconst (pc := 0) dX12_coupleOf_0 ?_
  refine tz_istore_n (pc := 1) (L2 := [_, _, _, _]) dX12_coupleOf_1 rfl (by decide) rfl ?_
  have loop2 : ∀ (f9 : Nat) (k : Int), ((J 164 32 - k).toNat) < f9 → (0 ≤ k ∧ k ≤ J 164 32) → (∀ i, 0 ≤ i → i < k → ¬ (J 182 (2 * i) = u ∧ J 182 (2 * i + 1) = t)) → tz_At l G M_X12_coupleOf (tb_rm 0 0 0) none (tb_ZM G 0 0 (zQ n 0 (zqi (fun z J' => (zOf (zbut [164, 182]) J' J ∧ (∀ k, ¬ k = 32 → ¬ k = 33 → J' 164 k = J 164 k) ∧ (0 ≤ J' 164 32 ∧ J' 164 32 ≤ 8) ∧ (J' 164 33 = 0 → J 164 33 = 0 ∧ 0 ≤ z ∧ z < 8)) ∧ (((0 ≤ z ∧ z < J 164 32) ∧ (J 182 (2 * z) = u ∧ J 182 (2 * z + 1) = t) ∧ (∀ i, 0 ≤ i → i < z → ¬ (J 182 (2 * i) = u ∧ J 182 (2 * i + 1) = t)) ∧ J = J') ∨ ((∀ i, 0 ≤ i → i < J 164 32 → ¬ (J 182 (2 * i) = u ∧ J 182 (2 * i + 1) = t)) ∧ (((¬ J 164 33 = 0 ∨ J 164 32 = 8) ∧ J' 164 33 = 1) ∨ (J 164 32 < 8 ∧ z = J 164 32 ∧ zup (zup (zup (zup J 164 33 0) 182 (2 * J 164 32) u) 182 (2 * J 164 32 + 1) t) 164 32 (J 164 32 + 1) = J'))))))) (zX n 0 zN)) 0 0 n J 2 [some (.ref 164), some (zi u), some (zi t), some (zi k)] [] := by
    intro f9
    induction f9 with
    | zero => intro k hm9; exact absurd hm9 (Nat.not_lt_zero _)
    | succ f9 ih2 =>
      intro k hm2 hk hn
      refine tz_iload_n (pc := 2) dX12_coupleOf_2 rfl rfl ?_
      refine tz_aload_n (pc := 3) dX12_coupleOf_3 rfl rfl ?_
      refine tz_fI (pc := 4) (kz := 32) (v := (J 164 32)) dX12_coupleOf_4 fl_X12_192 i_164_32 rfl rfl (fun r_4 => ?_)
      refine tz_icmp_ge (pc := 7) (tgt := 44) dX12_coupleOf_7 (by decide) (by omega) (by omega) (fun h_7 => ?_) (fun h_7 => ?_)
      · refine tz_aload_n (pc := 44) dX12_coupleOf_44 rfl rfl ?_
        refine tz_aload_n (pc := 45) dX12_coupleOf_45 rfl rfl ?_
        refine tz_fI (pc := 46) (kz := 33) (v := (J 164 33)) dX12_coupleOf_46 fl_X12_195 i_164_33 rfl rfl (fun r_46 => ?_)
        refine tz_if_ne (pc := 49) (tgt := 61) dX12_coupleOf_49 (by decide) (by omega) (fun h_49 => ?_) (fun h_49 => ?_)
        · refine tz_iconst (pc := 61) dX12_coupleOf_61 ?_
          refine tz_goto (pc := 62) (tgt := 66) dX12_coupleOf_62 (by decide) ?_
          refine tz_pZ (pc := 66) (kz := 33) dX12_coupleOf_66 fl_X12_195 i_164_33 rfl rfl (Or.inr rfl) ?_
          refine tz_aload_n (pc := 69) dX12_coupleOf_69 rfl rfl ?_
          refine tz_fI (pc := 70) (kz := 33) (v := 1) dX12_coupleOf_70 fl_X12_195 i_164_33 rfl rfl (fun _ => ?_)
          refine tz_if_eqF (pc := 73) (tgt := 78) (by decide) dX12_coupleOf_73 (by decide) (by decide) ?_
          refine tz_iconst (pc := 76) dX12_coupleOf_76 ?_
          exact tz_iret (pc := 77) (z := 0) dX12_coupleOf_77 rfl (Nat.le_of_ble_eq_true rfl) (Nat.le_of_ble_eq_true rfl) ⟨Nat.le_refl _, Nat.le_add_right _ _⟩ ⟨_, rfl, (by decide), ⟨⟨zOf.up rfl zOf.rf, fun k _ e => zup_ne e, h0, fun q9 => absurd ((zup_at (J := J) (c := 164) (k := 33) (z := 1)).symm.trans q9) (by decide)⟩, Or.inr ⟨fun i a b => hn i a (by omega), Or.inl ⟨by omega, zup_at⟩⟩⟩⟩
        · refine tz_aload_n (pc := 52) dX12_coupleOf_52 rfl rfl ?_
          refine tz_fI (pc := 53) (kz := 32) (v := (J 164 32)) dX12_coupleOf_53 fl_X12_192 i_164_32 rfl rfl (fun r_53 => ?_)
          refine tz_bipush (pc := 56) dX12_coupleOf_56 (by decide) ?_
          refine tz_icmp_ne (pc := 58) (tgt := 65) dX12_coupleOf_58 (by decide) (by omega) (by decide) (fun h_58 => ?_) (fun h_58 => ?_)
          · refine tz_iconst (pc := 65) dX12_coupleOf_65 ?_
            refine tz_pZ (pc := 66) (kz := 33) dX12_coupleOf_66 fl_X12_195 i_164_33 rfl rfl (Or.inl rfl) ?_
            refine tz_aload_n (pc := 69) dX12_coupleOf_69 rfl rfl ?_
            refine tz_fI (pc := 70) (kz := 33) (v := 0) dX12_coupleOf_70 fl_X12_195 i_164_33 rfl rfl (fun _ => ?_)
            refine tz_if_eqT (pc := 73) (tgt := 78) (by decide) dX12_coupleOf_73 (by decide) (by decide) ?_
            refine tz_aload_n (pc := 78) dX12_coupleOf_78 rfl rfl ?_
            refine tz_fR (pc := 79) dX12_coupleOf_79 fl_X12_65 r_164_31 ?_
            refine tz_iconst (pc := 82) dX12_coupleOf_82 ?_
            refine tz_aload_n (pc := 83) dX12_coupleOf_83 rfl rfl ?_
            refine tz_fI (pc := 84) (kz := 32) (v := (J 164 32)) dX12_coupleOf_84 fl_X12_192 i_164_32 rfl rfl (fun r_84 => ?_)
            refine tz_imul (pc := 87) (v := 2 * (J 164 32)) dX12_coupleOf_87 rfl ?_
            refine tz_iload_n (pc := 88) dX12_coupleOf_88 rfl rfl ?_
            refine tz_aS (pc := 89) (z := (2 * (J 164 32))) dX12_coupleOf_89 a_182 rfl (by omega) (by omega) ?_
            refine tz_aload_n (pc := 90) dX12_coupleOf_90 rfl rfl ?_
            refine tz_fR (pc := 91) dX12_coupleOf_91 fl_X12_65 r_164_31 ?_
            refine tz_iconst (pc := 94) dX12_coupleOf_94 ?_
            refine tz_aload_n (pc := 95) dX12_coupleOf_95 rfl rfl ?_
            refine tz_fI (pc := 96) (kz := 32) (v := (J 164 32)) dX12_coupleOf_96 fl_X12_192 i_164_32 rfl rfl (fun r_96 => ?_)
            refine tz_imul (pc := 99) (v := 2 * (J 164 32)) dX12_coupleOf_99 rfl ?_
            refine tz_iconst (pc := 100) dX12_coupleOf_100 ?_
            refine tz_iadd (pc := 101) (v := (2 * (J 164 32)) + 1) dX12_coupleOf_101 rfl ?_
            refine tz_iload_n (pc := 102) dX12_coupleOf_102 rfl rfl ?_
            refine tz_aS (pc := 103) (z := ((2 * (J 164 32)) + 1)) dX12_coupleOf_103 a_182 rfl (by omega) (by omega) ?_
            refine tz_aload_n (pc := 104) dX12_coupleOf_104 rfl rfl ?_
            refine tz_dup (pc := 105) dX12_coupleOf_105 rfl ?_
            refine tz_fI (pc := 106) (kz := 32) (v := (J 164 32)) dX12_coupleOf_106 fl_X12_192 i_164_32 rfl rfl (fun r_106 => ?_)
            refine tz_iconst (pc := 109) dX12_coupleOf_109 ?_
            refine tz_iadd (pc := 110) (v := (J 164 32) + 1) dX12_coupleOf_110 rfl ?_
            refine tz_pI (pc := 111) (kz := 32) dX12_coupleOf_111 fl_X12_192 i_164_32 rfl rfl (by omega) ?_
            refine tz_aload_n (pc := 114) dX12_coupleOf_114 rfl rfl ?_
            refine tz_fI (pc := 115) (kz := 32) (v := ((J 164 32) + 1)) dX12_coupleOf_115 fl_X12_192 i_164_32 rfl rfl (fun r_115 => ?_)
            refine tz_iconst (pc := 118) dX12_coupleOf_118 ?_
            refine tz_isub (pc := 119) (v := ((J 164 32) + 1) - 1) dX12_coupleOf_119 rfl ?_
            exact tz_iret (pc := 120) (z := (((J 164 32) + 1) - 1)) dX12_coupleOf_120 rfl (Nat.le_of_ble_eq_true rfl) (Nat.le_of_ble_eq_true rfl) ⟨Nat.le_refl _, Nat.le_add_right _ _⟩ ⟨_, rfl, (by omega), ⟨⟨zOf.up rfl (zOf.up rfl (zOf.up rfl (zOf.up rfl zOf.rf))), fun k e1 e2 => by rw [zup_ne e1]; show zup J 164 33 0 164 k = _; exact zup_ne e2, by rw [zup_at]; omega, fun q9 => by omega⟩, Or.inr ⟨fun i a b => hn i a (by omega), Or.inr ⟨by omega, by omega, rfl⟩⟩⟩⟩
          · refine tz_iconst (pc := 61) dX12_coupleOf_61 ?_
            refine tz_goto (pc := 62) (tgt := 66) dX12_coupleOf_62 (by decide) ?_
            refine tz_pZ (pc := 66) (kz := 33) dX12_coupleOf_66 fl_X12_195 i_164_33 rfl rfl (Or.inr rfl) ?_
            refine tz_aload_n (pc := 69) dX12_coupleOf_69 rfl rfl ?_
            refine tz_fI (pc := 70) (kz := 33) (v := 1) dX12_coupleOf_70 fl_X12_195 i_164_33 rfl rfl (fun _ => ?_)
            refine tz_if_eqF (pc := 73) (tgt := 78) (by decide) dX12_coupleOf_73 (by decide) (by decide) ?_
            refine tz_iconst (pc := 76) dX12_coupleOf_76 ?_
            exact tz_iret (pc := 77) (z := 0) dX12_coupleOf_77 rfl (Nat.le_of_ble_eq_true rfl) (Nat.le_of_ble_eq_true rfl) ⟨Nat.le_refl _, Nat.le_add_right _ _⟩ ⟨_, rfl, (by decide), ⟨⟨zOf.up rfl zOf.rf, fun k _ e => zup_ne e, h0, fun q9 => absurd ((zup_at (J := J) (c := 164) (k := 33) (z := 1)).symm.trans q9) (by decide)⟩, Or.inr ⟨fun i a b => hn i a (by omega), Or.inl ⟨by omega, zup_at⟩⟩⟩⟩
      · refine tz_aload_n (pc := 10) dX12_coupleOf_10 rfl rfl ?_
        refine tz_fR (pc := 11) dX12_coupleOf_11 fl_X12_65 r_164_31 ?_
        refine tz_iconst (pc := 14) dX12_coupleOf_14 ?_
        refine tz_iload_n (pc := 15) dX12_coupleOf_15 rfl rfl ?_
        refine tz_imul (pc := 16) (v := 2 * k) dX12_coupleOf_16 rfl ?_
        refine tz_aL (pc := 17) (z := (2 * k)) (v := (J 182 (2 * k))) dX12_coupleOf_17 a_182 rfl (by omega) rfl (fun r_17 => ?_)
        refine tz_iload_n (pc := 18) dX12_coupleOf_18 rfl rfl ?_
        refine tz_icmp_ne (pc := 19) (tgt := 38) dX12_coupleOf_19 (by decide) (by omega) (by omega) (fun h_19 => ?_) (fun h_19 => ?_)
        · refine tz_iinc (pc := 38) (z := k + 1) (L2 := [_, _, _, _]) dX12_coupleOf_38 rfl (by omega) rfl ?_
          refine tz_goto (pc := 41) (tgt := 2) dX12_coupleOf_41 (by decide) ?_
          exact ih2 (k + 1) (by omega) (by omega) (fun i a b => (Decidable.em (i = k)).elim (fun e => by rw [e]; omega) (fun e => hn i a (by omega)))
        · refine tz_aload_n (pc := 22) dX12_coupleOf_22 rfl rfl ?_
          refine tz_fR (pc := 23) dX12_coupleOf_23 fl_X12_65 r_164_31 ?_
          refine tz_iconst (pc := 26) dX12_coupleOf_26 ?_
          refine tz_iload_n (pc := 27) dX12_coupleOf_27 rfl rfl ?_
          refine tz_imul (pc := 28) (v := 2 * k) dX12_coupleOf_28 rfl ?_
          refine tz_iconst (pc := 29) dX12_coupleOf_29 ?_
          refine tz_iadd (pc := 30) (v := (2 * k) + 1) dX12_coupleOf_30 rfl ?_
          refine tz_aL (pc := 31) (z := ((2 * k) + 1)) (v := (J 182 ((2 * k) + 1))) dX12_coupleOf_31 a_182 rfl (by omega) rfl (fun r_31 => ?_)
          refine tz_iload_n (pc := 32) dX12_coupleOf_32 rfl rfl ?_
          refine tz_icmp_ne (pc := 33) (tgt := 38) dX12_coupleOf_33 (by decide) (by omega) (by omega) (fun h_33 => ?_) (fun h_33 => ?_)
          · refine tz_iinc (pc := 38) (z := k + 1) (L2 := [_, _, _, _]) dX12_coupleOf_38 rfl (by omega) rfl ?_
            refine tz_goto (pc := 41) (tgt := 2) dX12_coupleOf_41 (by decide) ?_
            exact ih2 (k + 1) (by omega) (by omega) (fun i a b => (Decidable.em (i = k)).elim (fun e => by rw [e]; omega) (fun e => hn i a (by omega)))
          · refine tz_iload_n (pc := 36) dX12_coupleOf_36 rfl rfl ?_
            exact tz_iret (pc := 37) (z := k) dX12_coupleOf_37 rfl (Nat.le_of_ble_eq_true rfl) (Nat.le_of_ble_eq_true rfl) ⟨Nat.le_refl _, Nat.le_add_right _ _⟩ ⟨_, rfl, (by omega), ⟨⟨zOf.rf, fun _ _ _ => rfl, h0, fun q9 => by omega⟩, Or.inl ⟨by omega, ⟨by omega, by omega⟩, hn, rfl⟩⟩⟩
  exact loop2 _ 0 (Nat.lt_succ_self _) (by omega) (fun i a b => by omega)

set_option maxHeartbeats 4000000 in
set_option maxRecDepth 100000 in
theorem o_commonR {l : Launch} {G : tb_G} (hl : l.stackTraces = false) (n : Nat) : ∀ (r9 : Nat) (J : zJ) (u : Int) (t : Int) (hr_u : -2147483648 ≤ u ∧ u < 2147483648) (hr_t : -2147483648 ≤ t ∧ t < 2147483648) (s m : Int) (hM : MS J 0 0 0 s m) (h9s : J 164 9 = s) (hs : 0 ≤ u ∧ u < m) (ht : 0 ≤ t ∧ t < m) (h0 : 0 ≤ J 164 32 ∧ J 164 32 ≤ 8), ((J 168 (0 + u)).toNat) < r9 → tz_Ok l G M_X12_commonOf (4 + 1 * r9) 0 0 [.ref 164, zi u, zi t] n J (zqi (fun z J' => ∃ m', MG [182] [32, 33] (fun _ => false) J' J 0 0 0 s m m' ∧ (J' 164 21 = 0 → J' 164 33 = 0 → 0 ≤ z ∧ z < m') ∧ (J' 164 33 = 0 → J 164 33 = 0) ∧ (0 ≤ J' 164 32 ∧ J' 164 32 ≤ 8) ∧ ∀ k : Nat, J 168 (0 + u) ≤ k → rcP k J J' u t z)) zN := by
  intro r9
  induction r9 with
  | zero => intro J u t hr_u hr_t s m hM h9s hs ht h0 hm9; exact absurd hm9 (Nat.not_lt_zero _)
  | succ r9 ih =>
    intro J u t hr_u hr_t s m hM h9s hs ht h0 hm9
    refine tz_Ok.of hl (by decide +kernel) rfl (tb_c1 rfl) (Nat.le_of_ble_eq_true rfl) ?_
    show tz_At l G M_X12_commonOf (tb_rm (4 + 1 * (r9 + 1)) 0 0) none (tb_ZM G 0 0 (zQ n 0 (zqi (fun z J' => ∃ m', MG [182] [32, 33] (fun _ => false) J' J 0 0 0 s m m' ∧ (J' 164 21 = 0 → J' 164 33 = 0 → 0 ≤ z ∧ z < m') ∧ (J' 164 33 = 0 → J 164 33 = 0) ∧ (0 ≤ J' 164 32 ∧ J' 164 32 ≤ 8) ∧ ∀ k : Nat, J 168 (0 + u) ≤ k → rcP k J J' u t z))) (zX n 0 zN)) 0 0 n J 0 [some (.ref 164), some (zi u), some (zi t), none, none, none, none] []
    have hT := hM.told
    have ha := hM.ar hs
    have hb := hM.ar ht
    have g0 : MG [182] [32, 33] (fun _ => false) J J 0 0 0 s m m := MG.rf hM
    refine tz_aload_n (pc := 0) dX12_commonOf_0 rfl rfl ?_
    refine tz_fI (pc := 1) (kz := 21) (v := (J 164 21)) dX12_commonOf_1 fl_X12_92 i_164_21 rfl rfl (fun r_1 => ?_)
    refine tz_if_ne (pc := 4) (tgt := 14) dX12_commonOf_4 (by decide) (by omega) (fun h_4 => ?_) (fun h_4 => ?_)
    · refine tz_iconst (pc := 14) dX12_commonOf_14 ?_
      exact tz_iret (pc := 15) (z := 0) dX12_commonOf_15 rfl (Nat.le_of_ble_eq_true rfl) (Nat.le_of_ble_eq_true rfl) ⟨Nat.le_refl _, Nat.le_add_right _ _⟩ ⟨_, rfl, (by decide), ⟨m, g0, fun q9 q8 => by omega, fun q9 => by omega, h0, fun k hk => ⟨fun _ => rfl, fun a b => by exfalso; omega⟩⟩⟩
    · refine tz_aload_n (pc := 7) dX12_commonOf_7 rfl rfl ?_
      refine tz_fI (pc := 8) (kz := 33) (v := (J 164 33)) dX12_commonOf_8 fl_X12_195 i_164_33 rfl rfl (fun r_8 => ?_)
      refine tz_if_eq (pc := 11) (tgt := 16) dX12_commonOf_11 (by decide) (by omega) (fun h_11 => ?_) (fun h_11 => ?_)
      · refine tz_aload_n (pc := 16) dX12_commonOf_16 rfl rfl ?_
        refine tz_iload_n (pc := 17) dX12_commonOf_17 rfl rfl ?_
        refine tz_cV (pc := 18) (m_isVar hl n _ _ (by omega) 0 0 0 s m hM (by omega)) vl_X12_78 dX12_commonOf_18 o_164 rfl rfl (Nat.le_of_ble_eq_true rfl) ⟨(show 1 + 1 ≤ 4 + 1 * (r9 + 1) by omega), (show 8 + (2 + 11) + 40 * (1) ≤ 40 * (4 + 1 * (r9 + 1)) by omega)⟩ rfl rfl (Nat.le_of_ble_eq_true rfl) (Nat.le_of_ble_eq_true rfl) (fun r9 J_18 hq9 => ?_)
        obtain ⟨z_18, rfl, hz_18, rfl, rfl⟩ := hq9
        by_cases hw_21 : J 166 (0 + u) < 0
        · rw [show (if J 166 (0 + u) < 0 then 1 else 0 : Int) = 1 from if_pos hw_21]
          refine tz_if_neT (pc := 21) (tgt := 37) (by decide) dX12_commonOf_21 (by decide) (by decide) ?_
          refine tz_aload_n (pc := 37) dX12_commonOf_37 rfl rfl ?_
          refine tz_iload_n (pc := 38) dX12_commonOf_38 rfl rfl ?_
          refine tz_iload_n (pc := 39) dX12_commonOf_39 rfl rfl ?_
          refine tz_cV (pc := 40) (o_coupleOf hl n _ _ _ (by omega) (by omega) h0) vl_X12_198 dX12_commonOf_40 o_164 rfl rfl (Nat.le_of_ble_eq_true rfl) ⟨(show 0 + 1 ≤ 4 + 1 * (r9 + 1) by omega), (show 8 + (4 + 11) + 40 * (0) ≤ 40 * (4 + 1 * (r9 + 1)) by omega)⟩ rfl rfl (Nat.le_of_ble_eq_true rfl) (Nat.le_of_ble_eq_true rfl) (fun r9 J_40 hq9 => ?_)
          obtain ⟨z_40, rfl, hz_40, ⟨c1, c2, c3, c4⟩, c5⟩ := hq9
          have q_40 : MG [182] [32, 33] (fun _ => false) J_40 J 0 0 0 s m m := (MG.rf hM).off (fun k hk => c2 k (by simp at hk; omega) (by simp at hk; omega)) (fun k _ => congrFun (c1 165 rfl) k) (c1.mono (zbut_sub (fun c hc => by simp at hc ⊢; omega))) ⟨rfl, rfl, rfl, rfl⟩ rfl ⟨rfl, rfl, rfl, rfl⟩
          have t_40 : tb0 J_40 = tb0 J := tb0_of (c2 9 (by decide) (by decide)) (c2 21 (by decide) (by decide)) (fun k _ _ => by rw [c1 165 rfl]) (fun k _ _ => ⟨by rw [c1 166 rfl], by rw [c1 168 rfl]⟩) (fun k _ _ => by rw [c1 167 rfl]) (fun k _ _ => ⟨by rw [c1 169 rfl], by rw [c1 170 rfl], by rw [c1 171 rfl]⟩)
          refine tz_istore_n (pc := 43) (L2 := [_, _, _, _, _, _, _]) dX12_commonOf_43 rfl (by decide) rfl ?_
          refine tz_aload_n (pc := 44) dX12_commonOf_44 rfl rfl ?_
          refine tz_fI (pc := 45) (kz := 33) (v := (J_40 164 33)) dX12_commonOf_45 fl_X12_195 i_164_33 rfl rfl (fun r_45 => ?_)
          refine tz_if_eq (pc := 48) (tgt := 55) dX12_commonOf_48 (by decide) (by omega) (fun h_48 => ?_) (fun h_48 => ?_)
          · refine tz_aload_n (pc := 55) dX12_commonOf_55 rfl rfl ?_
            refine tz_iload_n (pc := 56) dX12_commonOf_56 rfl rfl ?_
            have l0_57 := (q_40).1.2
            have t0_57 := (q_40).1.1.told
            refine tz_cV (pc := 57) (o_varTerm hl n _ _ (by omega) s m (q_40).1.1 (((q_40).2.2.1.2.2.1 9 (by decide)).trans h9s) (by omega)) vl_X12_180 dX12_commonOf_57 o_164 rfl rfl (Nat.le_of_ble_eq_true rfl) ⟨(show 3 + 1 ≤ 4 + 1 * (r9 + 1) by omega), (show 8 + (2 + 11) + 40 * (3) ≤ 40 * (4 + 1 * (r9 + 1)) by omega)⟩ rfl rfl (Nat.le_of_ble_eq_true rfl) (Nat.le_of_ble_eq_true rfl) (fun r9 J_57 hq9 => ?_)
            obtain ⟨z_57, rfl, hz_57, x_57, m_57, g_57, h_57⟩ := hq9
            have q_57 := MG.tr q_40 (MG.mono g_57 (fun _ h => by simp at h) (fun _ h => by simp at h) (fun _ h => h))
            have f_57 := g_57.2.2.2
            have l_57 := g_57.1.2
            exact tz_iret (pc := 60) (z := z_57) dX12_commonOf_60 rfl (Nat.le_of_ble_eq_true rfl) (Nat.le_of_ble_eq_true rfl) ⟨Nat.le_refl _, Nat.le_add_right _ _⟩ ⟨_, rfl, (by omega), ⟨m_57, q_57, fun q9 q8 => h_57 q9, fun q9 => by rw [g_57.2.2.1.2.2.1 33 (by decide)] at q9; omega, by rw [g_57.2.2.1.2.2.1 32 (by decide)]; exact c3, fun k hk => rc_k hM hs hk (by omega) (by omega) (fun k9 L0 c _ => rc_leaf (by rw [(hM.oa hs).1, (hM.oa ht).1]; omega) (by omega) t_40 (c.ac (by omega) c5) (Or.inr ⟨by omega, Prod.ext x_57.1 x_57.2, g_57.2.2.1.2.2.1 33 (by decide), g_57.2.2.1.2.2.1 32 (by decide), g_57.2.2.1.2.2.2 182 rfl⟩))⟩⟩
          · refine tz_iconst (pc := 51) dX12_commonOf_51 ?_
            refine tz_goto (pc := 52) (tgt := 60) dX12_commonOf_52 (by decide) ?_
            exact tz_iret (pc := 60) (z := 0) dX12_commonOf_60 rfl (Nat.le_of_ble_eq_true rfl) (Nat.le_of_ble_eq_true rfl) ⟨Nat.le_refl _, Nat.le_add_right _ _⟩ ⟨_, rfl, (by decide), ⟨m, q_40, fun q9 q8 => by omega, fun q9 => by omega, c3, fun k hk => rc_k hM hs hk (by omega) (by omega) (fun k9 L0 c _ => rc_leaf (by rw [(hM.oa hs).1, (hM.oa ht).1]; omega) (by omega) t_40 (c.ac (by omega) c5) (Or.inl ⟨by omega, rfl⟩))⟩⟩
        · rw [show (if J 166 (0 + u) < 0 then 1 else 0 : Int) = 0 from if_neg hw_21]
          refine tz_if_neF (pc := 21) (tgt := 37) (by decide) dX12_commonOf_21 (by decide) (by decide) ?_
          refine tz_aload_n (pc := 24) dX12_commonOf_24 rfl rfl ?_
          refine tz_iload_n (pc := 25) dX12_commonOf_25 rfl rfl ?_
          refine tz_cV (pc := 26) (m_head hl n _ _ (by omega) 0 0 0 s m hM (by omega)) vl_X12_74 dX12_commonOf_26 o_164 rfl rfl (Nat.le_of_ble_eq_true rfl) ⟨(show 0 + 1 ≤ 4 + 1 * (r9 + 1) by omega), (show 8 + (2 + 11) + 40 * (0) ≤ 40 * (4 + 1 * (r9 + 1)) by omega)⟩ rfl rfl (Nat.le_of_ble_eq_true rfl) (Nat.le_of_ble_eq_true rfl) (fun r9 J_26 hq9 => ?_)
          obtain ⟨z_26, rfl, hz_26, rfl, rfl⟩ := hq9
          refine tz_aload_n (pc := 29) dX12_commonOf_29 rfl rfl ?_
          refine tz_iload_n (pc := 30) dX12_commonOf_30 rfl rfl ?_
          refine tz_cV (pc := 31) (m_head hl n _ _ (by omega) 0 0 0 s m hM (by omega)) vl_X12_74 dX12_commonOf_31 o_164 rfl rfl (Nat.le_of_ble_eq_true rfl) ⟨(show 0 + 1 ≤ 4 + 1 * (r9 + 1) by omega), (show 8 + (2 + 11) + 40 * (0) ≤ 40 * (4 + 1 * (r9 + 1)) by omega)⟩ rfl rfl (Nat.le_of_ble_eq_true rfl) (Nat.le_of_ble_eq_true rfl) (fun r9 J_31 hq9 => ?_)
          obtain ⟨z_31, rfl, hz_31, rfl, rfl⟩ := hq9
          refine tz_icmp_eq (pc := 34) (tgt := 61) dX12_commonOf_34 (by decide) (by omega) (by omega) (fun h_34 => ?_) (fun h_34 => ?_)
          · refine tz_aload_n (pc := 61) dX12_commonOf_61 rfl rfl ?_
            refine tz_iload_n (pc := 62) dX12_commonOf_62 rfl rfl ?_
            refine tz_cV (pc := 63) (m_arity hl n _ _ (by omega) 0 0 0 s m hM (by omega)) vl_X12_111 dX12_commonOf_63 o_164 rfl rfl (Nat.le_of_ble_eq_true rfl) ⟨(show 2 + 1 ≤ 4 + 1 * (r9 + 1) by omega), (show 8 + (2 + 11) + 40 * (2) ≤ 40 * (4 + 1 * (r9 + 1)) by omega)⟩ rfl rfl (Nat.le_of_ble_eq_true rfl) (Nat.le_of_ble_eq_true rfl) (fun r9 J_63 hq9 => ?_)
            obtain ⟨z_63, rfl, hz_63, rfl, rfl⟩ := hq9
            have he := MS.hd8 (J := J) (b := 0) (d := 0) (t := u) (u := t) (by omega)
            refine tz_istore_n (pc := 66) (L2 := [_, _, _, _, _, _, _]) dX12_commonOf_66 rfl (by decide) rfl ?_
            refine tz_iload_n (pc := 67) dX12_commonOf_67 rfl rfl ?_
            refine tz_if_le (pc := 68) (tgt := 90) dX12_commonOf_68 (by decide) (by omega) (fun h_68 => ?_) (fun h_68 => ?_)
            · refine tz_iconst (pc := 90) dX12_commonOf_90 ?_
              refine tz_istore (pc := 91) (L2 := [_, _, _, _, _, _, _]) dX12_commonOf_91 (by decide) rfl ?_
              refine tz_iload_n (pc := 93) dX12_commonOf_93 rfl rfl ?_
              refine tz_iconst (pc := 94) dX12_commonOf_94 ?_
              refine tz_icmp_le (pc := 95) (tgt := 117) dX12_commonOf_95 (by decide) (by omega) (by decide) (fun h_95 => ?_) (fun h_95 => ?_)
              · refine tz_iconst (pc := 117) dX12_commonOf_117 ?_
                refine tz_istore (pc := 118) (L2 := [_, _, _, _, _, _, _]) dX12_commonOf_118 (by decide) rfl ?_
                refine tz_iload_n (pc := 120) dX12_commonOf_120 rfl rfl ?_
                refine tz_iconst (pc := 121) dX12_commonOf_121 ?_
                refine tz_icmp_le (pc := 122) (tgt := 144) dX12_commonOf_122 (by decide) (by omega) (by decide) (fun h_122 => ?_) (fun h_122 => ?_)
                · refine tz_iconst (pc := 144) dX12_commonOf_144 ?_
                  refine tz_istore (pc := 145) (L2 := [_, _, _, _, _, _, _]) dX12_commonOf_145 (by decide) rfl ?_
                  refine tz_aload_n (pc := 147) dX12_commonOf_147 rfl rfl ?_
                  refine tz_fI (pc := 148) (kz := 33) (v := (J 164 33)) dX12_commonOf_148 fl_X12_195 i_164_33 rfl rfl (fun r_148 => ?_)
                  refine tz_if_eq (pc := 151) (tgt := 158) dX12_commonOf_151 (by decide) (by omega) (fun h_151 => ?_) (fun h_151 => ?_)
                  · refine tz_aload_n (pc := 158) dX12_commonOf_158 rfl rfl ?_
                    refine tz_iload_n (pc := 159) dX12_commonOf_159 rfl rfl ?_
                    refine tz_iload (pc := 160) dX12_commonOf_160 rfl ?_
                    refine tz_iload (pc := 162) dX12_commonOf_162 rfl ?_
                    refine tz_iload (pc := 164) dX12_commonOf_164 rfl ?_
                    have l0_166 := (g0).1.2
                    have t0_166 := (g0).1.1.told
                    refine tz_cV (pc := 166) (o_remade hl n _ _ _ _ _ (by omega) (by omega) (by omega) (by omega) s m (g0).1.1 (((g0).2.2.1.2.2.1 9 (by decide)).trans h9s) (by omega) (fun q9 => by have e9 := (g0).ar hs ((g0).2.2.1.2.2.2 170 rfl); rw [e9]; omega)) vl_X12_152 dX12_commonOf_166 o_164 rfl rfl (Nat.le_of_ble_eq_true rfl) ⟨(show 3 + 1 ≤ 4 + 1 * (r9 + 1) by omega), (show 8 + (5 + 11) + 40 * (3) ≤ 40 * (4 + 1 * (r9 + 1)) by omega)⟩ rfl rfl (Nat.le_of_ble_eq_true rfl) (Nat.le_of_ble_eq_true rfl) (fun r9 J_166 hq9 => ?_)
                    obtain ⟨z_166, rfl, hz_166, m_166, g_166, h_166, x_166⟩ := hq9
                    have q_166 := MG.tr g0 (MG.mono g_166 (fun _ h => by simp at h) (fun _ h => by simp at h) (fun _ h => h))
                    have f_166 := g_166.2.2.2
                    have l_166 := g_166.1.2
                    exact tz_iret (pc := 169) (z := z_166) dX12_commonOf_169 rfl (Nat.le_of_ble_eq_true rfl) (Nat.le_of_ble_eq_true rfl) ⟨Nat.le_refl _, Nat.le_add_right _ _⟩ ⟨_, rfl, (by omega), ⟨m_166, q_166, fun q9 q8 => h_166 q9, fun q9 => by rw [g_166.2.2.1.2.2.1 33 (by decide)] at q9; omega, by rw [g_166.2.2.1.2.2.1 32 (by decide)]; exact h0, fun k hk => rc_k hM hs hk (by omega) (by omega) (fun k9 L0 c hk9 => rc_end (k := k9) (A := mar J 0 0 u) (zf := zf3 (0) (0) (0)) (rcS.s (rcS.s (rcS.s (rc_s (by omega) (by omega) c) (Or.inr ⟨by show ¬ ((0 : Nat) : Int) < _; omega, rfl, rfl⟩)) (Or.inr ⟨by show ¬ ((1 : Nat) : Int) < _; omega, rfl, rfl⟩)) (Or.inr ⟨by show ¬ ((2 : Nat) : Int) < _; omega, rfl, rfl⟩)) (by rw [(hM.oa hs).1, (hM.oa ht).1]; omega) (by omega) (hM.oa hs).2 (Or.inr ⟨by omega, by have e7 := x_166; rw [show J 166 (0 + u) = J 166 (0 + u) from ((g0).2.1 u hs.1 hs.2).1.1, ← (hM.oa hs).1] at e7; exact e7, g_166.2.2.1.2.2.1 33 (by decide), g_166.2.2.1.2.2.1 32 (by decide), g_166.2.2.1.2.2.2 182 rfl⟩))⟩⟩
                  · refine tz_iconst (pc := 154) dX12_commonOf_154 ?_
                    refine tz_goto (pc := 155) (tgt := 169) dX12_commonOf_155 (by decide) ?_
                    exact tz_iret (pc := 169) (z := 0) dX12_commonOf_169 rfl (Nat.le_of_ble_eq_true rfl) (Nat.le_of_ble_eq_true rfl) ⟨Nat.le_refl _, Nat.le_add_right _ _⟩ ⟨_, rfl, (by decide), ⟨m, g0, fun q9 q8 => by omega, fun q9 => by omega, h0, fun k hk => ⟨fun _ => rfl, fun a b => by exfalso; omega⟩⟩⟩
                · refine tz_aload_n (pc := 125) dX12_commonOf_125 rfl rfl ?_
                  refine tz_aload_n (pc := 126) dX12_commonOf_126 rfl rfl ?_
                  refine tz_iload_n (pc := 127) dX12_commonOf_127 rfl rfl ?_
                  refine tz_iconst (pc := 128) dX12_commonOf_128 ?_
                  refine tz_cV (pc := 129) (m_arg hl n _ _ _ (by omega) (by decide) 0 0 0 s m hM (by omega) (by omega)) vl_X12_88 dX12_commonOf_129 o_164 rfl rfl (Nat.le_of_ble_eq_true rfl) ⟨(show 0 + 1 ≤ 4 + 1 * (r9 + 1) by omega), (show 8 + (3 + 11) + 40 * (0) ≤ 40 * (4 + 1 * (r9 + 1)) by omega)⟩ rfl rfl (Nat.le_of_ble_eq_true rfl) (Nat.le_of_ble_eq_true rfl) (fun r9 J_129 hq9 => ?_)
                  obtain ⟨z_129, rfl, hz_129, rfl, rfl⟩ := hq9
                  refine tz_aload_n (pc := 132) dX12_commonOf_132 rfl rfl ?_
                  refine tz_iload_n (pc := 133) dX12_commonOf_133 rfl rfl ?_
                  refine tz_iconst (pc := 134) dX12_commonOf_134 ?_
                  refine tz_cV (pc := 135) (m_arg hl n _ _ _ (by omega) (by decide) 0 0 0 s m hM (by omega) (by omega)) vl_X12_88 dX12_commonOf_135 o_164 rfl rfl (Nat.le_of_ble_eq_true rfl) ⟨(show 0 + 1 ≤ 4 + 1 * (r9 + 1) by omega), (show 8 + (3 + 11) + 40 * (0) ≤ 40 * (4 + 1 * (r9 + 1)) by omega)⟩ rfl rfl (Nat.le_of_ble_eq_true rfl) (Nat.le_of_ble_eq_true rfl) (fun r9 J_135 hq9 => ?_)
                  obtain ⟨z_135, rfl, hz_135, rfl, rfl⟩ := hq9
                  have l0_138 := (g0).1.2
                  have t0_138 := (g0).1.1.told
                  have a_138 := hM.arg (t := u) (i := 2) hs (by omega)
                  have e_138 := hM.arg (t := t) (i := 2) ht (by omega)
                  have o_138 : 0 ≤ J 164 32 ∧ J 164 32 ≤ 8 := h0
                  refine tz_cV (pc := 138) (ih _ _ _ (by omega) (by omega) s m (g0).1.1 (((g0).2.2.1.2.2.1 9 (by decide)).trans h9s) (by omega) (by omega) o_138 (by rw [((g0).2.1 _ (by omega) (by omega)).1.2]; omega)) vl_X12_201 dX12_commonOf_138 o_164 rfl rfl (Nat.le_of_ble_eq_true rfl) ⟨(show (4 + 1 * r9) + 1 ≤ 4 + 1 * (r9 + 1) by omega), (show 8 + (7 + 11) + 40 * ((4 + 1 * r9)) ≤ 40 * (4 + 1 * (r9 + 1)) by omega)⟩ rfl rfl (Nat.le_of_ble_eq_true rfl) (Nat.le_of_ble_eq_true rfl) (fun r9 J_138 hq9 => ?_)
                  obtain ⟨z_138, rfl, hz_138, m_138, g_138, h_138, i_138, k_138, x_138⟩ := hq9
                  have q_138 := MG.tr g0 g_138
                  have f_138 := g_138.2.2.2
                  have l_138 := g_138.1.2
                  have y_138 : J 168 (0 + J 167 (3 * (0 + u) + 2)) = J 168 (0 + J 167 (3 * (0 + u) + 2)) := ((g0).2.1 _ (by omega) (by omega)).1.2
                  refine tz_goto (pc := 141) (tgt := 145) dX12_commonOf_141 (by decide) ?_
                  refine tz_istore (pc := 145) (L2 := [_, _, _, _, _, _, _]) dX12_commonOf_145 (by decide) rfl ?_
                  refine tz_aload_n (pc := 147) dX12_commonOf_147 rfl rfl ?_
                  refine tz_fI (pc := 148) (kz := 33) (v := (J_138 164 33)) dX12_commonOf_148 fl_X12_195 i_164_33 rfl rfl (fun r_148 => ?_)
                  refine tz_if_eq (pc := 151) (tgt := 158) dX12_commonOf_151 (by decide) (by omega) (fun h_151 => ?_) (fun h_151 => ?_)
                  · refine tz_aload_n (pc := 158) dX12_commonOf_158 rfl rfl ?_
                    refine tz_iload_n (pc := 159) dX12_commonOf_159 rfl rfl ?_
                    refine tz_iload (pc := 160) dX12_commonOf_160 rfl ?_
                    refine tz_iload (pc := 162) dX12_commonOf_162 rfl ?_
                    refine tz_iload (pc := 164) dX12_commonOf_164 rfl ?_
                    have l0_166 := (q_138).1.2
                    have t0_166 := (q_138).1.1.told
                    refine tz_cV (pc := 166) (o_remade hl n _ _ _ _ _ (by omega) (by omega) (by omega) (by omega) s m_138 (q_138).1.1 (((q_138).2.2.1.2.2.1 9 (by decide)).trans h9s) (by omega) (fun q9 => by have e9 := (q_138).ar hs ((q_138).2.2.1.2.2.2 170 rfl); rw [e9]; omega)) vl_X12_152 dX12_commonOf_166 o_164 rfl rfl (Nat.le_of_ble_eq_true rfl) ⟨(show 3 + 1 ≤ 4 + 1 * (r9 + 1) by omega), (show 8 + (5 + 11) + 40 * (3) ≤ 40 * (4 + 1 * (r9 + 1)) by omega)⟩ rfl rfl (Nat.le_of_ble_eq_true rfl) (Nat.le_of_ble_eq_true rfl) (fun r9 J_166 hq9 => ?_)
                    obtain ⟨z_166, rfl, hz_166, m_166, g_166, h_166, x_166⟩ := hq9
                    have q_166 := MG.tr q_138 (MG.mono g_166 (fun _ h => by simp at h) (fun _ h => by simp at h) (fun _ h => h))
                    have f_166 := g_166.2.2.2
                    have l_166 := g_166.1.2
                    exact tz_iret (pc := 169) (z := z_166) dX12_commonOf_169 rfl (Nat.le_of_ble_eq_true rfl) (Nat.le_of_ble_eq_true rfl) ⟨Nat.le_refl _, Nat.le_add_right _ _⟩ ⟨_, rfl, (by omega), ⟨m_166, q_166, fun q9 q8 => h_166 q9, fun q9 => by rw [g_166.2.2.1.2.2.1 33 (by decide)] at q9; omega, by rw [g_166.2.2.1.2.2.1 32 (by decide)]; exact k_138, fun k hk => rc_k hM hs hk (by omega) (by omega) (fun k9 L0 c hk9 => rc_end (k := k9) (A := mar J 0 0 u) (zf := zf3 (0) (0) (z_138)) (rcS.s (rcS.s (rcS.s (rc_s (by omega) (by omega) c) (Or.inr ⟨by show ¬ ((0 : Nat) : Int) < _; omega, rfl, rfl⟩)) (Or.inr ⟨by show ¬ ((1 : Nat) : Int) < _; omega, rfl, rfl⟩)) (Or.inl (rc_a hM g0 ((g0).2.2.1.2.2.2 170 rfl) hs ht (by omega) (by show ((2 : Nat) : Int) < _; omega) (x_138 k9 (by rw [y_138]; have d9 := (hM.td u hs.1 hs.2).2.2 2 (by decide) (by omega); dsimp only at d9; unfold mag at d9; omega))))) (by rw [(hM.oa hs).1, (hM.oa ht).1]; omega) (by omega) (hM.oa hs).2 (Or.inr ⟨by omega, by have e7 := x_166; rw [show J_138 166 (0 + u) = J 166 (0 + u) from ((q_138).2.1 u hs.1 hs.2).1.1, ← (hM.oa hs).1] at e7; exact e7, g_166.2.2.1.2.2.1 33 (by decide), g_166.2.2.1.2.2.1 32 (by decide), g_166.2.2.1.2.2.2 182 rfl⟩))⟩⟩
                  · refine tz_iconst (pc := 154) dX12_commonOf_154 ?_
                    refine tz_goto (pc := 155) (tgt := 169) dX12_commonOf_155 (by decide) ?_
                    exact tz_iret (pc := 169) (z := 0) dX12_commonOf_169 rfl (Nat.le_of_ble_eq_true rfl) (Nat.le_of_ble_eq_true rfl) ⟨Nat.le_refl _, Nat.le_add_right _ _⟩ ⟨_, rfl, (by decide), ⟨m_138, q_138, fun q9 q8 => by omega, fun q9 => by omega, k_138, fun k hk => rc_k hM hs hk (by omega) (by omega) (fun k9 L0 c hk9 => rc_end (k := k9) (A := mar J 0 0 u) (zf := zf3 (0) (0) (z_138)) (rcS.s (rcS.s (rcS.s (rc_s (by omega) (by omega) c) (Or.inr ⟨by show ¬ ((0 : Nat) : Int) < _; omega, rfl, rfl⟩)) (Or.inr ⟨by show ¬ ((1 : Nat) : Int) < _; omega, rfl, rfl⟩)) (Or.inl (rc_a hM g0 ((g0).2.2.1.2.2.2 170 rfl) hs ht (by omega) (by show ((2 : Nat) : Int) < _; omega) (x_138 k9 (by rw [y_138]; have d9 := (hM.td u hs.1 hs.2).2.2 2 (by decide) (by omega); dsimp only at d9; unfold mag at d9; omega))))) (by rw [(hM.oa hs).1, (hM.oa ht).1]; omega) (by omega) (hM.oa hs).2 (Or.inl ⟨by omega, rfl⟩))⟩⟩
              · refine tz_aload_n (pc := 98) dX12_commonOf_98 rfl rfl ?_
                refine tz_aload_n (pc := 99) dX12_commonOf_99 rfl rfl ?_
                refine tz_iload_n (pc := 100) dX12_commonOf_100 rfl rfl ?_
                refine tz_iconst (pc := 101) dX12_commonOf_101 ?_
                refine tz_cV (pc := 102) (m_arg hl n _ _ _ (by omega) (by decide) 0 0 0 s m hM (by omega) (by omega)) vl_X12_88 dX12_commonOf_102 o_164 rfl rfl (Nat.le_of_ble_eq_true rfl) ⟨(show 0 + 1 ≤ 4 + 1 * (r9 + 1) by omega), (show 8 + (3 + 11) + 40 * (0) ≤ 40 * (4 + 1 * (r9 + 1)) by omega)⟩ rfl rfl (Nat.le_of_ble_eq_true rfl) (Nat.le_of_ble_eq_true rfl) (fun r9 J_102 hq9 => ?_)
                obtain ⟨z_102, rfl, hz_102, rfl, rfl⟩ := hq9
                refine tz_aload_n (pc := 105) dX12_commonOf_105 rfl rfl ?_
                refine tz_iload_n (pc := 106) dX12_commonOf_106 rfl rfl ?_
                refine tz_iconst (pc := 107) dX12_commonOf_107 ?_
                refine tz_cV (pc := 108) (m_arg hl n _ _ _ (by omega) (by decide) 0 0 0 s m hM (by omega) (by omega)) vl_X12_88 dX12_commonOf_108 o_164 rfl rfl (Nat.le_of_ble_eq_true rfl) ⟨(show 0 + 1 ≤ 4 + 1 * (r9 + 1) by omega), (show 8 + (3 + 11) + 40 * (0) ≤ 40 * (4 + 1 * (r9 + 1)) by omega)⟩ rfl rfl (Nat.le_of_ble_eq_true rfl) (Nat.le_of_ble_eq_true rfl) (fun r9 J_108 hq9 => ?_)
                obtain ⟨z_108, rfl, hz_108, rfl, rfl⟩ := hq9
                have l0_111 := (g0).1.2
                have t0_111 := (g0).1.1.told
                have a_111 := hM.arg (t := u) (i := 1) hs (by omega)
                have e_111 := hM.arg (t := t) (i := 1) ht (by omega)
                have o_111 : 0 ≤ J 164 32 ∧ J 164 32 ≤ 8 := h0
                refine tz_cV (pc := 111) (ih _ _ _ (by omega) (by omega) s m (g0).1.1 (((g0).2.2.1.2.2.1 9 (by decide)).trans h9s) (by omega) (by omega) o_111 (by rw [((g0).2.1 _ (by omega) (by omega)).1.2]; omega)) vl_X12_201 dX12_commonOf_111 o_164 rfl rfl (Nat.le_of_ble_eq_true rfl) ⟨(show (4 + 1 * r9) + 1 ≤ 4 + 1 * (r9 + 1) by omega), (show 8 + (7 + 11) + 40 * ((4 + 1 * r9)) ≤ 40 * (4 + 1 * (r9 + 1)) by omega)⟩ rfl rfl (Nat.le_of_ble_eq_true rfl) (Nat.le_of_ble_eq_true rfl) (fun r9 J_111 hq9 => ?_)
                obtain ⟨z_111, rfl, hz_111, m_111, g_111, h_111, i_111, k_111, x_111⟩ := hq9
                have q_111 := MG.tr g0 g_111
                have f_111 := g_111.2.2.2
                have l_111 := g_111.1.2
                have y_111 : J 168 (0 + J 167 (3 * (0 + u) + 1)) = J 168 (0 + J 167 (3 * (0 + u) + 1)) := ((g0).2.1 _ (by omega) (by omega)).1.2
                refine tz_goto (pc := 114) (tgt := 118) dX12_commonOf_114 (by decide) ?_
                refine tz_istore (pc := 118) (L2 := [_, _, _, _, _, _, _]) dX12_commonOf_118 (by decide) rfl ?_
                refine tz_iload_n (pc := 120) dX12_commonOf_120 rfl rfl ?_
                refine tz_iconst (pc := 121) dX12_commonOf_121 ?_
                refine tz_icmp_le (pc := 122) (tgt := 144) dX12_commonOf_122 (by decide) (by omega) (by decide) (fun h_122 => ?_) (fun h_122 => ?_)
                · refine tz_iconst (pc := 144) dX12_commonOf_144 ?_
                  refine tz_istore (pc := 145) (L2 := [_, _, _, _, _, _, _]) dX12_commonOf_145 (by decide) rfl ?_
                  refine tz_aload_n (pc := 147) dX12_commonOf_147 rfl rfl ?_
                  refine tz_fI (pc := 148) (kz := 33) (v := (J_111 164 33)) dX12_commonOf_148 fl_X12_195 i_164_33 rfl rfl (fun r_148 => ?_)
                  refine tz_if_eq (pc := 151) (tgt := 158) dX12_commonOf_151 (by decide) (by omega) (fun h_151 => ?_) (fun h_151 => ?_)
                  · refine tz_aload_n (pc := 158) dX12_commonOf_158 rfl rfl ?_
                    refine tz_iload_n (pc := 159) dX12_commonOf_159 rfl rfl ?_
                    refine tz_iload (pc := 160) dX12_commonOf_160 rfl ?_
                    refine tz_iload (pc := 162) dX12_commonOf_162 rfl ?_
                    refine tz_iload (pc := 164) dX12_commonOf_164 rfl ?_
                    have l0_166 := (q_111).1.2
                    have t0_166 := (q_111).1.1.told
                    refine tz_cV (pc := 166) (o_remade hl n _ _ _ _ _ (by omega) (by omega) (by omega) (by omega) s m_111 (q_111).1.1 (((q_111).2.2.1.2.2.1 9 (by decide)).trans h9s) (by omega) (fun q9 => by have e9 := (q_111).ar hs ((q_111).2.2.1.2.2.2 170 rfl); rw [e9]; omega)) vl_X12_152 dX12_commonOf_166 o_164 rfl rfl (Nat.le_of_ble_eq_true rfl) ⟨(show 3 + 1 ≤ 4 + 1 * (r9 + 1) by omega), (show 8 + (5 + 11) + 40 * (3) ≤ 40 * (4 + 1 * (r9 + 1)) by omega)⟩ rfl rfl (Nat.le_of_ble_eq_true rfl) (Nat.le_of_ble_eq_true rfl) (fun r9 J_166 hq9 => ?_)
                    obtain ⟨z_166, rfl, hz_166, m_166, g_166, h_166, x_166⟩ := hq9
                    have q_166 := MG.tr q_111 (MG.mono g_166 (fun _ h => by simp at h) (fun _ h => by simp at h) (fun _ h => h))
                    have f_166 := g_166.2.2.2
                    have l_166 := g_166.1.2
                    exact tz_iret (pc := 169) (z := z_166) dX12_commonOf_169 rfl (Nat.le_of_ble_eq_true rfl) (Nat.le_of_ble_eq_true rfl) ⟨Nat.le_refl _, Nat.le_add_right _ _⟩ ⟨_, rfl, (by omega), ⟨m_166, q_166, fun q9 q8 => h_166 q9, fun q9 => by rw [g_166.2.2.1.2.2.1 33 (by decide)] at q9; omega, by rw [g_166.2.2.1.2.2.1 32 (by decide)]; exact k_111, fun k hk => rc_k hM hs hk (by omega) (by omega) (fun k9 L0 c hk9 => rc_end (k := k9) (A := mar J 0 0 u) (zf := zf3 (0) (z_111) (0)) (rcS.s (rcS.s (rcS.s (rc_s (by omega) (by omega) c) (Or.inr ⟨by show ¬ ((0 : Nat) : Int) < _; omega, rfl, rfl⟩)) (Or.inl (rc_a hM g0 ((g0).2.2.1.2.2.2 170 rfl) hs ht (by omega) (by show ((1 : Nat) : Int) < _; omega) (x_111 k9 (by rw [y_111]; have d9 := (hM.td u hs.1 hs.2).2.2 1 (by decide) (by omega); dsimp only at d9; unfold mag at d9; omega))))) (Or.inr ⟨by show ¬ ((2 : Nat) : Int) < _; omega, rfl, rfl⟩)) (by rw [(hM.oa hs).1, (hM.oa ht).1]; omega) (by omega) (hM.oa hs).2 (Or.inr ⟨by omega, by have e7 := x_166; rw [show J_111 166 (0 + u) = J 166 (0 + u) from ((q_111).2.1 u hs.1 hs.2).1.1, ← (hM.oa hs).1] at e7; exact e7, g_166.2.2.1.2.2.1 33 (by decide), g_166.2.2.1.2.2.1 32 (by decide), g_166.2.2.1.2.2.2 182 rfl⟩))⟩⟩
                  · refine tz_iconst (pc := 154) dX12_commonOf_154 ?_
                    refine tz_goto (pc := 155) (tgt := 169) dX12_commonOf_155 (by decide) ?_
                    exact tz_iret (pc := 169) (z := 0) dX12_commonOf_169 rfl (Nat.le_of_ble_eq_true rfl) (Nat.le_of_ble_eq_true rfl) ⟨Nat.le_refl _, Nat.le_add_right _ _⟩ ⟨_, rfl, (by decide), ⟨m_111, q_111, fun q9 q8 => by omega, fun q9 => by omega, k_111, fun k hk => rc_k hM hs hk (by omega) (by omega) (fun k9 L0 c hk9 => rc_end (k := k9) (A := mar J 0 0 u) (zf := zf3 (0) (z_111) (0)) (rcS.s (rcS.s (rcS.s (rc_s (by omega) (by omega) c) (Or.inr ⟨by show ¬ ((0 : Nat) : Int) < _; omega, rfl, rfl⟩)) (Or.inl (rc_a hM g0 ((g0).2.2.1.2.2.2 170 rfl) hs ht (by omega) (by show ((1 : Nat) : Int) < _; omega) (x_111 k9 (by rw [y_111]; have d9 := (hM.td u hs.1 hs.2).2.2 1 (by decide) (by omega); dsimp only at d9; unfold mag at d9; omega))))) (Or.inr ⟨by show ¬ ((2 : Nat) : Int) < _; omega, rfl, rfl⟩)) (by rw [(hM.oa hs).1, (hM.oa ht).1]; omega) (by omega) (hM.oa hs).2 (Or.inl ⟨by omega, rfl⟩))⟩⟩
                · refine tz_aload_n (pc := 125) dX12_commonOf_125 rfl rfl ?_
                  refine tz_aload_n (pc := 126) dX12_commonOf_126 rfl rfl ?_
                  refine tz_iload_n (pc := 127) dX12_commonOf_127 rfl rfl ?_
                  refine tz_iconst (pc := 128) dX12_commonOf_128 ?_
                  have l_129 := (q_111).1.2
                  have tt_129 := (q_111).1.1.told
                  refine tz_cV (pc := 129) (m_arg hl n _ _ _ (by omega) (by decide) 0 0 0 s m_111 (q_111).1.1 (by omega) (by omega)) vl_X12_88 dX12_commonOf_129 o_164 rfl rfl (Nat.le_of_ble_eq_true rfl) ⟨(show 0 + 1 ≤ 4 + 1 * (r9 + 1) by omega), (show 8 + (3 + 11) + 40 * (0) ≤ 40 * (4 + 1 * (r9 + 1)) by omega)⟩ rfl rfl (Nat.le_of_ble_eq_true rfl) (Nat.le_of_ble_eq_true rfl) (fun r9 J_129 hq9 => ?_)
                  obtain ⟨z_129, rfl, hz_129, rfl, hv_129⟩ := hq9
                  have he_129 : J_111 167 (3 * (0 + u) + 2) = J 167 (3 * (0 + u) + 2) := ((q_111).2.1 u hs.1 hs.2).2 2 (by omega) (by omega)
                  rw [he_129] at hv_129
                  obtain rfl : J 167 (3 * (0 + u) + 2) = z_129 := hv_129
                  refine tz_aload_n (pc := 132) dX12_commonOf_132 rfl rfl ?_
                  refine tz_iload_n (pc := 133) dX12_commonOf_133 rfl rfl ?_
                  refine tz_iconst (pc := 134) dX12_commonOf_134 ?_
                  have l_135 := (q_111).1.2
                  have tt_135 := (q_111).1.1.told
                  refine tz_cV (pc := 135) (m_arg hl n _ _ _ (by omega) (by decide) 0 0 0 s m_111 (q_111).1.1 (by omega) (by omega)) vl_X12_88 dX12_commonOf_135 o_164 rfl rfl (Nat.le_of_ble_eq_true rfl) ⟨(show 0 + 1 ≤ 4 + 1 * (r9 + 1) by omega), (show 8 + (3 + 11) + 40 * (0) ≤ 40 * (4 + 1 * (r9 + 1)) by omega)⟩ rfl rfl (Nat.le_of_ble_eq_true rfl) (Nat.le_of_ble_eq_true rfl) (fun r9 J_135 hq9 => ?_)
                  obtain ⟨z_135, rfl, hz_135, rfl, hv_135⟩ := hq9
                  have he_135 : J_111 167 (3 * (0 + t) + 2) = J 167 (3 * (0 + t) + 2) := ((q_111).2.1 t ht.1 ht.2).2 2 (by omega) (by omega)
                  rw [he_135] at hv_135
                  obtain rfl : J 167 (3 * (0 + t) + 2) = z_135 := hv_135
                  have l0_138 := (q_111).1.2
                  have t0_138 := (q_111).1.1.told
                  have a_138 := hM.arg (t := u) (i := 2) hs (by omega)
                  have e_138 := hM.arg (t := t) (i := 2) ht (by omega)
                  have o_138 : 0 ≤ J_111 164 32 ∧ J_111 164 32 ≤ 8 := k_111
                  refine tz_cV (pc := 138) (ih _ _ _ (by omega) (by omega) s m_111 (q_111).1.1 (((q_111).2.2.1.2.2.1 9 (by decide)).trans h9s) (by omega) (by omega) o_138 (by rw [((q_111).2.1 _ (by omega) (by omega)).1.2]; omega)) vl_X12_201 dX12_commonOf_138 o_164 rfl rfl (Nat.le_of_ble_eq_true rfl) ⟨(show (4 + 1 * r9) + 1 ≤ 4 + 1 * (r9 + 1) by omega), (show 8 + (7 + 11) + 40 * ((4 + 1 * r9)) ≤ 40 * (4 + 1 * (r9 + 1)) by omega)⟩ rfl rfl (Nat.le_of_ble_eq_true rfl) (Nat.le_of_ble_eq_true rfl) (fun r9 J_138 hq9 => ?_)
                  obtain ⟨z_138, rfl, hz_138, m_138, g_138, h_138, i_138, k_138, x_138⟩ := hq9
                  have q_138 := MG.tr q_111 g_138
                  have f_138 := g_138.2.2.2
                  have l_138 := g_138.1.2
                  have y_138 : J_111 168 (0 + J 167 (3 * (0 + u) + 2)) = J 168 (0 + J 167 (3 * (0 + u) + 2)) := ((q_111).2.1 _ (by omega) (by omega)).1.2
                  refine tz_goto (pc := 141) (tgt := 145) dX12_commonOf_141 (by decide) ?_
                  refine tz_istore (pc := 145) (L2 := [_, _, _, _, _, _, _]) dX12_commonOf_145 (by decide) rfl ?_
                  refine tz_aload_n (pc := 147) dX12_commonOf_147 rfl rfl ?_
                  refine tz_fI (pc := 148) (kz := 33) (v := (J_138 164 33)) dX12_commonOf_148 fl_X12_195 i_164_33 rfl rfl (fun r_148 => ?_)
                  refine tz_if_eq (pc := 151) (tgt := 158) dX12_commonOf_151 (by decide) (by omega) (fun h_151 => ?_) (fun h_151 => ?_)
                  · refine tz_aload_n (pc := 158) dX12_commonOf_158 rfl rfl ?_
                    refine tz_iload_n (pc := 159) dX12_commonOf_159 rfl rfl ?_
                    refine tz_iload (pc := 160) dX12_commonOf_160 rfl ?_
                    refine tz_iload (pc := 162) dX12_commonOf_162 rfl ?_
                    refine tz_iload (pc := 164) dX12_commonOf_164 rfl ?_
                    have l0_166 := (q_138).1.2
                    have t0_166 := (q_138).1.1.told
                    refine tz_cV (pc := 166) (o_remade hl n _ _ _ _ _ (by omega) (by omega) (by omega) (by omega) s m_138 (q_138).1.1 (((q_138).2.2.1.2.2.1 9 (by decide)).trans h9s) (by omega) (fun q9 => by have e9 := (q_138).ar hs ((q_138).2.2.1.2.2.2 170 rfl); rw [e9]; omega)) vl_X12_152 dX12_commonOf_166 o_164 rfl rfl (Nat.le_of_ble_eq_true rfl) ⟨(show 3 + 1 ≤ 4 + 1 * (r9 + 1) by omega), (show 8 + (5 + 11) + 40 * (3) ≤ 40 * (4 + 1 * (r9 + 1)) by omega)⟩ rfl rfl (Nat.le_of_ble_eq_true rfl) (Nat.le_of_ble_eq_true rfl) (fun r9 J_166 hq9 => ?_)
                    obtain ⟨z_166, rfl, hz_166, m_166, g_166, h_166, x_166⟩ := hq9
                    have q_166 := MG.tr q_138 (MG.mono g_166 (fun _ h => by simp at h) (fun _ h => by simp at h) (fun _ h => h))
                    have f_166 := g_166.2.2.2
                    have l_166 := g_166.1.2
                    exact tz_iret (pc := 169) (z := z_166) dX12_commonOf_169 rfl (Nat.le_of_ble_eq_true rfl) (Nat.le_of_ble_eq_true rfl) ⟨Nat.le_refl _, Nat.le_add_right _ _⟩ ⟨_, rfl, (by omega), ⟨m_166, q_166, fun q9 q8 => h_166 q9, fun q9 => by rw [g_166.2.2.1.2.2.1 33 (by decide)] at q9; omega, by rw [g_166.2.2.1.2.2.1 32 (by decide)]; exact k_138, fun k hk => rc_k hM hs hk (by omega) (by omega) (fun k9 L0 c hk9 => rc_end (k := k9) (A := mar J 0 0 u) (zf := zf3 (0) (z_111) (z_138)) (rcS.s (rcS.s (rcS.s (rc_s (by omega) (by omega) c) (Or.inr ⟨by show ¬ ((0 : Nat) : Int) < _; omega, rfl, rfl⟩)) (Or.inl (rc_a hM g0 ((g0).2.2.1.2.2.2 170 rfl) hs ht (by omega) (by show ((1 : Nat) : Int) < _; omega) (x_111 k9 (by rw [y_111]; have d9 := (hM.td u hs.1 hs.2).2.2 1 (by decide) (by omega); dsimp only at d9; unfold mag at d9; omega))))) (Or.inl (rc_a hM q_111 ((q_111).2.2.1.2.2.2 170 rfl) hs ht (by omega) (by show ((2 : Nat) : Int) < _; omega) (x_138 k9 (by rw [y_138]; have d9 := (hM.td u hs.1 hs.2).2.2 2 (by decide) (by omega); dsimp only at d9; unfold mag at d9; omega))))) (by rw [(hM.oa hs).1, (hM.oa ht).1]; omega) (by omega) (hM.oa hs).2 (Or.inr ⟨by omega, by have e7 := x_166; rw [show J_138 166 (0 + u) = J 166 (0 + u) from ((q_138).2.1 u hs.1 hs.2).1.1, ← (hM.oa hs).1] at e7; exact e7, g_166.2.2.1.2.2.1 33 (by decide), g_166.2.2.1.2.2.1 32 (by decide), g_166.2.2.1.2.2.2 182 rfl⟩))⟩⟩
                  · refine tz_iconst (pc := 154) dX12_commonOf_154 ?_
                    refine tz_goto (pc := 155) (tgt := 169) dX12_commonOf_155 (by decide) ?_
                    exact tz_iret (pc := 169) (z := 0) dX12_commonOf_169 rfl (Nat.le_of_ble_eq_true rfl) (Nat.le_of_ble_eq_true rfl) ⟨Nat.le_refl _, Nat.le_add_right _ _⟩ ⟨_, rfl, (by decide), ⟨m_138, q_138, fun q9 q8 => by omega, fun q9 => by omega, k_138, fun k hk => rc_k hM hs hk (by omega) (by omega) (fun k9 L0 c hk9 => rc_end (k := k9) (A := mar J 0 0 u) (zf := zf3 (0) (z_111) (z_138)) (rcS.s (rcS.s (rcS.s (rc_s (by omega) (by omega) c) (Or.inr ⟨by show ¬ ((0 : Nat) : Int) < _; omega, rfl, rfl⟩)) (Or.inl (rc_a hM g0 ((g0).2.2.1.2.2.2 170 rfl) hs ht (by omega) (by show ((1 : Nat) : Int) < _; omega) (x_111 k9 (by rw [y_111]; have d9 := (hM.td u hs.1 hs.2).2.2 1 (by decide) (by omega); dsimp only at d9; unfold mag at d9; omega))))) (Or.inl (rc_a hM q_111 ((q_111).2.2.1.2.2.2 170 rfl) hs ht (by omega) (by show ((2 : Nat) : Int) < _; omega) (x_138 k9 (by rw [y_138]; have d9 := (hM.td u hs.1 hs.2).2.2 2 (by decide) (by omega); dsimp only at d9; unfold mag at d9; omega))))) (by rw [(hM.oa hs).1, (hM.oa ht).1]; omega) (by omega) (hM.oa hs).2 (Or.inl ⟨by omega, rfl⟩))⟩⟩
            · refine tz_aload_n (pc := 71) dX12_commonOf_71 rfl rfl ?_
              refine tz_aload_n (pc := 72) dX12_commonOf_72 rfl rfl ?_
              refine tz_iload_n (pc := 73) dX12_commonOf_73 rfl rfl ?_
              refine tz_iconst (pc := 74) dX12_commonOf_74 ?_
              refine tz_cV (pc := 75) (m_arg hl n _ _ _ (by omega) (by decide) 0 0 0 s m hM (by omega) (by omega)) vl_X12_88 dX12_commonOf_75 o_164 rfl rfl (Nat.le_of_ble_eq_true rfl) ⟨(show 0 + 1 ≤ 4 + 1 * (r9 + 1) by omega), (show 8 + (3 + 11) + 40 * (0) ≤ 40 * (4 + 1 * (r9 + 1)) by omega)⟩ rfl rfl (Nat.le_of_ble_eq_true rfl) (Nat.le_of_ble_eq_true rfl) (fun r9 J_75 hq9 => ?_)
              obtain ⟨z_75, rfl, hz_75, rfl, rfl⟩ := hq9
              refine tz_aload_n (pc := 78) dX12_commonOf_78 rfl rfl ?_
              refine tz_iload_n (pc := 79) dX12_commonOf_79 rfl rfl ?_
              refine tz_iconst (pc := 80) dX12_commonOf_80 ?_
              refine tz_cV (pc := 81) (m_arg hl n _ _ _ (by omega) (by decide) 0 0 0 s m hM (by omega) (by omega)) vl_X12_88 dX12_commonOf_81 o_164 rfl rfl (Nat.le_of_ble_eq_true rfl) ⟨(show 0 + 1 ≤ 4 + 1 * (r9 + 1) by omega), (show 8 + (3 + 11) + 40 * (0) ≤ 40 * (4 + 1 * (r9 + 1)) by omega)⟩ rfl rfl (Nat.le_of_ble_eq_true rfl) (Nat.le_of_ble_eq_true rfl) (fun r9 J_81 hq9 => ?_)
              obtain ⟨z_81, rfl, hz_81, rfl, rfl⟩ := hq9
              have l0_84 := (g0).1.2
              have t0_84 := (g0).1.1.told
              have a_84 := hM.arg (t := u) (i := 0) hs (by omega)
              have e_84 := hM.arg (t := t) (i := 0) ht (by omega)
              have o_84 : 0 ≤ J 164 32 ∧ J 164 32 ≤ 8 := h0
              refine tz_cV (pc := 84) (ih _ _ _ (by omega) (by omega) s m (g0).1.1 (((g0).2.2.1.2.2.1 9 (by decide)).trans h9s) (by omega) (by omega) o_84 (by rw [((g0).2.1 _ (by omega) (by omega)).1.2]; omega)) vl_X12_201 dX12_commonOf_84 o_164 rfl rfl (Nat.le_of_ble_eq_true rfl) ⟨(show (4 + 1 * r9) + 1 ≤ 4 + 1 * (r9 + 1) by omega), (show 8 + (7 + 11) + 40 * ((4 + 1 * r9)) ≤ 40 * (4 + 1 * (r9 + 1)) by omega)⟩ rfl rfl (Nat.le_of_ble_eq_true rfl) (Nat.le_of_ble_eq_true rfl) (fun r9 J_84 hq9 => ?_)
              obtain ⟨z_84, rfl, hz_84, m_84, g_84, h_84, i_84, k_84, x_84⟩ := hq9
              have q_84 := MG.tr g0 g_84
              have f_84 := g_84.2.2.2
              have l_84 := g_84.1.2
              have y_84 : J 168 (0 + J 167 (3 * (0 + u) + 0)) = J 168 (0 + J 167 (3 * (0 + u) + 0)) := ((g0).2.1 _ (by omega) (by omega)).1.2
              refine tz_goto (pc := 87) (tgt := 91) dX12_commonOf_87 (by decide) ?_
              refine tz_istore (pc := 91) (L2 := [_, _, _, _, _, _, _]) dX12_commonOf_91 (by decide) rfl ?_
              refine tz_iload_n (pc := 93) dX12_commonOf_93 rfl rfl ?_
              refine tz_iconst (pc := 94) dX12_commonOf_94 ?_
              refine tz_icmp_le (pc := 95) (tgt := 117) dX12_commonOf_95 (by decide) (by omega) (by decide) (fun h_95 => ?_) (fun h_95 => ?_)
              · refine tz_iconst (pc := 117) dX12_commonOf_117 ?_
                refine tz_istore (pc := 118) (L2 := [_, _, _, _, _, _, _]) dX12_commonOf_118 (by decide) rfl ?_
                refine tz_iload_n (pc := 120) dX12_commonOf_120 rfl rfl ?_
                refine tz_iconst (pc := 121) dX12_commonOf_121 ?_
                refine tz_icmp_le (pc := 122) (tgt := 144) dX12_commonOf_122 (by decide) (by omega) (by decide) (fun h_122 => ?_) (fun h_122 => ?_)
                · refine tz_iconst (pc := 144) dX12_commonOf_144 ?_
                  refine tz_istore (pc := 145) (L2 := [_, _, _, _, _, _, _]) dX12_commonOf_145 (by decide) rfl ?_
                  refine tz_aload_n (pc := 147) dX12_commonOf_147 rfl rfl ?_
                  refine tz_fI (pc := 148) (kz := 33) (v := (J_84 164 33)) dX12_commonOf_148 fl_X12_195 i_164_33 rfl rfl (fun r_148 => ?_)
                  refine tz_if_eq (pc := 151) (tgt := 158) dX12_commonOf_151 (by decide) (by omega) (fun h_151 => ?_) (fun h_151 => ?_)
                  · refine tz_aload_n (pc := 158) dX12_commonOf_158 rfl rfl ?_
                    refine tz_iload_n (pc := 159) dX12_commonOf_159 rfl rfl ?_
                    refine tz_iload (pc := 160) dX12_commonOf_160 rfl ?_
                    refine tz_iload (pc := 162) dX12_commonOf_162 rfl ?_
                    refine tz_iload (pc := 164) dX12_commonOf_164 rfl ?_
                    have l0_166 := (q_84).1.2
                    have t0_166 := (q_84).1.1.told
                    refine tz_cV (pc := 166) (o_remade hl n _ _ _ _ _ (by omega) (by omega) (by omega) (by omega) s m_84 (q_84).1.1 (((q_84).2.2.1.2.2.1 9 (by decide)).trans h9s) (by omega) (fun q9 => by have e9 := (q_84).ar hs ((q_84).2.2.1.2.2.2 170 rfl); rw [e9]; omega)) vl_X12_152 dX12_commonOf_166 o_164 rfl rfl (Nat.le_of_ble_eq_true rfl) ⟨(show 3 + 1 ≤ 4 + 1 * (r9 + 1) by omega), (show 8 + (5 + 11) + 40 * (3) ≤ 40 * (4 + 1 * (r9 + 1)) by omega)⟩ rfl rfl (Nat.le_of_ble_eq_true rfl) (Nat.le_of_ble_eq_true rfl) (fun r9 J_166 hq9 => ?_)
                    obtain ⟨z_166, rfl, hz_166, m_166, g_166, h_166, x_166⟩ := hq9
                    have q_166 := MG.tr q_84 (MG.mono g_166 (fun _ h => by simp at h) (fun _ h => by simp at h) (fun _ h => h))
                    have f_166 := g_166.2.2.2
                    have l_166 := g_166.1.2
                    exact tz_iret (pc := 169) (z := z_166) dX12_commonOf_169 rfl (Nat.le_of_ble_eq_true rfl) (Nat.le_of_ble_eq_true rfl) ⟨Nat.le_refl _, Nat.le_add_right _ _⟩ ⟨_, rfl, (by omega), ⟨m_166, q_166, fun q9 q8 => h_166 q9, fun q9 => by rw [g_166.2.2.1.2.2.1 33 (by decide)] at q9; omega, by rw [g_166.2.2.1.2.2.1 32 (by decide)]; exact k_84, fun k hk => rc_k hM hs hk (by omega) (by omega) (fun k9 L0 c hk9 => rc_end (k := k9) (A := mar J 0 0 u) (zf := zf3 (z_84) (0) (0)) (rcS.s (rcS.s (rcS.s (rc_s (by omega) (by omega) c) (Or.inl (rc_a hM g0 ((g0).2.2.1.2.2.2 170 rfl) hs ht (by omega) (by show ((0 : Nat) : Int) < _; omega) (x_84 k9 (by rw [y_84]; have d9 := (hM.td u hs.1 hs.2).2.2 0 (by decide) (by omega); dsimp only at d9; unfold mag at d9; omega))))) (Or.inr ⟨by show ¬ ((1 : Nat) : Int) < _; omega, rfl, rfl⟩)) (Or.inr ⟨by show ¬ ((2 : Nat) : Int) < _; omega, rfl, rfl⟩)) (by rw [(hM.oa hs).1, (hM.oa ht).1]; omega) (by omega) (hM.oa hs).2 (Or.inr ⟨by omega, by have e7 := x_166; rw [show J_84 166 (0 + u) = J 166 (0 + u) from ((q_84).2.1 u hs.1 hs.2).1.1, ← (hM.oa hs).1] at e7; exact e7, g_166.2.2.1.2.2.1 33 (by decide), g_166.2.2.1.2.2.1 32 (by decide), g_166.2.2.1.2.2.2 182 rfl⟩))⟩⟩
                  · refine tz_iconst (pc := 154) dX12_commonOf_154 ?_
                    refine tz_goto (pc := 155) (tgt := 169) dX12_commonOf_155 (by decide) ?_
                    exact tz_iret (pc := 169) (z := 0) dX12_commonOf_169 rfl (Nat.le_of_ble_eq_true rfl) (Nat.le_of_ble_eq_true rfl) ⟨Nat.le_refl _, Nat.le_add_right _ _⟩ ⟨_, rfl, (by decide), ⟨m_84, q_84, fun q9 q8 => by omega, fun q9 => by omega, k_84, fun k hk => rc_k hM hs hk (by omega) (by omega) (fun k9 L0 c hk9 => rc_end (k := k9) (A := mar J 0 0 u) (zf := zf3 (z_84) (0) (0)) (rcS.s (rcS.s (rcS.s (rc_s (by omega) (by omega) c) (Or.inl (rc_a hM g0 ((g0).2.2.1.2.2.2 170 rfl) hs ht (by omega) (by show ((0 : Nat) : Int) < _; omega) (x_84 k9 (by rw [y_84]; have d9 := (hM.td u hs.1 hs.2).2.2 0 (by decide) (by omega); dsimp only at d9; unfold mag at d9; omega))))) (Or.inr ⟨by show ¬ ((1 : Nat) : Int) < _; omega, rfl, rfl⟩)) (Or.inr ⟨by show ¬ ((2 : Nat) : Int) < _; omega, rfl, rfl⟩)) (by rw [(hM.oa hs).1, (hM.oa ht).1]; omega) (by omega) (hM.oa hs).2 (Or.inl ⟨by omega, rfl⟩))⟩⟩
                · refine tz_aload_n (pc := 125) dX12_commonOf_125 rfl rfl ?_
                  refine tz_aload_n (pc := 126) dX12_commonOf_126 rfl rfl ?_
                  refine tz_iload_n (pc := 127) dX12_commonOf_127 rfl rfl ?_
                  refine tz_iconst (pc := 128) dX12_commonOf_128 ?_
                  have l_129 := (q_84).1.2
                  have tt_129 := (q_84).1.1.told
                  refine tz_cV (pc := 129) (m_arg hl n _ _ _ (by omega) (by decide) 0 0 0 s m_84 (q_84).1.1 (by omega) (by omega)) vl_X12_88 dX12_commonOf_129 o_164 rfl rfl (Nat.le_of_ble_eq_true rfl) ⟨(show 0 + 1 ≤ 4 + 1 * (r9 + 1) by omega), (show 8 + (3 + 11) + 40 * (0) ≤ 40 * (4 + 1 * (r9 + 1)) by omega)⟩ rfl rfl (Nat.le_of_ble_eq_true rfl) (Nat.le_of_ble_eq_true rfl) (fun r9 J_129 hq9 => ?_)
                  obtain ⟨z_129, rfl, hz_129, rfl, hv_129⟩ := hq9
                  have he_129 : J_84 167 (3 * (0 + u) + 2) = J 167 (3 * (0 + u) + 2) := ((q_84).2.1 u hs.1 hs.2).2 2 (by omega) (by omega)
                  rw [he_129] at hv_129
                  obtain rfl : J 167 (3 * (0 + u) + 2) = z_129 := hv_129
                  refine tz_aload_n (pc := 132) dX12_commonOf_132 rfl rfl ?_
                  refine tz_iload_n (pc := 133) dX12_commonOf_133 rfl rfl ?_
                  refine tz_iconst (pc := 134) dX12_commonOf_134 ?_
                  have l_135 := (q_84).1.2
                  have tt_135 := (q_84).1.1.told
                  refine tz_cV (pc := 135) (m_arg hl n _ _ _ (by omega) (by decide) 0 0 0 s m_84 (q_84).1.1 (by omega) (by omega)) vl_X12_88 dX12_commonOf_135 o_164 rfl rfl (Nat.le_of_ble_eq_true rfl) ⟨(show 0 + 1 ≤ 4 + 1 * (r9 + 1) by omega), (show 8 + (3 + 11) + 40 * (0) ≤ 40 * (4 + 1 * (r9 + 1)) by omega)⟩ rfl rfl (Nat.le_of_ble_eq_true rfl) (Nat.le_of_ble_eq_true rfl) (fun r9 J_135 hq9 => ?_)
                  obtain ⟨z_135, rfl, hz_135, rfl, hv_135⟩ := hq9
                  have he_135 : J_84 167 (3 * (0 + t) + 2) = J 167 (3 * (0 + t) + 2) := ((q_84).2.1 t ht.1 ht.2).2 2 (by omega) (by omega)
                  rw [he_135] at hv_135
                  obtain rfl : J 167 (3 * (0 + t) + 2) = z_135 := hv_135
                  have l0_138 := (q_84).1.2
                  have t0_138 := (q_84).1.1.told
                  have a_138 := hM.arg (t := u) (i := 2) hs (by omega)
                  have e_138 := hM.arg (t := t) (i := 2) ht (by omega)
                  have o_138 : 0 ≤ J_84 164 32 ∧ J_84 164 32 ≤ 8 := k_84
                  refine tz_cV (pc := 138) (ih _ _ _ (by omega) (by omega) s m_84 (q_84).1.1 (((q_84).2.2.1.2.2.1 9 (by decide)).trans h9s) (by omega) (by omega) o_138 (by rw [((q_84).2.1 _ (by omega) (by omega)).1.2]; omega)) vl_X12_201 dX12_commonOf_138 o_164 rfl rfl (Nat.le_of_ble_eq_true rfl) ⟨(show (4 + 1 * r9) + 1 ≤ 4 + 1 * (r9 + 1) by omega), (show 8 + (7 + 11) + 40 * ((4 + 1 * r9)) ≤ 40 * (4 + 1 * (r9 + 1)) by omega)⟩ rfl rfl (Nat.le_of_ble_eq_true rfl) (Nat.le_of_ble_eq_true rfl) (fun r9 J_138 hq9 => ?_)
                  obtain ⟨z_138, rfl, hz_138, m_138, g_138, h_138, i_138, k_138, x_138⟩ := hq9
                  have q_138 := MG.tr q_84 g_138
                  have f_138 := g_138.2.2.2
                  have l_138 := g_138.1.2
                  have y_138 : J_84 168 (0 + J 167 (3 * (0 + u) + 2)) = J 168 (0 + J 167 (3 * (0 + u) + 2)) := ((q_84).2.1 _ (by omega) (by omega)).1.2
                  refine tz_goto (pc := 141) (tgt := 145) dX12_commonOf_141 (by decide) ?_
                  refine tz_istore (pc := 145) (L2 := [_, _, _, _, _, _, _]) dX12_commonOf_145 (by decide) rfl ?_
                  refine tz_aload_n (pc := 147) dX12_commonOf_147 rfl rfl ?_
                  refine tz_fI (pc := 148) (kz := 33) (v := (J_138 164 33)) dX12_commonOf_148 fl_X12_195 i_164_33 rfl rfl (fun r_148 => ?_)
                  refine tz_if_eq (pc := 151) (tgt := 158) dX12_commonOf_151 (by decide) (by omega) (fun h_151 => ?_) (fun h_151 => ?_)
                  · refine tz_aload_n (pc := 158) dX12_commonOf_158 rfl rfl ?_
                    refine tz_iload_n (pc := 159) dX12_commonOf_159 rfl rfl ?_
                    refine tz_iload (pc := 160) dX12_commonOf_160 rfl ?_
                    refine tz_iload (pc := 162) dX12_commonOf_162 rfl ?_
                    refine tz_iload (pc := 164) dX12_commonOf_164 rfl ?_
                    have l0_166 := (q_138).1.2
                    have t0_166 := (q_138).1.1.told
                    refine tz_cV (pc := 166) (o_remade hl n _ _ _ _ _ (by omega) (by omega) (by omega) (by omega) s m_138 (q_138).1.1 (((q_138).2.2.1.2.2.1 9 (by decide)).trans h9s) (by omega) (fun q9 => by have e9 := (q_138).ar hs ((q_138).2.2.1.2.2.2 170 rfl); rw [e9]; omega)) vl_X12_152 dX12_commonOf_166 o_164 rfl rfl (Nat.le_of_ble_eq_true rfl) ⟨(show 3 + 1 ≤ 4 + 1 * (r9 + 1) by omega), (show 8 + (5 + 11) + 40 * (3) ≤ 40 * (4 + 1 * (r9 + 1)) by omega)⟩ rfl rfl (Nat.le_of_ble_eq_true rfl) (Nat.le_of_ble_eq_true rfl) (fun r9 J_166 hq9 => ?_)
                    obtain ⟨z_166, rfl, hz_166, m_166, g_166, h_166, x_166⟩ := hq9
                    have q_166 := MG.tr q_138 (MG.mono g_166 (fun _ h => by simp at h) (fun _ h => by simp at h) (fun _ h => h))
                    have f_166 := g_166.2.2.2
                    have l_166 := g_166.1.2
                    exact tz_iret (pc := 169) (z := z_166) dX12_commonOf_169 rfl (Nat.le_of_ble_eq_true rfl) (Nat.le_of_ble_eq_true rfl) ⟨Nat.le_refl _, Nat.le_add_right _ _⟩ ⟨_, rfl, (by omega), ⟨m_166, q_166, fun q9 q8 => h_166 q9, fun q9 => by rw [g_166.2.2.1.2.2.1 33 (by decide)] at q9; omega, by rw [g_166.2.2.1.2.2.1 32 (by decide)]; exact k_138, fun k hk => rc_k hM hs hk (by omega) (by omega) (fun k9 L0 c hk9 => rc_end (k := k9) (A := mar J 0 0 u) (zf := zf3 (z_84) (0) (z_138)) (rcS.s (rcS.s (rcS.s (rc_s (by omega) (by omega) c) (Or.inl (rc_a hM g0 ((g0).2.2.1.2.2.2 170 rfl) hs ht (by omega) (by show ((0 : Nat) : Int) < _; omega) (x_84 k9 (by rw [y_84]; have d9 := (hM.td u hs.1 hs.2).2.2 0 (by decide) (by omega); dsimp only at d9; unfold mag at d9; omega))))) (Or.inr ⟨by show ¬ ((1 : Nat) : Int) < _; omega, rfl, rfl⟩)) (Or.inl (rc_a hM q_84 ((q_84).2.2.1.2.2.2 170 rfl) hs ht (by omega) (by show ((2 : Nat) : Int) < _; omega) (x_138 k9 (by rw [y_138]; have d9 := (hM.td u hs.1 hs.2).2.2 2 (by decide) (by omega); dsimp only at d9; unfold mag at d9; omega))))) (by rw [(hM.oa hs).1, (hM.oa ht).1]; omega) (by omega) (hM.oa hs).2 (Or.inr ⟨by omega, by have e7 := x_166; rw [show J_138 166 (0 + u) = J 166 (0 + u) from ((q_138).2.1 u hs.1 hs.2).1.1, ← (hM.oa hs).1] at e7; exact e7, g_166.2.2.1.2.2.1 33 (by decide), g_166.2.2.1.2.2.1 32 (by decide), g_166.2.2.1.2.2.2 182 rfl⟩))⟩⟩
                  · refine tz_iconst (pc := 154) dX12_commonOf_154 ?_
                    refine tz_goto (pc := 155) (tgt := 169) dX12_commonOf_155 (by decide) ?_
                    exact tz_iret (pc := 169) (z := 0) dX12_commonOf_169 rfl (Nat.le_of_ble_eq_true rfl) (Nat.le_of_ble_eq_true rfl) ⟨Nat.le_refl _, Nat.le_add_right _ _⟩ ⟨_, rfl, (by decide), ⟨m_138, q_138, fun q9 q8 => by omega, fun q9 => by omega, k_138, fun k hk => rc_k hM hs hk (by omega) (by omega) (fun k9 L0 c hk9 => rc_end (k := k9) (A := mar J 0 0 u) (zf := zf3 (z_84) (0) (z_138)) (rcS.s (rcS.s (rcS.s (rc_s (by omega) (by omega) c) (Or.inl (rc_a hM g0 ((g0).2.2.1.2.2.2 170 rfl) hs ht (by omega) (by show ((0 : Nat) : Int) < _; omega) (x_84 k9 (by rw [y_84]; have d9 := (hM.td u hs.1 hs.2).2.2 0 (by decide) (by omega); dsimp only at d9; unfold mag at d9; omega))))) (Or.inr ⟨by show ¬ ((1 : Nat) : Int) < _; omega, rfl, rfl⟩)) (Or.inl (rc_a hM q_84 ((q_84).2.2.1.2.2.2 170 rfl) hs ht (by omega) (by show ((2 : Nat) : Int) < _; omega) (x_138 k9 (by rw [y_138]; have d9 := (hM.td u hs.1 hs.2).2.2 2 (by decide) (by omega); dsimp only at d9; unfold mag at d9; omega))))) (by rw [(hM.oa hs).1, (hM.oa ht).1]; omega) (by omega) (hM.oa hs).2 (Or.inl ⟨by omega, rfl⟩))⟩⟩
              · refine tz_aload_n (pc := 98) dX12_commonOf_98 rfl rfl ?_
                refine tz_aload_n (pc := 99) dX12_commonOf_99 rfl rfl ?_
                refine tz_iload_n (pc := 100) dX12_commonOf_100 rfl rfl ?_
                refine tz_iconst (pc := 101) dX12_commonOf_101 ?_
                have l_102 := (q_84).1.2
                have tt_102 := (q_84).1.1.told
                refine tz_cV (pc := 102) (m_arg hl n _ _ _ (by omega) (by decide) 0 0 0 s m_84 (q_84).1.1 (by omega) (by omega)) vl_X12_88 dX12_commonOf_102 o_164 rfl rfl (Nat.le_of_ble_eq_true rfl) ⟨(show 0 + 1 ≤ 4 + 1 * (r9 + 1) by omega), (show 8 + (3 + 11) + 40 * (0) ≤ 40 * (4 + 1 * (r9 + 1)) by omega)⟩ rfl rfl (Nat.le_of_ble_eq_true rfl) (Nat.le_of_ble_eq_true rfl) (fun r9 J_102 hq9 => ?_)
                obtain ⟨z_102, rfl, hz_102, rfl, hv_102⟩ := hq9
                have he_102 : J_84 167 (3 * (0 + u) + 1) = J 167 (3 * (0 + u) + 1) := ((q_84).2.1 u hs.1 hs.2).2 1 (by omega) (by omega)
                rw [he_102] at hv_102
                obtain rfl : J 167 (3 * (0 + u) + 1) = z_102 := hv_102
                refine tz_aload_n (pc := 105) dX12_commonOf_105 rfl rfl ?_
                refine tz_iload_n (pc := 106) dX12_commonOf_106 rfl rfl ?_
                refine tz_iconst (pc := 107) dX12_commonOf_107 ?_
                have l_108 := (q_84).1.2
                have tt_108 := (q_84).1.1.told
                refine tz_cV (pc := 108) (m_arg hl n _ _ _ (by omega) (by decide) 0 0 0 s m_84 (q_84).1.1 (by omega) (by omega)) vl_X12_88 dX12_commonOf_108 o_164 rfl rfl (Nat.le_of_ble_eq_true rfl) ⟨(show 0 + 1 ≤ 4 + 1 * (r9 + 1) by omega), (show 8 + (3 + 11) + 40 * (0) ≤ 40 * (4 + 1 * (r9 + 1)) by omega)⟩ rfl rfl (Nat.le_of_ble_eq_true rfl) (Nat.le_of_ble_eq_true rfl) (fun r9 J_108 hq9 => ?_)
                obtain ⟨z_108, rfl, hz_108, rfl, hv_108⟩ := hq9
                have he_108 : J_84 167 (3 * (0 + t) + 1) = J 167 (3 * (0 + t) + 1) := ((q_84).2.1 t ht.1 ht.2).2 1 (by omega) (by omega)
                rw [he_108] at hv_108
                obtain rfl : J 167 (3 * (0 + t) + 1) = z_108 := hv_108
                have l0_111 := (q_84).1.2
                have t0_111 := (q_84).1.1.told
                have a_111 := hM.arg (t := u) (i := 1) hs (by omega)
                have e_111 := hM.arg (t := t) (i := 1) ht (by omega)
                have o_111 : 0 ≤ J_84 164 32 ∧ J_84 164 32 ≤ 8 := k_84
                refine tz_cV (pc := 111) (ih _ _ _ (by omega) (by omega) s m_84 (q_84).1.1 (((q_84).2.2.1.2.2.1 9 (by decide)).trans h9s) (by omega) (by omega) o_111 (by rw [((q_84).2.1 _ (by omega) (by omega)).1.2]; omega)) vl_X12_201 dX12_commonOf_111 o_164 rfl rfl (Nat.le_of_ble_eq_true rfl) ⟨(show (4 + 1 * r9) + 1 ≤ 4 + 1 * (r9 + 1) by omega), (show 8 + (7 + 11) + 40 * ((4 + 1 * r9)) ≤ 40 * (4 + 1 * (r9 + 1)) by omega)⟩ rfl rfl (Nat.le_of_ble_eq_true rfl) (Nat.le_of_ble_eq_true rfl) (fun r9 J_111 hq9 => ?_)
                obtain ⟨z_111, rfl, hz_111, m_111, g_111, h_111, i_111, k_111, x_111⟩ := hq9
                have q_111 := MG.tr q_84 g_111
                have f_111 := g_111.2.2.2
                have l_111 := g_111.1.2
                have y_111 : J_84 168 (0 + J 167 (3 * (0 + u) + 1)) = J 168 (0 + J 167 (3 * (0 + u) + 1)) := ((q_84).2.1 _ (by omega) (by omega)).1.2
                refine tz_goto (pc := 114) (tgt := 118) dX12_commonOf_114 (by decide) ?_
                refine tz_istore (pc := 118) (L2 := [_, _, _, _, _, _, _]) dX12_commonOf_118 (by decide) rfl ?_
                refine tz_iload_n (pc := 120) dX12_commonOf_120 rfl rfl ?_
                refine tz_iconst (pc := 121) dX12_commonOf_121 ?_
                refine tz_icmp_le (pc := 122) (tgt := 144) dX12_commonOf_122 (by decide) (by omega) (by decide) (fun h_122 => ?_) (fun h_122 => ?_)
                · refine tz_iconst (pc := 144) dX12_commonOf_144 ?_
                  refine tz_istore (pc := 145) (L2 := [_, _, _, _, _, _, _]) dX12_commonOf_145 (by decide) rfl ?_
                  refine tz_aload_n (pc := 147) dX12_commonOf_147 rfl rfl ?_
                  refine tz_fI (pc := 148) (kz := 33) (v := (J_111 164 33)) dX12_commonOf_148 fl_X12_195 i_164_33 rfl rfl (fun r_148 => ?_)
                  refine tz_if_eq (pc := 151) (tgt := 158) dX12_commonOf_151 (by decide) (by omega) (fun h_151 => ?_) (fun h_151 => ?_)
                  · refine tz_aload_n (pc := 158) dX12_commonOf_158 rfl rfl ?_
                    refine tz_iload_n (pc := 159) dX12_commonOf_159 rfl rfl ?_
                    refine tz_iload (pc := 160) dX12_commonOf_160 rfl ?_
                    refine tz_iload (pc := 162) dX12_commonOf_162 rfl ?_
                    refine tz_iload (pc := 164) dX12_commonOf_164 rfl ?_
                    have l0_166 := (q_111).1.2
                    have t0_166 := (q_111).1.1.told
                    refine tz_cV (pc := 166) (o_remade hl n _ _ _ _ _ (by omega) (by omega) (by omega) (by omega) s m_111 (q_111).1.1 (((q_111).2.2.1.2.2.1 9 (by decide)).trans h9s) (by omega) (fun q9 => by have e9 := (q_111).ar hs ((q_111).2.2.1.2.2.2 170 rfl); rw [e9]; omega)) vl_X12_152 dX12_commonOf_166 o_164 rfl rfl (Nat.le_of_ble_eq_true rfl) ⟨(show 3 + 1 ≤ 4 + 1 * (r9 + 1) by omega), (show 8 + (5 + 11) + 40 * (3) ≤ 40 * (4 + 1 * (r9 + 1)) by omega)⟩ rfl rfl (Nat.le_of_ble_eq_true rfl) (Nat.le_of_ble_eq_true rfl) (fun r9 J_166 hq9 => ?_)
                    obtain ⟨z_166, rfl, hz_166, m_166, g_166, h_166, x_166⟩ := hq9
                    have q_166 := MG.tr q_111 (MG.mono g_166 (fun _ h => by simp at h) (fun _ h => by simp at h) (fun _ h => h))
                    have f_166 := g_166.2.2.2
                    have l_166 := g_166.1.2
                    exact tz_iret (pc := 169) (z := z_166) dX12_commonOf_169 rfl (Nat.le_of_ble_eq_true rfl) (Nat.le_of_ble_eq_true rfl) ⟨Nat.le_refl _, Nat.le_add_right _ _⟩ ⟨_, rfl, (by omega), ⟨m_166, q_166, fun q9 q8 => h_166 q9, fun q9 => by rw [g_166.2.2.1.2.2.1 33 (by decide)] at q9; omega, by rw [g_166.2.2.1.2.2.1 32 (by decide)]; exact k_111, fun k hk => rc_k hM hs hk (by omega) (by omega) (fun k9 L0 c hk9 => rc_end (k := k9) (A := mar J 0 0 u) (zf := zf3 (z_84) (z_111) (0)) (rcS.s (rcS.s (rcS.s (rc_s (by omega) (by omega) c) (Or.inl (rc_a hM g0 ((g0).2.2.1.2.2.2 170 rfl) hs ht (by omega) (by show ((0 : Nat) : Int) < _; omega) (x_84 k9 (by rw [y_84]; have d9 := (hM.td u hs.1 hs.2).2.2 0 (by decide) (by omega); dsimp only at d9; unfold mag at d9; omega))))) (Or.inl (rc_a hM q_84 ((q_84).2.2.1.2.2.2 170 rfl) hs ht (by omega) (by show ((1 : Nat) : Int) < _; omega) (x_111 k9 (by rw [y_111]; have d9 := (hM.td u hs.1 hs.2).2.2 1 (by decide) (by omega); dsimp only at d9; unfold mag at d9; omega))))) (Or.inr ⟨by show ¬ ((2 : Nat) : Int) < _; omega, rfl, rfl⟩)) (by rw [(hM.oa hs).1, (hM.oa ht).1]; omega) (by omega) (hM.oa hs).2 (Or.inr ⟨by omega, by have e7 := x_166; rw [show J_111 166 (0 + u) = J 166 (0 + u) from ((q_111).2.1 u hs.1 hs.2).1.1, ← (hM.oa hs).1] at e7; exact e7, g_166.2.2.1.2.2.1 33 (by decide), g_166.2.2.1.2.2.1 32 (by decide), g_166.2.2.1.2.2.2 182 rfl⟩))⟩⟩
                  · refine tz_iconst (pc := 154) dX12_commonOf_154 ?_
                    refine tz_goto (pc := 155) (tgt := 169) dX12_commonOf_155 (by decide) ?_
                    exact tz_iret (pc := 169) (z := 0) dX12_commonOf_169 rfl (Nat.le_of_ble_eq_true rfl) (Nat.le_of_ble_eq_true rfl) ⟨Nat.le_refl _, Nat.le_add_right _ _⟩ ⟨_, rfl, (by decide), ⟨m_111, q_111, fun q9 q8 => by omega, fun q9 => by omega, k_111, fun k hk => rc_k hM hs hk (by omega) (by omega) (fun k9 L0 c hk9 => rc_end (k := k9) (A := mar J 0 0 u) (zf := zf3 (z_84) (z_111) (0)) (rcS.s (rcS.s (rcS.s (rc_s (by omega) (by omega) c) (Or.inl (rc_a hM g0 ((g0).2.2.1.2.2.2 170 rfl) hs ht (by omega) (by show ((0 : Nat) : Int) < _; omega) (x_84 k9 (by rw [y_84]; have d9 := (hM.td u hs.1 hs.2).2.2 0 (by decide) (by omega); dsimp only at d9; unfold mag at d9; omega))))) (Or.inl (rc_a hM q_84 ((q_84).2.2.1.2.2.2 170 rfl) hs ht (by omega) (by show ((1 : Nat) : Int) < _; omega) (x_111 k9 (by rw [y_111]; have d9 := (hM.td u hs.1 hs.2).2.2 1 (by decide) (by omega); dsimp only at d9; unfold mag at d9; omega))))) (Or.inr ⟨by show ¬ ((2 : Nat) : Int) < _; omega, rfl, rfl⟩)) (by rw [(hM.oa hs).1, (hM.oa ht).1]; omega) (by omega) (hM.oa hs).2 (Or.inl ⟨by omega, rfl⟩))⟩⟩
                · refine tz_aload_n (pc := 125) dX12_commonOf_125 rfl rfl ?_
                  refine tz_aload_n (pc := 126) dX12_commonOf_126 rfl rfl ?_
                  refine tz_iload_n (pc := 127) dX12_commonOf_127 rfl rfl ?_
                  refine tz_iconst (pc := 128) dX12_commonOf_128 ?_
                  have l_129 := (q_111).1.2
                  have tt_129 := (q_111).1.1.told
                  refine tz_cV (pc := 129) (m_arg hl n _ _ _ (by omega) (by decide) 0 0 0 s m_111 (q_111).1.1 (by omega) (by omega)) vl_X12_88 dX12_commonOf_129 o_164 rfl rfl (Nat.le_of_ble_eq_true rfl) ⟨(show 0 + 1 ≤ 4 + 1 * (r9 + 1) by omega), (show 8 + (3 + 11) + 40 * (0) ≤ 40 * (4 + 1 * (r9 + 1)) by omega)⟩ rfl rfl (Nat.le_of_ble_eq_true rfl) (Nat.le_of_ble_eq_true rfl) (fun r9 J_129 hq9 => ?_)
                  obtain ⟨z_129, rfl, hz_129, rfl, hv_129⟩ := hq9
                  have he_129 : J_111 167 (3 * (0 + u) + 2) = J 167 (3 * (0 + u) + 2) := ((q_111).2.1 u hs.1 hs.2).2 2 (by omega) (by omega)
                  rw [he_129] at hv_129
                  obtain rfl : J 167 (3 * (0 + u) + 2) = z_129 := hv_129
                  refine tz_aload_n (pc := 132) dX12_commonOf_132 rfl rfl ?_
                  refine tz_iload_n (pc := 133) dX12_commonOf_133 rfl rfl ?_
                  refine tz_iconst (pc := 134) dX12_commonOf_134 ?_
                  have l_135 := (q_111).1.2
                  have tt_135 := (q_111).1.1.told
                  refine tz_cV (pc := 135) (m_arg hl n _ _ _ (by omega) (by decide) 0 0 0 s m_111 (q_111).1.1 (by omega) (by omega)) vl_X12_88 dX12_commonOf_135 o_164 rfl rfl (Nat.le_of_ble_eq_true rfl) ⟨(show 0 + 1 ≤ 4 + 1 * (r9 + 1) by omega), (show 8 + (3 + 11) + 40 * (0) ≤ 40 * (4 + 1 * (r9 + 1)) by omega)⟩ rfl rfl (Nat.le_of_ble_eq_true rfl) (Nat.le_of_ble_eq_true rfl) (fun r9 J_135 hq9 => ?_)
                  obtain ⟨z_135, rfl, hz_135, rfl, hv_135⟩ := hq9
                  have he_135 : J_111 167 (3 * (0 + t) + 2) = J 167 (3 * (0 + t) + 2) := ((q_111).2.1 t ht.1 ht.2).2 2 (by omega) (by omega)
                  rw [he_135] at hv_135
                  obtain rfl : J 167 (3 * (0 + t) + 2) = z_135 := hv_135
                  have l0_138 := (q_111).1.2
                  have t0_138 := (q_111).1.1.told
                  have a_138 := hM.arg (t := u) (i := 2) hs (by omega)
                  have e_138 := hM.arg (t := t) (i := 2) ht (by omega)
                  have o_138 : 0 ≤ J_111 164 32 ∧ J_111 164 32 ≤ 8 := k_111
                  refine tz_cV (pc := 138) (ih _ _ _ (by omega) (by omega) s m_111 (q_111).1.1 (((q_111).2.2.1.2.2.1 9 (by decide)).trans h9s) (by omega) (by omega) o_138 (by rw [((q_111).2.1 _ (by omega) (by omega)).1.2]; omega)) vl_X12_201 dX12_commonOf_138 o_164 rfl rfl (Nat.le_of_ble_eq_true rfl) ⟨(show (4 + 1 * r9) + 1 ≤ 4 + 1 * (r9 + 1) by omega), (show 8 + (7 + 11) + 40 * ((4 + 1 * r9)) ≤ 40 * (4 + 1 * (r9 + 1)) by omega)⟩ rfl rfl (Nat.le_of_ble_eq_true rfl) (Nat.le_of_ble_eq_true rfl) (fun r9 J_138 hq9 => ?_)
                  obtain ⟨z_138, rfl, hz_138, m_138, g_138, h_138, i_138, k_138, x_138⟩ := hq9
                  have q_138 := MG.tr q_111 g_138
                  have f_138 := g_138.2.2.2
                  have l_138 := g_138.1.2
                  have y_138 : J_111 168 (0 + J 167 (3 * (0 + u) + 2)) = J 168 (0 + J 167 (3 * (0 + u) + 2)) := ((q_111).2.1 _ (by omega) (by omega)).1.2
                  refine tz_goto (pc := 141) (tgt := 145) dX12_commonOf_141 (by decide) ?_
                  refine tz_istore (pc := 145) (L2 := [_, _, _, _, _, _, _]) dX12_commonOf_145 (by decide) rfl ?_
                  refine tz_aload_n (pc := 147) dX12_commonOf_147 rfl rfl ?_
                  refine tz_fI (pc := 148) (kz := 33) (v := (J_138 164 33)) dX12_commonOf_148 fl_X12_195 i_164_33 rfl rfl (fun r_148 => ?_)
                  refine tz_if_eq (pc := 151) (tgt := 158) dX12_commonOf_151 (by decide) (by omega) (fun h_151 => ?_) (fun h_151 => ?_)
                  · refine tz_aload_n (pc := 158) dX12_commonOf_158 rfl rfl ?_
                    refine tz_iload_n (pc := 159) dX12_commonOf_159 rfl rfl ?_
                    refine tz_iload (pc := 160) dX12_commonOf_160 rfl ?_
                    refine tz_iload (pc := 162) dX12_commonOf_162 rfl ?_
                    refine tz_iload (pc := 164) dX12_commonOf_164 rfl ?_
                    have l0_166 := (q_138).1.2
                    have t0_166 := (q_138).1.1.told
                    refine tz_cV (pc := 166) (o_remade hl n _ _ _ _ _ (by omega) (by omega) (by omega) (by omega) s m_138 (q_138).1.1 (((q_138).2.2.1.2.2.1 9 (by decide)).trans h9s) (by omega) (fun q9 => by have e9 := (q_138).ar hs ((q_138).2.2.1.2.2.2 170 rfl); rw [e9]; omega)) vl_X12_152 dX12_commonOf_166 o_164 rfl rfl (Nat.le_of_ble_eq_true rfl) ⟨(show 3 + 1 ≤ 4 + 1 * (r9 + 1) by omega), (show 8 + (5 + 11) + 40 * (3) ≤ 40 * (4 + 1 * (r9 + 1)) by omega)⟩ rfl rfl (Nat.le_of_ble_eq_true rfl) (Nat.le_of_ble_eq_true rfl) (fun r9 J_166 hq9 => ?_)
                    obtain ⟨z_166, rfl, hz_166, m_166, g_166, h_166, x_166⟩ := hq9
                    have q_166 := MG.tr q_138 (MG.mono g_166 (fun _ h => by simp at h) (fun _ h => by simp at h) (fun _ h => h))
                    have f_166 := g_166.2.2.2
                    have l_166 := g_166.1.2
                    exact tz_iret (pc := 169) (z := z_166) dX12_commonOf_169 rfl (Nat.le_of_ble_eq_true rfl) (Nat.le_of_ble_eq_true rfl) ⟨Nat.le_refl _, Nat.le_add_right _ _⟩ ⟨_, rfl, (by omega), ⟨m_166, q_166, fun q9 q8 => h_166 q9, fun q9 => by rw [g_166.2.2.1.2.2.1 33 (by decide)] at q9; omega, by rw [g_166.2.2.1.2.2.1 32 (by decide)]; exact k_138, fun k hk => rc_k hM hs hk (by omega) (by omega) (fun k9 L0 c hk9 => rc_end (k := k9) (A := mar J 0 0 u) (zf := zf3 (z_84) (z_111) (z_138)) (rcS.s (rcS.s (rcS.s (rc_s (by omega) (by omega) c) (Or.inl (rc_a hM g0 ((g0).2.2.1.2.2.2 170 rfl) hs ht (by omega) (by show ((0 : Nat) : Int) < _; omega) (x_84 k9 (by rw [y_84]; have d9 := (hM.td u hs.1 hs.2).2.2 0 (by decide) (by omega); dsimp only at d9; unfold mag at d9; omega))))) (Or.inl (rc_a hM q_84 ((q_84).2.2.1.2.2.2 170 rfl) hs ht (by omega) (by show ((1 : Nat) : Int) < _; omega) (x_111 k9 (by rw [y_111]; have d9 := (hM.td u hs.1 hs.2).2.2 1 (by decide) (by omega); dsimp only at d9; unfold mag at d9; omega))))) (Or.inl (rc_a hM q_111 ((q_111).2.2.1.2.2.2 170 rfl) hs ht (by omega) (by show ((2 : Nat) : Int) < _; omega) (x_138 k9 (by rw [y_138]; have d9 := (hM.td u hs.1 hs.2).2.2 2 (by decide) (by omega); dsimp only at d9; unfold mag at d9; omega))))) (by rw [(hM.oa hs).1, (hM.oa ht).1]; omega) (by omega) (hM.oa hs).2 (Or.inr ⟨by omega, by have e7 := x_166; rw [show J_138 166 (0 + u) = J 166 (0 + u) from ((q_138).2.1 u hs.1 hs.2).1.1, ← (hM.oa hs).1] at e7; exact e7, g_166.2.2.1.2.2.1 33 (by decide), g_166.2.2.1.2.2.1 32 (by decide), g_166.2.2.1.2.2.2 182 rfl⟩))⟩⟩
                  · refine tz_iconst (pc := 154) dX12_commonOf_154 ?_
                    refine tz_goto (pc := 155) (tgt := 169) dX12_commonOf_155 (by decide) ?_
                    exact tz_iret (pc := 169) (z := 0) dX12_commonOf_169 rfl (Nat.le_of_ble_eq_true rfl) (Nat.le_of_ble_eq_true rfl) ⟨Nat.le_refl _, Nat.le_add_right _ _⟩ ⟨_, rfl, (by decide), ⟨m_138, q_138, fun q9 q8 => by omega, fun q9 => by omega, k_138, fun k hk => rc_k hM hs hk (by omega) (by omega) (fun k9 L0 c hk9 => rc_end (k := k9) (A := mar J 0 0 u) (zf := zf3 (z_84) (z_111) (z_138)) (rcS.s (rcS.s (rcS.s (rc_s (by omega) (by omega) c) (Or.inl (rc_a hM g0 ((g0).2.2.1.2.2.2 170 rfl) hs ht (by omega) (by show ((0 : Nat) : Int) < _; omega) (x_84 k9 (by rw [y_84]; have d9 := (hM.td u hs.1 hs.2).2.2 0 (by decide) (by omega); dsimp only at d9; unfold mag at d9; omega))))) (Or.inl (rc_a hM q_84 ((q_84).2.2.1.2.2.2 170 rfl) hs ht (by omega) (by show ((1 : Nat) : Int) < _; omega) (x_111 k9 (by rw [y_111]; have d9 := (hM.td u hs.1 hs.2).2.2 1 (by decide) (by omega); dsimp only at d9; unfold mag at d9; omega))))) (Or.inl (rc_a hM q_111 ((q_111).2.2.1.2.2.2 170 rfl) hs ht (by omega) (by show ((2 : Nat) : Int) < _; omega) (x_138 k9 (by rw [y_138]; have d9 := (hM.td u hs.1 hs.2).2.2 2 (by decide) (by omega); dsimp only at d9; unfold mag at d9; omega))))) (by rw [(hM.oa hs).1, (hM.oa ht).1]; omega) (by omega) (hM.oa hs).2 (Or.inl ⟨by omega, rfl⟩))⟩⟩
          · refine tz_aload_n (pc := 37) dX12_commonOf_37 rfl rfl ?_
            refine tz_iload_n (pc := 38) dX12_commonOf_38 rfl rfl ?_
            refine tz_iload_n (pc := 39) dX12_commonOf_39 rfl rfl ?_
            refine tz_cV (pc := 40) (o_coupleOf hl n _ _ _ (by omega) (by omega) h0) vl_X12_198 dX12_commonOf_40 o_164 rfl rfl (Nat.le_of_ble_eq_true rfl) ⟨(show 0 + 1 ≤ 4 + 1 * (r9 + 1) by omega), (show 8 + (4 + 11) + 40 * (0) ≤ 40 * (4 + 1 * (r9 + 1)) by omega)⟩ rfl rfl (Nat.le_of_ble_eq_true rfl) (Nat.le_of_ble_eq_true rfl) (fun r9 J_40 hq9 => ?_)
            obtain ⟨z_40, rfl, hz_40, ⟨c1, c2, c3, c4⟩, c5⟩ := hq9
            have q_40 : MG [182] [32, 33] (fun _ => false) J_40 J 0 0 0 s m m := (MG.rf hM).off (fun k hk => c2 k (by simp at hk; omega) (by simp at hk; omega)) (fun k _ => congrFun (c1 165 rfl) k) (c1.mono (zbut_sub (fun c hc => by simp at hc ⊢; omega))) ⟨rfl, rfl, rfl, rfl⟩ rfl ⟨rfl, rfl, rfl, rfl⟩
            have t_40 : tb0 J_40 = tb0 J := tb0_of (c2 9 (by decide) (by decide)) (c2 21 (by decide) (by decide)) (fun k _ _ => by rw [c1 165 rfl]) (fun k _ _ => ⟨by rw [c1 166 rfl], by rw [c1 168 rfl]⟩) (fun k _ _ => by rw [c1 167 rfl]) (fun k _ _ => ⟨by rw [c1 169 rfl], by rw [c1 170 rfl], by rw [c1 171 rfl]⟩)
            refine tz_istore_n (pc := 43) (L2 := [_, _, _, _, _, _, _]) dX12_commonOf_43 rfl (by decide) rfl ?_
            refine tz_aload_n (pc := 44) dX12_commonOf_44 rfl rfl ?_
            refine tz_fI (pc := 45) (kz := 33) (v := (J_40 164 33)) dX12_commonOf_45 fl_X12_195 i_164_33 rfl rfl (fun r_45 => ?_)
            refine tz_if_eq (pc := 48) (tgt := 55) dX12_commonOf_48 (by decide) (by omega) (fun h_48 => ?_) (fun h_48 => ?_)
            · refine tz_aload_n (pc := 55) dX12_commonOf_55 rfl rfl ?_
              refine tz_iload_n (pc := 56) dX12_commonOf_56 rfl rfl ?_
              have l0_57 := (q_40).1.2
              have t0_57 := (q_40).1.1.told
              refine tz_cV (pc := 57) (o_varTerm hl n _ _ (by omega) s m (q_40).1.1 (((q_40).2.2.1.2.2.1 9 (by decide)).trans h9s) (by omega)) vl_X12_180 dX12_commonOf_57 o_164 rfl rfl (Nat.le_of_ble_eq_true rfl) ⟨(show 3 + 1 ≤ 4 + 1 * (r9 + 1) by omega), (show 8 + (2 + 11) + 40 * (3) ≤ 40 * (4 + 1 * (r9 + 1)) by omega)⟩ rfl rfl (Nat.le_of_ble_eq_true rfl) (Nat.le_of_ble_eq_true rfl) (fun r9 J_57 hq9 => ?_)
              obtain ⟨z_57, rfl, hz_57, x_57, m_57, g_57, h_57⟩ := hq9
              have q_57 := MG.tr q_40 (MG.mono g_57 (fun _ h => by simp at h) (fun _ h => by simp at h) (fun _ h => h))
              have f_57 := g_57.2.2.2
              have l_57 := g_57.1.2
              exact tz_iret (pc := 60) (z := z_57) dX12_commonOf_60 rfl (Nat.le_of_ble_eq_true rfl) (Nat.le_of_ble_eq_true rfl) ⟨Nat.le_refl _, Nat.le_add_right _ _⟩ ⟨_, rfl, (by omega), ⟨m_57, q_57, fun q9 q8 => h_57 q9, fun q9 => by rw [g_57.2.2.1.2.2.1 33 (by decide)] at q9; omega, by rw [g_57.2.2.1.2.2.1 32 (by decide)]; exact c3, fun k hk => rc_k hM hs hk (by omega) (by omega) (fun k9 L0 c _ => rc_leaf (by rw [(hM.oa hs).1, (hM.oa ht).1]; omega) (by omega) t_40 (c.ac (by omega) c5) (Or.inr ⟨by omega, Prod.ext x_57.1 x_57.2, g_57.2.2.1.2.2.1 33 (by decide), g_57.2.2.1.2.2.1 32 (by decide), g_57.2.2.1.2.2.2 182 rfl⟩))⟩⟩
            · refine tz_iconst (pc := 51) dX12_commonOf_51 ?_
              refine tz_goto (pc := 52) (tgt := 60) dX12_commonOf_52 (by decide) ?_
              exact tz_iret (pc := 60) (z := 0) dX12_commonOf_60 rfl (Nat.le_of_ble_eq_true rfl) (Nat.le_of_ble_eq_true rfl) ⟨Nat.le_refl _, Nat.le_add_right _ _⟩ ⟨_, rfl, (by decide), ⟨m, q_40, fun q9 q8 => by omega, fun q9 => by omega, c3, fun k hk => rc_k hM hs hk (by omega) (by omega) (fun k9 L0 c _ => rc_leaf (by rw [(hM.oa hs).1, (hM.oa ht).1]; omega) (by omega) t_40 (c.ac (by omega) c5) (Or.inl ⟨by omega, rfl⟩))⟩⟩
      · refine tz_iconst (pc := 14) dX12_commonOf_14 ?_
        exact tz_iret (pc := 15) (z := 0) dX12_commonOf_15 rfl (Nat.le_of_ble_eq_true rfl) (Nat.le_of_ble_eq_true rfl) ⟨Nat.le_refl _, Nat.le_add_right _ _⟩ ⟨_, rfl, (by decide), ⟨m, g0, fun q9 q8 => by omega, fun q9 => by omega, h0, fun k hk => ⟨fun _ => rfl, fun a b => by exfalso; omega⟩⟩⟩

theorem o_common {l : Launch} {G : tb_G} (hl : l.stackTraces = false) (n : Nat) (J : zJ) (u t : Int) (hr_u : -2147483648 ≤ u ∧ u < 2147483648) (hr_t : -2147483648 ≤ t ∧ t < 2147483648) (s m : Int) (hM : MS J 0 0 0 s m) (h9s : J 164 9 = s) (hs : 0 ≤ u ∧ u < m) (ht : 0 ≤ t ∧ t < m) (h0 : 0 ≤ J 164 32 ∧ J 164 32 ≤ 8) : tz_Ok l G M_X12_commonOf 11 0 0 [.ref 164, zi u, zi t] n J (zqi (fun z J' => ∃ m', MG [182] [32, 33] (fun _ => false) J' J 0 0 0 s m m' ∧ (J' 164 21 = 0 → J' 164 33 = 0 → 0 ≤ z ∧ z < m') ∧ (J' 164 33 = 0 → J 164 33 = 0) ∧ (0 ≤ J' 164 32 ∧ J' 164 32 ≤ 8) ∧ ∀ k : Nat, J 168 (0 + u) ≤ k → rcP k J J' u t z)) zN := o_commonR hl n 7 J u t hr_u hr_t s m hM h9s hs ht h0 (by have := (hM.ar hs).2.2.1; omega)
