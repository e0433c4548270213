/-! ===== normalOf of the class: the loop ===== -/
/-- where the machine stops, if it does within a million turns -/
noncomputable def nFN (S : zJ) (σ t : Int) : NCf := nIT 1000000 (nOP S σ [] t)
theorem ncg_e9 {m z k σ t : Int} {J S : zJ} (h : NCG m J z (nIT k.toNat (nOP S σ [] t))) (hk : 0 ≤ k ∧ k ≤ 1000000) (he : J 158 7 ≤ 0 ∨ k = 1000000 ∨ z < -1) (f1 : (nFN S σ t).2.1 = []) : NCG m J z (nFN S σ t) ∧ ¬ z = -1 := by
  unfold nFN at f1 ⊢
  exact ncg_end h hk he f1
set_option maxHeartbeats 4000000 in
set_option maxRecDepth 100000 in
theorem x_cnormal {l : Launch} {G : tb_G} (hl : l.stackTraces = false) (n : Nat) (J : zJ) (t : Int) (hr_t : -2147483648 ≤ t ∧ t < 2147483648) (m : Int) (S : zJ) (σ : Int) (C : CT J m) (hm : J 6 12 = m) (hL : LI (J 19) m) (ht : 0 ≤ t ∧ t < m) (E : A0 J S) (W : RW (J 19) (S 165)) (h21 : S 164 21 = 0) (hr9 : S 165 40 ≤ S 165 39) (hσ : J 158 8 = 100 - σ ∧ 0 ≤ σ ∧ σ ≤ 100) : tz_Ok l G M_X6_normalOf 11 0 0 [.ref 158, zi t] n J (zqi (fun z J' => ∃ m', GX [19, 140, 158, 159, 160, 161] J' J m m' ∧ LI (J' 19) m' ∧ (z = -3 ∨ z = -2 ∨ (0 ≤ z ∧ z < m')) ∧ ((nFN S σ t).2.1 = [] → NCG m' J' z (nFN S σ t)))) zN := by
  refine tz_Ok.of hl (by decide +kernel) rfl (tb_c1 rfl) (Nat.le_of_ble_eq_true rfl) ?_
  show tz_At l G M_X6_normalOf (tb_rm 11 0 0) none (tb_ZM G 0 0 (zQ n 0 (zqi (fun z J' => ∃ m', GX [19, 140, 158, 159, 160, 161] J' J m m' ∧ LI (J' 19) m' ∧ (z = -3 ∨ z = -2 ∨ (0 ≤ z ∧ z < m')) ∧ ((nFN S σ t).2.1 = [] → NCG m' J' z (nFN S σ t))))) (zX n 0 zN)) 0 0 n J 0 [some (.ref 158), some (zi t), none, none] []
  have hb := C.told
  have d12 := C.nums ht.1 ht.2
  refine tz_aload_n (pc := 0) dX6_normalOf_0 rfl rfl ?_
  refine tz_iconst (pc := 1) dX6_normalOf_1 ?_
  refine tz_pI (pc := 2) (kz := 7) dX6_normalOf_2 fl_X6_21 i_158_7 rfl rfl (by decide) ?_
  refine tz_aload_n (pc := 5) dX6_normalOf_5 rfl rfl ?_
  refine tz_iload_n (pc := 6) dX6_normalOf_6 rfl rfl ?_
  have g0 : WR (zup J 158 7 0) J m m := ⟨(GX.rf C hm).off rfl (zOf.up rfl zOf.rf), hL, ⟨⟨Int.le_refl 0, (by decide : (0 : Int) ≤ 612)⟩, fun f a b => absurd b (by show ¬ f < 0; omega)⟩⟩
  have N0 : NSH m (zup J 158 7 0) S σ [] := ⟨⟨E.f (fun c hc => by rcases hc with h | h | h | h | h | h | h | h | h <;> (rw [h]; rfl)), W, h21, hr9⟩, hσ, zup_at, trivial⟩
  refine tz_cV (pc := 7) (x_opened hl n _ _ (by omega) m S σ [] g0.1.2.1 g0.1.2.2.1 g0.2.1 g0.2.2 (by omega) (by rw [N0.2.2.1]; exact (by decide : (0 : Int) < 612))) vl_X6_47 dX6_normalOf_7 o_158 rfl rfl (Nat.le_of_ble_eq_true rfl) ⟨(Nat.le_of_ble_eq_true rfl), (Nat.le_of_ble_eq_true rfl)⟩ rfl rfl (Nat.le_of_ble_eq_true rfl) (Nat.le_of_ble_eq_true rfl) (fun r9 J_7 hq9 => ?_)
  obtain ⟨z_7, rfl, hz_7, g1, h1, x1, y1⟩ := hq9
  have c1 := x1 ht.1 N0 (by show (0 : Int) + J 12 t ≤ _; omega)
  refine tz_istore_n (pc := 10) (L2 := [_, _, _, _]) dX6_normalOf_10 rfl (by decide) rfl ?_
  refine tz_iconst (pc := 11) dX6_normalOf_11 ?_
  refine tz_istore_n (pc := 12) (L2 := [_, _, _, _]) dX6_normalOf_12 rfl (by decide) rfl ?_
  have loop13 : ∀ (f9 : Nat) (v : Int) (k : Int) (J1 : zJ) (m1 : Int), ((1000000 - k).toNat) < f9 → ((-3 ≤ v ∧ v < m1) ∧ (0 ≤ k ∧ k ≤ 1000000)) → (WR J1 J m m1) → (NCG m1 J1 v (nIT k.toNat (nOP S σ [] t))) → tz_At l G M_X6_normalOf (tb_rm 11 0 0) none (tb_ZM G 0 0 (zQ n 0 (zqi (fun z J' => ∃ m', GX [19, 140, 158, 159, 160, 161] J' J m m' ∧ LI (J' 19) m' ∧ (z = -3 ∨ z = -2 ∨ (0 ≤ z ∧ z < m')) ∧ ((nFN S σ t).2.1 = [] → NCG m' J' z (nFN S σ t))))) (zX n 0 zN)) 0 0 n J1 13 [some (.ref 158), some (zi t), some (zi v), some (zi k)] [] := by
    intro f9
    induction f9 with
    | zero => intro v k J1 m1 hm9; exact absurd hm9 (Nat.not_lt_zero _)
    | succ f9 ih13 =>
      intro v k J1 m1 hm13 hv g2 hN9
      have h7 := g2.2.2.1
      have t1 := g2.1.2.1.told
      refine tz_iload_n (pc := 13) dX6_normalOf_13 rfl rfl ?_
      refine tz_ldc (pc := 14) (z := 1000000) dX6_normalOf_14 ct_X6_51 (by decide) ?_
      refine tz_icmp_ge (pc := 16) (tgt := 67) dX6_normalOf_16 (by decide) (by omega) (by decide) (fun h_16 => ?_) (fun h_16 => ?_)
      · refine tz_iload_n (pc := 67) dX6_normalOf_67 rfl rfl ?_
        refine tz_iconst (pc := 68) dX6_normalOf_68 ?_
        refine tz_icmp_ne (pc := 69) (tgt := 77) dX6_normalOf_69 (by decide) (by omega) (by decide) (fun h_69 => ?_) (fun h_69 => ?_)
        · refine tz_iload_n (pc := 77) dX6_normalOf_77 rfl rfl ?_
          exact tz_iret (pc := 78) (z := v) dX6_normalOf_78 rfl (Nat.le_of_ble_eq_true rfl) (Nat.le_of_ble_eq_true rfl) ⟨Nat.le_refl _, Nat.le_add_right _ _⟩ ⟨_, rfl, (by omega), (by first | exact ⟨m1, g2.1, g2.2.1, by omega, fun q => absurd (by omega) (ncg_e9 hN9 hv.2 (by omega) q).2⟩ | exact ⟨m1, g2.1, g2.2.1, by omega, fun q => (ncg_e9 hN9 hv.2 (by omega) q).1⟩)⟩
        · refine tz_bipush (pc := 72) dX6_normalOf_72 (by decide) ?_
          refine tz_goto (pc := 74) (tgt := 78) dX6_normalOf_74 (by decide) ?_
          exact tz_iret (pc := 78) (z := (-2)) dX6_normalOf_78 rfl (Nat.le_of_ble_eq_true rfl) (Nat.le_of_ble_eq_true rfl) ⟨Nat.le_refl _, Nat.le_add_right _ _⟩ ⟨_, rfl, (by decide), (by first | exact ⟨m1, g2.1, g2.2.1, by omega, fun q => absurd (by omega) (ncg_e9 hN9 hv.2 (by omega) q).2⟩ | exact ⟨m1, g2.1, g2.2.1, by omega, fun q => (ncg_e9 hN9 hv.2 (by omega) q).1⟩)⟩
      · refine tz_aload_n (pc := 19) dX6_normalOf_19 rfl rfl ?_
        refine tz_fI (pc := 20) (kz := 7) (v := (J1 158 7)) dX6_normalOf_20 fl_X6_21 i_158_7 rfl rfl (fun r_20 => ?_)
        refine tz_if_le (pc := 23) (tgt := 67) dX6_normalOf_23 (by decide) (by omega) (fun h_23 => ?_) (fun h_23 => ?_)
        · refine tz_iload_n (pc := 67) dX6_normalOf_67 rfl rfl ?_
          refine tz_iconst (pc := 68) dX6_normalOf_68 ?_
          refine tz_icmp_ne (pc := 69) (tgt := 77) dX6_normalOf_69 (by decide) (by omega) (by decide) (fun h_69 => ?_) (fun h_69 => ?_)
          · refine tz_iload_n (pc := 77) dX6_normalOf_77 rfl rfl ?_
            exact tz_iret (pc := 78) (z := v) dX6_normalOf_78 rfl (Nat.le_of_ble_eq_true rfl) (Nat.le_of_ble_eq_true rfl) ⟨Nat.le_refl _, Nat.le_add_right _ _⟩ ⟨_, rfl, (by omega), (by first | exact ⟨m1, g2.1, g2.2.1, by omega, fun q => absurd (by omega) (ncg_e9 hN9 hv.2 (by omega) q).2⟩ | exact ⟨m1, g2.1, g2.2.1, by omega, fun q => (ncg_e9 hN9 hv.2 (by omega) q).1⟩)⟩
          · refine tz_bipush (pc := 72) dX6_normalOf_72 (by decide) ?_
            refine tz_goto (pc := 74) (tgt := 78) dX6_normalOf_74 (by decide) ?_
            exact tz_iret (pc := 78) (z := (-2)) dX6_normalOf_78 rfl (Nat.le_of_ble_eq_true rfl) (Nat.le_of_ble_eq_true rfl) ⟨Nat.le_refl _, Nat.le_add_right _ _⟩ ⟨_, rfl, (by decide), (by first | exact ⟨m1, g2.1, g2.2.1, by omega, fun q => absurd (by omega) (ncg_e9 hN9 hv.2 (by omega) q).2⟩ | exact ⟨m1, g2.1, g2.2.1, by omega, fun q => (ncg_e9 hN9 hv.2 (by omega) q).1⟩)⟩
        · refine tz_iload_n (pc := 26) dX6_normalOf_26 rfl rfl ?_
          refine tz_iconst (pc := 27) dX6_normalOf_27 ?_
          refine tz_icmp_lt (pc := 28) (tgt := 67) dX6_normalOf_28 (by decide) (by omega) (by decide) (fun h_28 => ?_) (fun h_28 => ?_)
          · refine tz_iload_n (pc := 67) dX6_normalOf_67 rfl rfl ?_
            refine tz_iconst (pc := 68) dX6_normalOf_68 ?_
            refine tz_icmp_ne (pc := 69) (tgt := 77) dX6_normalOf_69 (by decide) (by omega) (by decide) (fun h_69 => ?_) (fun h_69 => ?_)
            · refine tz_iload_n (pc := 77) dX6_normalOf_77 rfl rfl ?_
              exact tz_iret (pc := 78) (z := v) dX6_normalOf_78 rfl (Nat.le_of_ble_eq_true rfl) (Nat.le_of_ble_eq_true rfl) ⟨Nat.le_refl _, Nat.le_add_right _ _⟩ ⟨_, rfl, (by omega), (by first | exact ⟨m1, g2.1, g2.2.1, by omega, fun q => absurd (by omega) (ncg_e9 hN9 hv.2 (by omega) q).2⟩ | exact ⟨m1, g2.1, g2.2.1, by omega, fun q => (ncg_e9 hN9 hv.2 (by omega) q).1⟩)⟩
            · refine tz_bipush (pc := 72) dX6_normalOf_72 (by decide) ?_
              refine tz_goto (pc := 74) (tgt := 78) dX6_normalOf_74 (by decide) ?_
              exact tz_iret (pc := 78) (z := (-2)) dX6_normalOf_78 rfl (Nat.le_of_ble_eq_true rfl) (Nat.le_of_ble_eq_true rfl) ⟨Nat.le_refl _, Nat.le_add_right _ _⟩ ⟨_, rfl, (by decide), (by first | exact ⟨m1, g2.1, g2.2.1, by omega, fun q => absurd (by omega) (ncg_e9 hN9 hv.2 (by omega) q).2⟩ | exact ⟨m1, g2.1, g2.2.1, by omega, fun q => (ncg_e9 hN9 hv.2 (by omega) q).1⟩)⟩
          · refine tz_iload_n (pc := 31) dX6_normalOf_31 rfl rfl ?_
            refine tz_iconst (pc := 32) dX6_normalOf_32 ?_
            refine tz_icmp_ne (pc := 33) (tgt := 49) dX6_normalOf_33 (by decide) (by omega) (by decide) (fun h_33 => ?_) (fun h_33 => ?_)
            · refine tz_aload_n (pc := 49) dX6_normalOf_49 rfl rfl ?_
              refine tz_iload_n (pc := 50) dX6_normalOf_50 rfl rfl ?_
              refine tz_aload_n (pc := 51) dX6_normalOf_51 rfl rfl ?_
              refine tz_fI (pc := 52) (kz := 7) (v := (J1 158 7)) dX6_normalOf_52 fl_X6_21 i_158_7 rfl rfl (fun r_52 => ?_)
              refine tz_iconst (pc := 55) dX6_normalOf_55 ?_
              refine tz_isub (pc := 56) (v := (J1 158 7) - 1) dX6_normalOf_56 rfl ?_
              obtain ⟨S5, σ5, F5, K5, e5, N5⟩ := ncg_ha hN9 (by omega) (by omega)
              have l5 := N5.2.2.1
              rw [nfk_l] at l5
              refine tz_cV (pc := 57) (x_handed hl n _ _ _ (by omega) (by omega) m1 S5 σ5 F5 K5 g2.1.2.1 g2.1.2.2.1 g2.2.1 g2.2.2 (by omega) (by omega) (by omega) N5) vl_X6_55 dX6_normalOf_57 o_158 rfl rfl (Nat.le_of_ble_eq_true rfl) ⟨(Nat.le_of_ble_eq_true rfl), (Nat.le_of_ble_eq_true rfl)⟩ rfl rfl (Nat.le_of_ble_eq_true rfl) (Nat.le_of_ble_eq_true rfl) (fun r9 J_57 hq9 => ?_)
              obtain ⟨z_57, rfl, hz_57, g4, h4, x4⟩ := hq9
              refine tz_istore_n (pc := 60) (L2 := [_, _, _, _]) dX6_normalOf_60 rfl (by decide) rfl ?_
              refine tz_iinc (pc := 61) (z := k + 1) (L2 := [_, _, _, _]) dX6_normalOf_61 rfl (by omega) rfl ?_
              refine tz_goto (pc := 64) (tgt := 13) dX6_normalOf_64 (by decide) ?_
              exact ih13 _ (k + 1) _ m1 (by omega) (by omega) (g2.tr g4) (by rw [show (k + 1).toNat = k.toNat + 1 by omega, nIT_s2, e5]; exact x4)
            · refine tz_aload_n (pc := 36) dX6_normalOf_36 rfl rfl ?_
              refine tz_aload_n (pc := 37) dX6_normalOf_37 rfl rfl ?_
              refine tz_fI (pc := 38) (kz := 7) (v := (J1 158 7)) dX6_normalOf_38 fl_X6_21 i_158_7 rfl rfl (fun r_38 => ?_)
              refine tz_iconst (pc := 41) dX6_normalOf_41 ?_
              refine tz_isub (pc := 42) (v := (J1 158 7) - 1) dX6_normalOf_42 rfl ?_
              obtain ⟨S5, σ5, F5, K5, e5, s5, N5⟩ := ncg_go hN9 (by omega)
              have l5 := N5.2.2.1
              rw [nfk_l] at l5
              refine tz_cV (pc := 43) (x_wentOn hl n _ _ (by omega) m1 S5 σ5 F5 K5 g2.1.2.1 g2.1.2.2.1 g2.2.1 g2.2.2 (by omega) (by omega) N5 s5) vl_X6_52 dX6_normalOf_43 o_158 rfl rfl (Nat.le_of_ble_eq_true rfl) ⟨(Nat.le_of_ble_eq_true rfl), (Nat.le_of_ble_eq_true rfl)⟩ rfl rfl (Nat.le_of_ble_eq_true rfl) (Nat.le_of_ble_eq_true rfl) (fun r9 J_43 hq9 => ?_)
              obtain ⟨z_43, rfl, hz_43, m3, g3, h3, x3⟩ := hq9
              refine tz_goto (pc := 46) (tgt := 60) dX6_normalOf_46 (by decide) ?_
              refine tz_istore_n (pc := 60) (L2 := [_, _, _, _]) dX6_normalOf_60 rfl (by decide) rfl ?_
              refine tz_iinc (pc := 61) (z := k + 1) (L2 := [_, _, _, _]) dX6_normalOf_61 rfl (by omega) rfl ?_
              refine tz_goto (pc := 64) (tgt := 13) dX6_normalOf_64 (by decide) ?_
              exact ih13 _ (k + 1) _ m3 (by omega) (by omega) (g2.tr g3) (by rw [show (k + 1).toNat = k.toNat + 1 by omega, nIT_s2, e5]; exact x3)
  exact loop13 _ _ 0 _ m (Nat.lt_succ_self _) (by omega) (g0.tr g1) c1

