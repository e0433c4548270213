/-! ===== image, restore of the class, exact ===== -/
set_option maxHeartbeats 4000000 in
set_option maxRecDepth 100000 in
theorem y_takeK {l : Launch} {G : tb_G} (hl : l.stackTraces = false) (n : Nat) (J : zJ)   (m : Int) (hI : CI J m) : tz_Ok l G M_X0_takeFrom 2 0 0 [.ref 63, .ref 5] n J (zqv (fun J' => KI J' m ∧ zOf fkk J' J ∧ J' 64 12 = J 6 12 ∧ (∀ t, 0 ≤ t → t < J 6 12 → J' 65 t = J 7 t ∧ J' 66 t = J 8 t ∧ J' 70 t = J 12 t) ∧ (∀ k, 0 ≤ k → k < J 6 12 * 3 → J' 67 k = J 9 k) ∧ (∀ k, 0 ≤ k → k < 61 → J' 77 k = J 19 k) ∧ (J' 63 5 = J 5 5 ∧ J' 63 6 = J 5 6) ∧ ∀ q, 0 ≤ q → q < J 5 6 → ∀ x, 0 ≤ x → x < 61 → J' (zV ((J 5 5 + q) % 40)) x = J (zU ((J 5 5 + q) % 40)) x)) zN := by
  refine tz_Ok.of hl (by decide +kernel) rfl (tb_c1 rfl) (Nat.le_of_ble_eq_true rfl) ?_
  show tz_At l G M_X0_takeFrom (tb_rm 2 0 0) none (tb_ZM G 0 0 (zQ n 0 (zqv (fun J' => KI J' m ∧ zOf fkk J' J ∧ J' 64 12 = J 6 12 ∧ (∀ t, 0 ≤ t → t < J 6 12 → J' 65 t = J 7 t ∧ J' 66 t = J 8 t ∧ J' 70 t = J 12 t) ∧ (∀ k, 0 ≤ k → k < J 6 12 * 3 → J' 67 k = J 9 k) ∧ (∀ k, 0 ≤ k → k < 61 → J' 77 k = J 19 k) ∧ (J' 63 5 = J 5 5 ∧ J' 63 6 = J 5 6) ∧ ∀ q, 0 ≤ q → q < J 5 6 → ∀ x, 0 ≤ x → x < 61 → J' (zV ((J 5 5 + q) % 40)) x = J (zU ((J 5 5 + q) % 40)) x))) (zX n 0 zN)) 0 0 n J 0 [some (.ref 63), some (.ref 5), none, none] []
  have hC := hI.1.1.1
  have hm := hI.1.1.2.1
  have hL := hI.1.1.2.2
  have hb := hC.told
  have hr := hI.2.1
  refine tz_aload_n (pc := 0) dX0_takeFrom_0 rfl rfl ?_
  refine tz_fR (pc := 1) dX0_takeFrom_1 fl_X0_32 r_63_0 ?_
  refine tz_aload_n (pc := 4) dX0_takeFrom_4 rfl rfl ?_
  refine tz_fR (pc := 5) dX0_takeFrom_5 fl_X0_32 r_5_0 ?_
  refine tz_cV (pc := 8) (c_teTake64_6 hl n _ (by omega)) vl_X0_62 dX0_takeFrom_8 o_64 rfl rfl (Nat.le_of_ble_eq_true rfl) ⟨(Nat.le_of_ble_eq_true rfl), (Nat.le_of_ble_eq_true rfl)⟩ rfl rfl (Nat.le_of_ble_eq_true rfl) (Nat.le_of_ble_eq_true rfl) (fun r9 J1 hq9 => ?_)
  obtain ⟨rfl, hj1⟩ := hq9
  have t1 : TQ 64 6 J1 J := by rw [← hj1]; exact te_64_6
  refine tz_aload_n (pc := 11) dX0_takeFrom_11 rfl rfl ?_
  refine tz_fR (pc := 12) dX0_takeFrom_12 fl_X0_36 r_63_1 ?_
  refine tz_aload_n (pc := 15) dX0_takeFrom_15 rfl rfl ?_
  refine tz_fR (pc := 16) dX0_takeFrom_16 fl_X0_36 r_5_1 ?_
  refine tz_cV (pc := 19) (c_leTake76_18 hl n _) vl_X0_66 dX0_takeFrom_19 o_76 rfl rfl (Nat.le_of_ble_eq_true rfl) ⟨(Nat.le_of_ble_eq_true rfl), (Nat.le_of_ble_eq_true rfl)⟩ rfl rfl (Nat.le_of_ble_eq_true rfl) (Nat.le_of_ble_eq_true rfl) (fun r9 J2 hq9 => ?_)
  obtain ⟨rfl, hj2⟩ := hq9
  have l2 : zOf (zbut [77]) J2 J1 := by rw [← hj2]; exact zOf.cp rfl zOf.rf
  have e77 : ∀ k, 0 ≤ k → k < 61 → J2 77 k = J 19 k := fun k a b => by rw [← hj2, zcp_in (by omega), ← congrFun (t1.2.2.2.2 19 rfl) k]; congr 1; omega
  have s5 : J2 5 = J 5 := (l2 5 rfl).trans (t1.2.2.2.2 5 rfl)
  refine tz_aload_n (pc := 22) dX0_takeFrom_22 rfl rfl ?_
  refine tz_aload_n (pc := 23) dX0_takeFrom_23 rfl rfl ?_
  refine tz_fI (pc := 24) (kz := 5) (v := (J2 5 5)) dX0_takeFrom_24 fl_X0_25 i_5_5 rfl rfl (fun r_24 => ?_)
  refine tz_pI (pc := 27) (kz := 5) dX0_takeFrom_27 fl_X0_25 i_63_5 rfl rfl (by omega) ?_
  refine tz_aload_n (pc := 30) dX0_takeFrom_30 rfl rfl ?_
  refine tz_aload_n (pc := 31) dX0_takeFrom_31 rfl rfl ?_
  refine tz_fI (pc := 32) (kz := 6) (v := (J2 5 6)) dX0_takeFrom_32 fl_X0_29 i_5_6 rfl rfl (fun r_32 => ?_)
  refine tz_pI (pc := 35) (kz := 6) dX0_takeFrom_35 fl_X0_29 i_63_6 rfl rfl (by omega) ?_
  refine tz_iconst (pc := 38) dX0_takeFrom_38 ?_
  refine tz_istore_n (pc := 39) (L2 := [_, _, _, _]) dX0_takeFrom_39 rfl (by decide) rfl ?_
  have loop40 : ∀ (f9 : Nat) (k : Int) (d3 : Option Value) (J3 : zJ), ((40 - k).toNat) < f9 → (0 ≤ k ∧ k ≤ J 5 6) → (zOf frV J3 (zup (zup J2 63 5 (J2 5 5)) 63 6 (J2 5 6))) → (∀ q, 0 ≤ q → q < k → ∀ x, 0 ≤ x → x < 61 → J3 (zV ((J 5 5 + q) % 40)) x = J (zU ((J 5 5 + q) % 40)) x) → tz_At l G M_X0_takeFrom (tb_rm 2 0 0) none (tb_ZM G 0 0 (zQ n 0 (zqv (fun J' => KI J' m ∧ zOf fkk J' J ∧ J' 64 12 = J 6 12 ∧ (∀ t, 0 ≤ t → t < J 6 12 → J' 65 t = J 7 t ∧ J' 66 t = J 8 t ∧ J' 70 t = J 12 t) ∧ (∀ k, 0 ≤ k → k < J 6 12 * 3 → J' 67 k = J 9 k) ∧ (∀ k, 0 ≤ k → k < 61 → J' 77 k = J 19 k) ∧ (J' 63 5 = J 5 5 ∧ J' 63 6 = J 5 6) ∧ ∀ q, 0 ≤ q → q < J 5 6 → ∀ x, 0 ≤ x → x < 61 → J' (zV ((J 5 5 + q) % 40)) x = J (zU ((J 5 5 + q) % 40)) x))) (zX n 0 zN)) 0 0 n J3 40 [some (.ref 63), some (.ref 5), some (zi k), d3] [] := by
    intro f9
    induction f9 with
    | zero => intro k d3 J3 hm9; exact absurd hm9 (Nat.not_lt_zero _)
    | succ f9 ih40 =>
      intro k d3 J3 hm40 hk f3 h3
      have e5 : J3 63 5 = J 5 5 := (congrFun (f3 63 rfl) 5).trans (by rw [zup_ne (by decide), zup_at, s5])
      have e6 : J3 63 6 = J 5 6 := (congrFun (f3 63 rfl) 6).trans (by rw [zup_at, s5])
      have hr3 : ∀ i, 0 ≤ i → i < 40 → J3 (zU i) = J (zU i) := fun i a b => (f3 _ (decide_eq_true (by unfold zU; omega))).trans (by rw [zup_nc (by unfold zU; omega), zup_nc (by unfold zU; omega), l2 _ (by simp [zbut, zU]; omega), t1.2.2.2.2 _ (decide_eq_true (by unfold zU; omega))])
      refine tz_iload_n (pc := 40) dX0_takeFrom_40 rfl rfl ?_
      refine tz_aload_n (pc := 41) dX0_takeFrom_41 rfl rfl ?_
      refine tz_fI (pc := 42) (kz := 6) (v := (J3 63 6)) dX0_takeFrom_42 fl_X0_29 i_63_6 rfl rfl (fun r_42 => ?_)
      refine tz_icmp_ge (pc := 45) (tgt := 83) dX0_takeFrom_45 (by decide) (by omega) (by omega) (fun h_45 => ?_) (fun h_45 => ?_)
      · refine tz_aload_n (pc := 83) dX0_takeFrom_83 rfl rfl ?_
        refine tz_fR (pc := 84) dX0_takeFrom_84 fl_X0_22 r_5_4 ?_
        refine tz_iconst (pc := 87) dX0_takeFrom_87 ?_
        refine tz_aload_n (pc := 88) dX0_takeFrom_88 rfl rfl ?_
        refine tz_fR (pc := 89) dX0_takeFrom_89 fl_X0_22 r_63_4 ?_
        refine tz_iconst (pc := 92) dX0_takeFrom_92 ?_
        refine tz_aload_n (pc := 93) dX0_takeFrom_93 rfl rfl ?_
        refine tz_fR (pc := 94) dX0_takeFrom_94 fl_X0_22 r_63_4 ?_
        refine tz_aN (pc := 97) (lz := 4) dX0_takeFrom_97 a_120 rfl ?_
        refine tz_cp (pc := 98) (sp := 0) (dp := 0) (ln := 4) dX0_takeFrom_98 ml_X0_48 a_62 a_120 rfl rfl (by decide) (Nat.le_of_ble_eq_true rfl) (by decide +kernel) ?_
        have ec : ∀ c, c < 79 → ¬ c = 63 → ¬ c = 77 → zcp J3 62 120 0 0 4 c = J1 c := fun c a b e => by rw [zcp_nc (by omega), f3 c (decide_eq_true (by omega)), zup_nc b, zup_nc b, l2 c (by simp [zbut]; omega)]
        exact tz_vret (pc := 101) dX0_takeFrom_101 rfl (Nat.le_of_ble_eq_true rfl) (Nat.le_of_ble_eq_true rfl) ⟨Nat.le_refl _, Nat.le_add_right _ _⟩ ⟨rfl, (by
                    have w9 : KI (zcp J3 62 120 0 0 4) m ∧ zOf fkk (zcp J3 62 120 0 0 4) J := ⟨⟨⟨kv_of (TQ.kt t1 hC hm) (fun c hc => ec c (by omega) (by omega) (by omega)), by rw [ec 64 (by decide) (by decide) (by decide), t1.1]; exact hm⟩, hL.c61 (fun k a b => by rw [zcp_nc (by decide), f3 77 rfl, zup_nc (by decide), zup_nc (by decide)]; exact e77 k a b), RG.cp hI.2 ((congrFun (zcp_nc (by decide)) 5).trans e5) ((congrFun (zcp_nc (by decide)) 6).trans e6) (fun q a b x y z => by rw [zcp_nc (by unfold zV; omega)]; exact h3 q a (by omega) x y z)⟩, fun c hc => by have hc9 := of_decide_eq_true hc; rw [zcp_nc (by omega), f3 c (decide_eq_true (by omega)), zup_nc (by omega), zup_nc (by omega), l2 c (by simp [zbut]; omega), t1.2.2.2.2 c (decide_eq_true (by omega))]⟩
                    exact ⟨w9.1, w9.2, by rw [ec 64 (by decide) (by decide) (by decide)]; exact t1.1, fun t a b => ⟨by rw [ec 65 (by decide) (by decide) (by decide)]; exact (t1.2.1 t a b).1, by rw [ec 66 (by decide) (by decide) (by decide)]; exact (t1.2.1 t a b).2.1, by rw [ec 70 (by decide) (by decide) (by decide)]; exact (t1.2.1 t a b).2.2.2.2.1⟩, fun k a b => by rw [ec 67 (by decide) (by decide) (by decide)]; exact t1.2.2.1 k a b, fun k a b => by rw [zcp_nc (by decide), f3 77 rfl, zup_nc (by decide), zup_nc (by decide)]; exact e77 k a b, ⟨(congrFun (zcp_nc (by decide)) 5).trans e5, (congrFun (zcp_nc (by decide)) 6).trans e6⟩, fun q a b x y z => by rw [zcp_nc (by unfold zV; omega)]; exact h3 q a (by omega) x y z⟩)⟩
      · refine tz_aload_n (pc := 48) dX0_takeFrom_48 rfl rfl ?_
        refine tz_fI (pc := 49) (kz := 5) (v := (J3 63 5)) dX0_takeFrom_49 fl_X0_25 i_63_5 rfl rfl (fun r_49 => ?_)
        refine tz_iload_n (pc := 52) dX0_takeFrom_52 rfl rfl ?_
        refine tz_iadd (pc := 53) (v := (J3 63 5) + k) dX0_takeFrom_53 rfl ?_
        refine tz_bipush (pc := 54) dX0_takeFrom_54 (by decide) ?_
        refine tz_irem (pc := 56) (a := ((J3 63 5) + k)) (b := 40) (v := (((J3 63 5) + k) % 40)) dX0_takeFrom_56 (by omega) (by omega) rfl ?_
        refine tz_istore_n (pc := 57) (L2 := [_, _, _, _]) dX0_takeFrom_57 rfl (by decide) rfl ?_
        refine tz_aload_n (pc := 58) dX0_takeFrom_58 rfl rfl ?_
        refine tz_fR (pc := 59) dX0_takeFrom_59 fl_X0_13 r_5_2 ?_
        refine tz_iload_n (pc := 62) dX0_takeFrom_62 rfl rfl ?_
        refine tz_aR (pc := 63) (z := (((J3 63 5) + k) % 40)) (r := zU ((J3 63 5 + k) % 40)) dX0_takeFrom_63 (zU_b (by omega)) rfl (by omega) ?_
        refine tz_iconst (pc := 64) dX0_takeFrom_64 ?_
        refine tz_aload_n (pc := 65) dX0_takeFrom_65 rfl rfl ?_
        refine tz_fR (pc := 66) dX0_takeFrom_66 fl_X0_13 r_63_2 ?_
        refine tz_iload_n (pc := 69) dX0_takeFrom_69 rfl rfl ?_
        refine tz_aR (pc := 70) (z := (((J3 63 5) + k) % 40)) (r := zV ((J3 63 5 + k) % 40)) dX0_takeFrom_70 (zV_b (by omega)) rfl (by omega) ?_
        refine tz_iconst (pc := 71) dX0_takeFrom_71 ?_
        refine tz_bipush (pc := 72) dX0_takeFrom_72 (by decide) ?_
        refine tz_cp (pc := 74) (sp := 0) (dp := 0) (ln := 61) dX0_takeFrom_74 ml_X0_48 (zU_a (by omega)) (zV_a (by omega)) rfl rfl (by decide) (Nat.le_of_ble_eq_true rfl) (by decide +kernel) ?_
        refine tz_iinc (pc := 77) (z := k + 1) (L2 := [_, _, _, _]) dX0_takeFrom_77 rfl (by omega) rfl ?_
        refine tz_goto (pc := 80) (tgt := 40) dX0_takeFrom_80 (by decide) ?_
        exact ih40 (k + 1) _ _ (by omega) (by omega) (zOf.cp (decide_eq_false (by unfold zV; omega)) f3) (rowcp_c_takeK e5 (by omega) hk hr3 h3)
  exact loop40 _ 0 none _ (Nat.lt_succ_self _) (by omega) zOf.rf (fun q a b => by omega)

set_option maxHeartbeats 4000000 in
set_option maxRecDepth 100000 in
theorem y_takeC {l : Launch} {G : tb_G} (hl : l.stackTraces = false) (n : Nat) (J : zJ)   (m : Int) (hK : KI J m) (hR : RU J) (hP : KP J) : tz_Ok l G M_X0_takeFrom 2 0 0 [.ref 5, .ref 63] n J (zqv (fun J' => CI J' m ∧ zOf (fun c => decide (c < 5 ∨ 62 < c)) J' J ∧ J' 6 12 = J 64 12 ∧ (∀ t, 0 ≤ t → t < J 64 12 → J' 7 t = J 65 t ∧ J' 8 t = J 66 t ∧ J' 12 t = J 70 t) ∧ (∀ k, 0 ≤ k → k < J 64 12 * 3 → J' 9 k = J 67 k) ∧ (∀ k, 0 ≤ k → k < 61 → J' 19 k = J 77 k) ∧ (J' 5 5 = J 63 5 ∧ J' 5 6 = J 63 6) ∧ ∀ q, 0 ≤ q → q < J 63 6 → ∀ x, 0 ≤ x → x < 61 → J' (zU ((J 63 5 + q) % 40)) x = J (zV ((J 63 5 + q) % 40)) x)) zN := by
  refine tz_Ok.of hl (by decide +kernel) rfl (tb_c1 rfl) (Nat.le_of_ble_eq_true rfl) ?_
  show tz_At l G M_X0_takeFrom (tb_rm 2 0 0) none (tb_ZM G 0 0 (zQ n 0 (zqv (fun J' => CI J' m ∧ zOf (fun c => decide (c < 5 ∨ 62 < c)) J' J ∧ J' 6 12 = J 64 12 ∧ (∀ t, 0 ≤ t → t < J 64 12 → J' 7 t = J 65 t ∧ J' 8 t = J 66 t ∧ J' 12 t = J 70 t) ∧ (∀ k, 0 ≤ k → k < J 64 12 * 3 → J' 9 k = J 67 k) ∧ (∀ k, 0 ≤ k → k < 61 → J' 19 k = J 77 k) ∧ (J' 5 5 = J 63 5 ∧ J' 5 6 = J 63 6) ∧ ∀ q, 0 ≤ q → q < J 63 6 → ∀ x, 0 ≤ x → x < 61 → J' (zU ((J 63 5 + q) % 40)) x = J (zV ((J 63 5 + q) % 40)) x))) (zX n 0 zN)) 0 0 n J 0 [some (.ref 5), some (.ref 63), none, none] []
  have hb := hK.1.1.told
  have hm := hK.1.2
  have hr := hK.2.2.1
  refine tz_aload_n (pc := 0) dX0_takeFrom_0 rfl rfl ?_
  refine tz_fR (pc := 1) dX0_takeFrom_1 fl_X0_32 r_5_0 ?_
  refine tz_aload_n (pc := 4) dX0_takeFrom_4 rfl rfl ?_
  refine tz_fR (pc := 5) dX0_takeFrom_5 fl_X0_32 r_63_0 ?_
  refine tz_cV (pc := 8) (c_teTake6_64 hl n _ (by omega)) vl_X0_62 dX0_takeFrom_8 o_6 rfl rfl (Nat.le_of_ble_eq_true rfl) ⟨(Nat.le_of_ble_eq_true rfl), (Nat.le_of_ble_eq_true rfl)⟩ rfl rfl (Nat.le_of_ble_eq_true rfl) (Nat.le_of_ble_eq_true rfl) (fun r9 J1 hq9 => ?_)
  obtain ⟨rfl, hj1⟩ := hq9
  have t1 : TQ 6 64 J1 J := by rw [← hj1]; exact te_6_64
  refine tz_aload_n (pc := 11) dX0_takeFrom_11 rfl rfl ?_
  refine tz_fR (pc := 12) dX0_takeFrom_12 fl_X0_36 r_5_1 ?_
  refine tz_aload_n (pc := 15) dX0_takeFrom_15 rfl rfl ?_
  refine tz_fR (pc := 16) dX0_takeFrom_16 fl_X0_36 r_63_1 ?_
  refine tz_cV (pc := 19) (c_leTake18_76 hl n _) vl_X0_66 dX0_takeFrom_19 o_18 rfl rfl (Nat.le_of_ble_eq_true rfl) ⟨(Nat.le_of_ble_eq_true rfl), (Nat.le_of_ble_eq_true rfl)⟩ rfl rfl (Nat.le_of_ble_eq_true rfl) (Nat.le_of_ble_eq_true rfl) (fun r9 J2 hq9 => ?_)
  obtain ⟨rfl, hj2⟩ := hq9
  have l2 : zOf (zbut [19]) J2 J1 := by rw [← hj2]; exact zOf.cp rfl zOf.rf
  have e77 : ∀ k, 0 ≤ k → k < 61 → J2 19 k = J 77 k := fun k a b => by rw [← hj2, zcp_in (by omega), ← congrFun (t1.2.2.2.2 77 rfl) k]; congr 1; omega
  have s5 : J2 63 = J 63 := (l2 63 rfl).trans (t1.2.2.2.2 63 rfl)
  refine tz_aload_n (pc := 22) dX0_takeFrom_22 rfl rfl ?_
  refine tz_aload_n (pc := 23) dX0_takeFrom_23 rfl rfl ?_
  refine tz_fI (pc := 24) (kz := 5) (v := (J2 63 5)) dX0_takeFrom_24 fl_X0_25 i_63_5 rfl rfl (fun r_24 => ?_)
  refine tz_pI (pc := 27) (kz := 5) dX0_takeFrom_27 fl_X0_25 i_5_5 rfl rfl (by omega) ?_
  refine tz_aload_n (pc := 30) dX0_takeFrom_30 rfl rfl ?_
  refine tz_aload_n (pc := 31) dX0_takeFrom_31 rfl rfl ?_
  refine tz_fI (pc := 32) (kz := 6) (v := (J2 63 6)) dX0_takeFrom_32 fl_X0_29 i_63_6 rfl rfl (fun r_32 => ?_)
  refine tz_pI (pc := 35) (kz := 6) dX0_takeFrom_35 fl_X0_29 i_5_6 rfl rfl (by omega) ?_
  refine tz_iconst (pc := 38) dX0_takeFrom_38 ?_
  refine tz_istore_n (pc := 39) (L2 := [_, _, _, _]) dX0_takeFrom_39 rfl (by decide) rfl ?_
  have loop40 : ∀ (f9 : Nat) (k : Int) (d3 : Option Value) (J3 : zJ), ((40 - k).toNat) < f9 → (0 ≤ k ∧ k ≤ J 63 6) → (zOf frU J3 (zup (zup J2 5 5 (J2 63 5)) 5 6 (J2 63 6))) → (∀ q, 0 ≤ q → q < k → ∀ x, 0 ≤ x → x < 61 → J3 (zU ((J 63 5 + q) % 40)) x = J (zV ((J 63 5 + q) % 40)) x) → tz_At l G M_X0_takeFrom (tb_rm 2 0 0) none (tb_ZM G 0 0 (zQ n 0 (zqv (fun J' => CI J' m ∧ zOf (fun c => decide (c < 5 ∨ 62 < c)) J' J ∧ J' 6 12 = J 64 12 ∧ (∀ t, 0 ≤ t → t < J 64 12 → J' 7 t = J 65 t ∧ J' 8 t = J 66 t ∧ J' 12 t = J 70 t) ∧ (∀ k, 0 ≤ k → k < J 64 12 * 3 → J' 9 k = J 67 k) ∧ (∀ k, 0 ≤ k → k < 61 → J' 19 k = J 77 k) ∧ (J' 5 5 = J 63 5 ∧ J' 5 6 = J 63 6) ∧ ∀ q, 0 ≤ q → q < J 63 6 → ∀ x, 0 ≤ x → x < 61 → J' (zU ((J 63 5 + q) % 40)) x = J (zV ((J 63 5 + q) % 40)) x))) (zX n 0 zN)) 0 0 n J3 40 [some (.ref 5), some (.ref 63), some (zi k), d3] [] := by
    intro f9
    induction f9 with
    | zero => intro k d3 J3 hm9; exact absurd hm9 (Nat.not_lt_zero _)
    | succ f9 ih40 =>
      intro k d3 J3 hm40 hk f3 h3
      have e5 : J3 5 5 = J 63 5 := (congrFun (f3 5 rfl) 5).trans (by rw [zup_ne (by decide), zup_at, s5])
      have e6 : J3 5 6 = J 63 6 := (congrFun (f3 5 rfl) 6).trans (by rw [zup_at, s5])
      have hr3 : ∀ i, 0 ≤ i → i < 40 → J3 (zV i) = J (zV i) := fun i a b => (f3 _ (decide_eq_true (by unfold zV; omega))).trans (by rw [zup_nc (by unfold zV; omega), zup_nc (by unfold zV; omega), l2 _ (by simp [zbut, zV]; omega), t1.2.2.2.2 _ (decide_eq_true (by unfold zV; omega))])
      refine tz_iload_n (pc := 40) dX0_takeFrom_40 rfl rfl ?_
      refine tz_aload_n (pc := 41) dX0_takeFrom_41 rfl rfl ?_
      refine tz_fI (pc := 42) (kz := 6) (v := (J3 5 6)) dX0_takeFrom_42 fl_X0_29 i_5_6 rfl rfl (fun r_42 => ?_)
      refine tz_icmp_ge (pc := 45) (tgt := 83) dX0_takeFrom_45 (by decide) (by omega) (by omega) (fun h_45 => ?_) (fun h_45 => ?_)
      · refine tz_aload_n (pc := 83) dX0_takeFrom_83 rfl rfl ?_
        refine tz_fR (pc := 84) dX0_takeFrom_84 fl_X0_22 r_63_4 ?_
        refine tz_iconst (pc := 87) dX0_takeFrom_87 ?_
        refine tz_aload_n (pc := 88) dX0_takeFrom_88 rfl rfl ?_
        refine tz_fR (pc := 89) dX0_takeFrom_89 fl_X0_22 r_5_4 ?_
        refine tz_iconst (pc := 92) dX0_takeFrom_92 ?_
        refine tz_aload_n (pc := 93) dX0_takeFrom_93 rfl rfl ?_
        refine tz_fR (pc := 94) dX0_takeFrom_94 fl_X0_22 r_5_4 ?_
        refine tz_aN (pc := 97) (lz := 4) dX0_takeFrom_97 a_62 rfl ?_
        refine tz_cp (pc := 98) (sp := 0) (dp := 0) (ln := 4) dX0_takeFrom_98 ml_X0_48 a_120 a_62 rfl rfl (by decide) (Nat.le_of_ble_eq_true rfl) (by decide +kernel) ?_
        have ec : ∀ c, (c < 21 ∨ 60 < c) → ¬ c = 5 → ¬ c = 19 → ¬ c = 62 → zcp J3 120 62 0 0 4 c = J1 c := fun c h9 a b e => by rw [zcp_nc e, f3 c (decide_eq_true h9), zup_nc a, zup_nc a, l2 c (by simp [zbut]; omega)]
        have ed : ∀ c, (c < 5 ∨ 60 < c) → ¬ c = 62 → zcp J3 120 62 0 0 4 c = J c := fun c h9 e => by rw [ec c (by omega) (by omega) (by omega) e, t1.2.2.2.2 c (decide_eq_true (by omega))]
        exact tz_vret (pc := 101) dX0_takeFrom_101 rfl (Nat.le_of_ble_eq_true rfl) (Nat.le_of_ble_eq_true rfl) ⟨Nat.le_refl _, Nat.le_add_right _ _⟩ ⟨rfl, (by
                    have w9 : CI (zcp J3 120 62 0 0 4) m ∧ zOf (fun c => decide (c < 5 ∨ 62 < c)) (zcp J3 120 62 0 0 4) J := ⟨⟨⟨⟨(TQ.ck t1 hK.1.1 hK.1.2).of (fun c hc => ec c (by omega) (by omega) (by omega) (by omega)), by rw [ec 6 (by decide) (by decide) (by decide) (by decide), t1.1]; exact hK.1.2, hK.2.1.c61 (fun k a b => by rw [zcp_nc (by decide), f3 19 rfl, zup_nc (by decide), zup_nc (by decide)]; exact e77 k a b)⟩, hR.of (ed 145 (by decide) (by decide)) (ed 146 (by decide) (by decide)), hP.of (fun c hc => ed c (by omega) (by omega))⟩, RG.cp hK.2.2 ((congrFun (zcp_nc (by decide)) 5).trans e5) ((congrFun (zcp_nc (by decide)) 6).trans e6) (fun q a b x y z => by rw [zcp_nc (by unfold zU; omega)]; exact h3 q a (by omega) x y z)⟩, fun c hc => by have hc9 := of_decide_eq_true hc; exact ed c (by omega) (by omega)⟩
                    exact ⟨w9.1, w9.2, by rw [ec 6 (by omega) (by decide) (by decide) (by decide)]; exact t1.1, fun t a b => ⟨by rw [ec 7 (by omega) (by decide) (by decide) (by decide)]; exact (t1.2.1 t a b).1, by rw [ec 8 (by omega) (by decide) (by decide) (by decide)]; exact (t1.2.1 t a b).2.1, by rw [ec 12 (by omega) (by decide) (by decide) (by decide)]; exact (t1.2.1 t a b).2.2.2.2.1⟩, fun k a b => by rw [ec 9 (by omega) (by decide) (by decide) (by decide)]; exact t1.2.2.1 k a b, fun k a b => by rw [zcp_nc (by decide), f3 19 rfl, zup_nc (by decide), zup_nc (by decide)]; exact e77 k a b, ⟨(congrFun (zcp_nc (by decide)) 5).trans e5, (congrFun (zcp_nc (by decide)) 6).trans e6⟩, fun q a b x y z => by rw [zcp_nc (by unfold zU; omega)]; exact h3 q a (by omega) x y z⟩)⟩
      · refine tz_aload_n (pc := 48) dX0_takeFrom_48 rfl rfl ?_
        refine tz_fI (pc := 49) (kz := 5) (v := (J3 5 5)) dX0_takeFrom_49 fl_X0_25 i_5_5 rfl rfl (fun r_49 => ?_)
        refine tz_iload_n (pc := 52) dX0_takeFrom_52 rfl rfl ?_
        refine tz_iadd (pc := 53) (v := (J3 5 5) + k) dX0_takeFrom_53 rfl ?_
        refine tz_bipush (pc := 54) dX0_takeFrom_54 (by decide) ?_
        refine tz_irem (pc := 56) (a := ((J3 5 5) + k)) (b := 40) (v := (((J3 5 5) + k) % 40)) dX0_takeFrom_56 (by omega) (by omega) rfl ?_
        refine tz_istore_n (pc := 57) (L2 := [_, _, _, _]) dX0_takeFrom_57 rfl (by decide) rfl ?_
        refine tz_aload_n (pc := 58) dX0_takeFrom_58 rfl rfl ?_
        refine tz_fR (pc := 59) dX0_takeFrom_59 fl_X0_13 r_63_2 ?_
        refine tz_iload_n (pc := 62) dX0_takeFrom_62 rfl rfl ?_
        refine tz_aR (pc := 63) (z := (((J3 5 5) + k) % 40)) (r := zV ((J3 5 5 + k) % 40)) dX0_takeFrom_63 (zV_b (by omega)) rfl (by omega) ?_
        refine tz_iconst (pc := 64) dX0_takeFrom_64 ?_
        refine tz_aload_n (pc := 65) dX0_takeFrom_65 rfl rfl ?_
        refine tz_fR (pc := 66) dX0_takeFrom_66 fl_X0_13 r_5_2 ?_
        refine tz_iload_n (pc := 69) dX0_takeFrom_69 rfl rfl ?_
        refine tz_aR (pc := 70) (z := (((J3 5 5) + k) % 40)) (r := zU ((J3 5 5 + k) % 40)) dX0_takeFrom_70 (zU_b (by omega)) rfl (by omega) ?_
        refine tz_iconst (pc := 71) dX0_takeFrom_71 ?_
        refine tz_bipush (pc := 72) dX0_takeFrom_72 (by decide) ?_
        refine tz_cp (pc := 74) (sp := 0) (dp := 0) (ln := 61) dX0_takeFrom_74 ml_X0_48 (zV_a (by omega)) (zU_a (by omega)) rfl rfl (by decide) (Nat.le_of_ble_eq_true rfl) (by decide +kernel) ?_
        refine tz_iinc (pc := 77) (z := k + 1) (L2 := [_, _, _, _]) dX0_takeFrom_77 rfl (by omega) rfl ?_
        refine tz_goto (pc := 80) (tgt := 40) dX0_takeFrom_80 (by decide) ?_
        exact ih40 (k + 1) _ _ (by omega) (by omega) (zOf.cp (decide_eq_false (by unfold zU; omega)) f3) (rowcp_c_takeC e5 (by omega) hk hr3 h3)
  exact loop40 _ 0 none _ (Nat.lt_succ_self _) (by omega) zOf.rf (fun q a b => by omega)

set_option maxHeartbeats 4000000 in
set_option maxRecDepth 100000 in
theorem v_image {l : Launch} {G : tb_G} (hl : l.stackTraces = false) (n : Nat) (J : zJ)   (m : Int) (S : zJ) (pn : Int) (RR : Int → Int → Int) (hI : CI J m) (h9 : J 145 10 < 1000000000) (cc : CAL J S pn RR) (h21 : S 164 21 = 0) : tz_Ok l G M_X11_image 3 0 0 [.ref 0] n J (zqv (fun J' => ((∃ m', CI J' m') ∧ J' 145 10 ≤ J 145 10 + 24000 ∧ (J' 0 13 = J 0 13 ∧ J' 0 14 = J 0 14 ∧ J' 0 15 = 1) ∧ zOf foi J' J) ∧ CAL J' S pn RR ∧ CALk J' S pn RR)) zN := by
  refine tz_Ok.of hl (by decide +kernel) rfl (tb_c1 rfl) (Nat.le_of_ble_eq_true rfl) ?_
  show tz_At l G M_X11_image (tb_rm 3 0 0) none (tb_ZM G 0 0 (zQ n 0 (zqv (fun J' => ((∃ m', CI J' m') ∧ J' 145 10 ≤ J 145 10 + 24000 ∧ (J' 0 13 = J 0 13 ∧ J' 0 14 = J 0 14 ∧ J' 0 15 = 1) ∧ zOf foi J' J) ∧ CAL J' S pn RR ∧ CALk J' S pn RR))) (zX n 0 zN)) 0 0 n J 0 [some (.ref 0)] []
  have hC := hI.1.1.1
  have hm := hI.1.1.2.1
  have hL := hI.1.1.2.2
  have hb := hC.told
  have wb := cc.2.1.b hL
  refine tz_aload_n (pc := 0) dX11_image_0 rfl rfl ?_
  refine tz_fR (pc := 1) dX11_image_1 fl_X11_33 r_0_2 ?_
  refine tz_aload_n (pc := 4) dX11_image_4 rfl rfl ?_
  refine tz_fR (pc := 5) dX11_image_5 fl_X11_29 r_0_1 ?_
  refine tz_cV (pc := 8) (y_takeK hl n _ m hI) vl_X11_394 dX11_image_8 o_63 rfl rfl (Nat.le_of_ble_eq_true rfl) ⟨(Nat.le_of_ble_eq_true rfl), (Nat.le_of_ble_eq_true rfl)⟩ rfl rfl (Nat.le_of_ble_eq_true rfl) (Nat.le_of_ble_eq_true rfl) (fun r9 J1 hq9 => ?_)
  obtain ⟨rfl, k1, k2, k3, k4, k5, k6, k7, k8⟩ := hq9
  refine tz_aload_n (pc := 11) dX11_image_11 rfl rfl ?_
  refine tz_iconst (pc := 12) dX11_image_12 ?_
  refine tz_pZ (pc := 13) (kz := 15) dX11_image_13 fl_X11_114 i_0_15 rfl rfl (Or.inr rfl) ?_
  exact tz_vret (pc := 16) dX11_image_16 rfl (Nat.le_of_ble_eq_true rfl) (Nat.le_of_ble_eq_true rfl) ⟨Nat.le_refl _, Nat.le_add_right _ _⟩ ⟨rfl, ⟨⟨⟨m, ⟨⟨⟨hC.of (fun c hc => (zup_nc (by omega)).trans (k2 c (decide_eq_true (by omega)))), (congrFun (k2 6 rfl) 12).trans hm, by show LI (J1 19) m; rw [k2 19 rfl]; exact hL⟩, hI.1.2.1.of (k2 145 rfl) (k2 146 rfl), ⟨by show (0 ≤ J1 0 13 ∧ J1 0 13 ≤ 700) ∧ J1 156 3 = -1; rw [k2 0 rfl, k2 156 rfl]; exact hI.1.2.2.1, Or.inr ⟨zup_at, m, k1.of (fun c hc => zup_nc (by omega))⟩⟩⟩, hI.2.of (Int.le_refl _) (congrFun (k2 5 rfl) 5) (congrFun (k2 5 rfl) 6) (fun i a b => (zup_nc (by unfold zU; omega)).trans (k2 _ (decide_eq_true (by unfold zU; omega))))⟩⟩, by show J1 145 10 ≤ _; rw [k2 145 rfl]; omega, ⟨congrFun (k2 0 rfl) 13, congrFun (k2 0 rfl) 14, zup_at⟩, zOf.up rfl (k2.mono (fun c hc => by have := of_decide_eq_true hc; exact decide_eq_true (by omega)))⟩, cc.fr hI (fun q a b => (zup_nc (by omega)).trans (k2 q (decide_eq_true (by omega)))), (calk_mk cc hI k3 k4 k5 k6 k7 k8).of (fun c a b => zup_nc (by omega))⟩⟩

set_option maxHeartbeats 4000000 in
set_option maxRecDepth 100000 in
theorem v_restore {l : Launch} {G : tb_G} (hl : l.stackTraces = false) (n : Nat) (J : zJ)   (m : Int) (S : zJ) (pn : Int) (RR : Int → Int → Int) (Gi : zJ) (ni : Int) (Ri : Int → Int → Int) (hI : CI J m) (h9 : J 145 10 < 1000000000) (cc : CAL J S pn RR) (h21 : S 164 21 = 0) (ck : ¬ J 0 15 = 0 → CALk J Gi ni Ri) : tz_Ok l G M_X11_restore 3 0 0 [.ref 0] n J (zqi (fun z J' => (CQ J' J ∧ z = if J 0 15 = 0 then 0 else 1) ∧ (J 0 15 = 0 → CAL J' S pn RR) ∧ (¬ J 0 15 = 0 → CAL J' (gsy S Gi) ni Ri))) zN := by
  refine tz_Ok.of hl (by decide +kernel) rfl (tb_c1 rfl) (Nat.le_of_ble_eq_true rfl) ?_
  show tz_At l G M_X11_restore (tb_rm 3 0 0) none (tb_ZM G 0 0 (zQ n 0 (zqi (fun z J' => (CQ J' J ∧ z = if J 0 15 = 0 then 0 else 1) ∧ (J 0 15 = 0 → CAL J' S pn RR) ∧ (¬ J 0 15 = 0 → CAL J' (gsy S Gi) ni Ri)))) (zX n 0 zN)) 0 0 n J 0 [some (.ref 0)] []
  have hC := hI.1.1.1
  have hm := hI.1.1.2.1
  have hL := hI.1.1.2.2
  have hb := hC.told
  have wb := cc.2.1.b hL
  have hk2 := hI.1.2.2.2
  refine tz_aload_n (pc := 0) dX11_restore_0 rfl rfl ?_
  refine tz_fI (pc := 1) (kz := 15) (v := (J 0 15)) dX11_restore_1 fl_X11_114 i_0_15 rfl rfl (fun r_1 => ?_)
  refine tz_if_ne (pc := 4) (tgt := 9) dX11_restore_4 (by decide) (by omega) (fun h_4 => ?_) (fun h_4 => ?_)
  · have hk3 := (hk2.resolve_left (by omega)).2
    obtain ⟨mk, hK⟩ := hk3
    refine tz_aload_n (pc := 9) dX11_restore_9 rfl rfl ?_
    refine tz_fR (pc := 10) dX11_restore_10 fl_X11_29 r_0_1 ?_
    refine tz_aload_n (pc := 13) dX11_restore_13 rfl rfl ?_
    refine tz_fR (pc := 14) dX11_restore_14 fl_X11_33 r_0_2 ?_
    refine tz_cV (pc := 17) (y_takeC hl n _ mk hK hI.1.2.1 hI.1.2.2) vl_X11_394 dX11_restore_17 o_5 rfl rfl (Nat.le_of_ble_eq_true rfl) ⟨(Nat.le_of_ble_eq_true rfl), (Nat.le_of_ble_eq_true rfl)⟩ rfl rfl (Nat.le_of_ble_eq_true rfl) (Nat.le_of_ble_eq_true rfl) (fun r9 J1 hq9 => ?_)
    obtain ⟨rfl, k1, k2, k3, k4, k5, k6, k7, k8⟩ := hq9
    refine tz_iconst (pc := 20) dX11_restore_20 ?_
    exact tz_zret (pc := 21) (z := 1) dX11_restore_21 rfl (Or.inr rfl) (Nat.le_of_ble_eq_true rfl) (Nat.le_of_ble_eq_true rfl) ⟨Nat.le_refl _, Nat.le_add_right _ _⟩ ⟨_, rfl, (by decide), (by first | exact ⟨⟨⟨⟨mk, k1⟩, by rw [k2 145 rfl]; omega, k2 0 rfl, k2.mono (fun c hc => by have := of_decide_eq_true hc; exact decide_eq_true (by omega))⟩, by rw [if_neg (by omega)]⟩, fun q => absurd q (by omega), fun q => cal_rs cc (ck q) hK (fun c a => k2 c (decide_eq_true (by omega))) k3 k4 k5 k6 k7 k8⟩ | exact ⟨⟨CQ.rf hI, by rw [if_pos (by omega)]⟩, fun _ => cc, fun q => absurd q (by omega)⟩)⟩
  · refine tz_iconst (pc := 7) dX11_restore_7 ?_
    exact tz_zret (pc := 8) (z := 0) dX11_restore_8 rfl (Or.inl rfl) (Nat.le_of_ble_eq_true rfl) (Nat.le_of_ble_eq_true rfl) ⟨Nat.le_refl _, Nat.le_add_right _ _⟩ ⟨_, rfl, (by decide), (by first | exact ⟨⟨⟨⟨mk, k1⟩, by rw [k2 145 rfl]; omega, k2 0 rfl, k2.mono (fun c hc => by have := of_decide_eq_true hc; exact decide_eq_true (by omega))⟩, by rw [if_neg (by omega)]⟩, fun q => absurd q (by omega), fun q => cal_rs cc (ck q) hK (fun c a => k2 c (decide_eq_true (by omega))) k3 k4 k5 k6 k7 k8⟩ | exact ⟨⟨CQ.rf hI, by rw [if_pos (by omega)]⟩, fun _ => cc, fun q => absurd q (by omega)⟩)⟩

