theorem CT.of {J' J : zJ} {m : Int} (h : CT J m) (e : ∀ c, c = 1 ∨ c = 3 ∨ c = 4 ∨ (7 ≤ c ∧ c ≤ 16) → J' c = J c) : CT J' m :=
  h.su (e 1 (by omega)) (e 3 (by omega)) (e 4 (by omega)) (e 16 (by omega)) ⟨fun t _ _ => ⟨congrFun (e 7 (by omega)) t, congrFun (e 8 (by omega)) t, congrFun (e 10 (by omega)) t, congrFun (e 11 (by omega)) t, congrFun (e 12 (by omega)) t, congrFun (e 13 (by omega)) t, congrFun (e 14 (by omega)) t, congrFun (e 15 (by omega)) t⟩, fun k _ _ => congrFun (e 9 (by omega)) k⟩
/-! the ring of undo rows -/
def zU (i : Int) : Nat := 21 + i.toNat
theorem zU_bn : ∀ i : Nat, i < 40 → tb_cB tb_shT 20 40 i (21 + i) = true := by decide +kernel
theorem zU_an : ∀ i : Nat, i < 40 → tb_cA tb_shT (21 + i) 61 = true := by decide +kernel
theorem zU_b {i : Int} (h : 0 ≤ i ∧ i < 40) : tb_cB tb_shT 20 40 i.toNat (zU i) = true := zU_bn i.toNat (by omega)
theorem zU_a {i : Int} (h : 0 ≤ i ∧ i < 40) : tb_cA tb_shT (zU i) 61 = true := zU_an i.toNat (by omega)
theorem zU_r {i : Int} (h : 0 ≤ i ∧ i < 40) : 21 ≤ zU i ∧ zU i < 61 := by unfold zU; omega
set_option maxHeartbeats 4000000 in
set_option maxRecDepth 100000 in
theorem c_begin {l : Launch} {G : tb_G} (hl : l.stackTraces = false) (n : Nat) (J : zJ)     : tz_Ok l G M_X0_begin 1 0 0 [.ref 5] n J (zqv (fun J' => zcp (zup J 19 0 (J 6 12)) 19 61 0 0 61 = J')) zN := by
  refine tz_Ok.of hl (by decide +kernel) rfl (tb_c1 rfl) (Nat.le_of_ble_eq_true rfl) ?_
  show tz_At l G M_X0_begin (tb_rm 1 0 0) none (tb_ZM G 0 0 (zQ n 0 (zqv (fun J' => zcp (zup J 19 0 (J 6 12)) 19 61 0 0 61 = J'))) (zX n 0 zN)) 0 0 n J 0 [some (.ref 5)] []
  refine tz_aload_n (pc := 0) dX0_begin_0 rfl rfl ?_
  refine tz_fR (pc := 1) dX0_begin_1 fl_X0_36 r_5_1 ?_
  refine tz_fR (pc := 4) dX0_begin_4 fl_X0_40 r_18_0 ?_
  refine tz_iconst (pc := 7) dX0_begin_7 ?_
  refine tz_aload_n (pc := 8) dX0_begin_8 rfl rfl ?_
  refine tz_fR (pc := 9) dX0_begin_9 fl_X0_32 r_5_0 ?_
  refine tz_fI (pc := 12) (kz := 12) (v := (J 6 12)) dX0_begin_12 fl_X0_43 i_6_12 rfl rfl (fun r_12 => ?_)
  refine tz_aS (pc := 15) (z := 0) dX0_begin_15 a_19 rfl (by decide) (by omega) ?_
  refine tz_aload_n (pc := 16) dX0_begin_16 rfl rfl ?_
  refine tz_fR (pc := 17) dX0_begin_17 fl_X0_36 r_5_1 ?_
  refine tz_fR (pc := 20) dX0_begin_20 fl_X0_40 r_18_0 ?_
  refine tz_iconst (pc := 23) dX0_begin_23 ?_
  refine tz_aload_n (pc := 24) dX0_begin_24 rfl rfl ?_
  refine tz_fR (pc := 25) dX0_begin_25 fl_X0_18 r_5_3 ?_
  refine tz_iconst (pc := 28) dX0_begin_28 ?_
  refine tz_bipush (pc := 29) dX0_begin_29 (by decide) ?_
  refine tz_cp (pc := 31) (sp := 0) (dp := 0) (ln := 61) dX0_begin_31 ml_X0_48 a_19 a_61 rfl rfl (by decide) (Nat.le_of_ble_eq_true rfl) (by decide +kernel) ?_
  exact tz_vret (pc := 34) dX0_begin_34 rfl (Nat.le_of_ble_eq_true rfl) (Nat.le_of_ble_eq_true rfl) ⟨Nat.le_refl _, Nat.le_add_right _ _⟩ ⟨rfl, rfl⟩

set_option maxHeartbeats 4000000 in
set_option maxRecDepth 100000 in
theorem c_forget {l : Launch} {G : tb_G} (hl : l.stackTraces = false) (n : Nat) (J : zJ)     : tz_Ok l G M_X0_forgetActs 0 0 0 [.ref 5] n J (zqv (fun J' => zup (zup J 5 6 0) 5 5 0 = J')) zN := by
  refine tz_Ok.of hl (by decide +kernel) rfl (tb_c1 rfl) (Nat.le_of_ble_eq_true rfl) ?_
  show tz_At l G M_X0_forgetActs (tb_rm 0 0 0) none (tb_ZM G 0 0 (zQ n 0 (zqv (fun J' => zup (zup J 5 6 0) 5 5 0 = J'))) (zX n 0 zN)) 0 0 n J 0 [some (.ref 5)] []
  refine tz_aload_n (pc := 0) dX0_forgetActs_0 rfl rfl ?_
  refine tz_iconst (pc := 1) dX0_forgetActs_1 ?_
  refine tz_pI (pc := 2) (kz := 6) dX0_forgetActs_2 fl_X0_29 i_5_6 rfl rfl (by decide) ?_
  refine tz_aload_n (pc := 5) dX0_forgetActs_5 rfl rfl ?_
  refine tz_iconst (pc := 6) dX0_forgetActs_6 ?_
  refine tz_pI (pc := 7) (kz := 5) dX0_forgetActs_7 fl_X0_25 i_5_5 rfl rfl (by decide) ?_
  exact tz_vret (pc := 10) dX0_forgetActs_10 rfl (Nat.le_of_ble_eq_true rfl) (Nat.le_of_ble_eq_true rfl) ⟨Nat.le_refl _, Nat.le_add_right _ _⟩ ⟨rfl, rfl⟩

set_option maxHeartbeats 4000000 in
set_option maxRecDepth 100000 in
theorem c_keepN {l : Launch} {G : tb_G} (hl : l.stackTraces = false) (n : Nat) (J : zJ)    (h6 : 0 ≤ J 5 6 ∧ J 5 6 < 40) (h5 : 0 ≤ J 5 5 ∧ J 5 5 < 40) : tz_Ok l G M_X0_keep 1 0 0 [.ref 5] n J (zqv (fun J' => zup (zcp J 61 (zU ((J 5 5 + J 5 6) % 40)) 0 0 61) 5 6 (J 5 6 + 1) = J')) zN := by
  refine tz_Ok.of hl (by decide +kernel) rfl (tb_c1 rfl) (Nat.le_of_ble_eq_true rfl) ?_
  show tz_At l G M_X0_keep (tb_rm 1 0 0) none (tb_ZM G 0 0 (zQ n 0 (zqv (fun J' => zup (zcp J 61 (zU ((J 5 5 + J 5 6) % 40)) 0 0 61) 5 6 (J 5 6 + 1) = J'))) (zX n 0 zN)) 0 0 n J 0 [some (.ref 5)] []
  refine tz_aload_n (pc := 0) dX0_keep_0 rfl rfl ?_
  refine tz_fI (pc := 1) (kz := 6) (v := (J 5 6)) dX0_keep_1 fl_X0_29 i_5_6 rfl rfl (fun r_1 => ?_)
  refine tz_bipush (pc := 4) dX0_keep_4 (by decide) ?_
  refine tz_icmp_neT (pc := 6) (tgt := 32) (by omega) dX0_keep_6 (by decide) (by omega) (by decide) ?_
  refine tz_aload_n (pc := 32) dX0_keep_32 rfl rfl ?_
  refine tz_fR (pc := 33) dX0_keep_33 fl_X0_18 r_5_3 ?_
  refine tz_iconst (pc := 36) dX0_keep_36 ?_
  refine tz_aload_n (pc := 37) dX0_keep_37 rfl rfl ?_
  refine tz_fR (pc := 38) dX0_keep_38 fl_X0_13 r_5_2 ?_
  refine tz_aload_n (pc := 41) dX0_keep_41 rfl rfl ?_
  refine tz_fI (pc := 42) (kz := 5) (v := (J 5 5)) dX0_keep_42 fl_X0_25 i_5_5 rfl rfl (fun r_42 => ?_)
  refine tz_aload_n (pc := 45) dX0_keep_45 rfl rfl ?_
  refine tz_fI (pc := 46) (kz := 6) (v := (J 5 6)) dX0_keep_46 fl_X0_29 i_5_6 rfl rfl (fun r_46 => ?_)
  refine tz_iadd (pc := 49) (v := (J 5 5) + (J 5 6)) dX0_keep_49 rfl ?_
  refine tz_bipush (pc := 50) dX0_keep_50 (by decide) ?_
  refine tz_irem (pc := 52) (a := ((J 5 5) + (J 5 6))) (b := 40) (v := (((J 5 5) + (J 5 6)) % 40)) dX0_keep_52 (by omega) (by omega) rfl ?_
  refine tz_aR (pc := 53) (z := (((J 5 5) + (J 5 6)) % 40)) (r := zU ((J 5 5 + J 5 6) % 40)) dX0_keep_53 (zU_b (by omega)) rfl (by omega) ?_
  refine tz_iconst (pc := 54) dX0_keep_54 ?_
  refine tz_bipush (pc := 55) dX0_keep_55 (by decide) ?_
  refine tz_cp (pc := 57) (sp := 0) (dp := 0) (ln := 61) dX0_keep_57 ml_X0_48 a_61 (zU_a (by omega)) rfl rfl (by decide) (Nat.le_of_ble_eq_true rfl) (by decide +kernel) ?_
  refine tz_aload_n (pc := 60) dX0_keep_60 rfl rfl ?_
  refine tz_dup (pc := 61) dX0_keep_61 rfl ?_
  refine tz_fI (pc := 62) (kz := 6) (v := (J 5 6)) dX0_keep_62 fl_X0_29 i_5_6 rfl (congrFun (zcp_nc (by have := zU_r (i := (J 5 5 + J 5 6) % 40) (by omega); omega)) 6) (fun r_62 => ?_)
  refine tz_iconst (pc := 65) dX0_keep_65 ?_
  refine tz_iadd (pc := 66) (v := (J 5 6) + 1) dX0_keep_66 rfl ?_
  refine tz_pI (pc := 67) (kz := 6) dX0_keep_67 fl_X0_29 i_5_6 rfl rfl (by omega) ?_
  exact tz_vret (pc := 70) dX0_keep_70 rfl (Nat.le_of_ble_eq_true rfl) (Nat.le_of_ble_eq_true rfl) ⟨Nat.le_refl _, Nat.le_add_right _ _⟩ ⟨rfl, rfl⟩

set_option maxHeartbeats 4000000 in
set_option maxRecDepth 100000 in
theorem c_keepF {l : Launch} {G : tb_G} (hl : l.stackTraces = false) (n : Nat) (J : zJ)    (h6 : J 5 6 = 40) (h5 : 0 ≤ J 5 5 ∧ J 5 5 < 40) : tz_Ok l G M_X0_keep 1 0 0 [.ref 5] n J (zqv (fun J' => zup (zcp (zup (zup J 5 5 ((J 5 5 + 1) % 40)) 5 6 39) 61 (zU (((J 5 5 + 1) % 40 + 39) % 40)) 0 0 61) 5 6 40 = J')) zN := by
  refine tz_Ok.of hl (by decide +kernel) rfl (tb_c1 rfl) (Nat.le_of_ble_eq_true rfl) ?_
  show tz_At l G M_X0_keep (tb_rm 1 0 0) none (tb_ZM G 0 0 (zQ n 0 (zqv (fun J' => zup (zcp (zup (zup J 5 5 ((J 5 5 + 1) % 40)) 5 6 39) 61 (zU (((J 5 5 + 1) % 40 + 39) % 40)) 0 0 61) 5 6 40 = J'))) (zX n 0 zN)) 0 0 n J 0 [some (.ref 5)] []
  refine tz_aload_n (pc := 0) dX0_keep_0 rfl rfl ?_
  refine tz_fI (pc := 1) (kz := 6) (v := 40) dX0_keep_1 fl_X0_29 i_5_6 rfl h6 (fun _ => ?_)
  refine tz_bipush (pc := 4) dX0_keep_4 (by decide) ?_
  refine tz_icmp_neF (pc := 6) (tgt := 32) (by decide) dX0_keep_6 (by decide) (by decide) (by decide) ?_
  refine tz_aload_n (pc := 9) dX0_keep_9 rfl rfl ?_
  refine tz_aload_n (pc := 10) dX0_keep_10 rfl rfl ?_
  refine tz_fI (pc := 11) (kz := 5) (v := (J 5 5)) dX0_keep_11 fl_X0_25 i_5_5 rfl rfl (fun r_11 => ?_)
  refine tz_iconst (pc := 14) dX0_keep_14 ?_
  refine tz_iadd (pc := 15) (v := (J 5 5) + 1) dX0_keep_15 rfl ?_
  refine tz_bipush (pc := 16) dX0_keep_16 (by decide) ?_
  refine tz_irem (pc := 18) (a := ((J 5 5) + 1)) (b := 40) (v := (((J 5 5) + 1) % 40)) dX0_keep_18 (by omega) (by omega) rfl ?_
  refine tz_pI (pc := 19) (kz := 5) dX0_keep_19 fl_X0_25 i_5_5 rfl rfl (by omega) ?_
  refine tz_aload_n (pc := 22) dX0_keep_22 rfl rfl ?_
  refine tz_dup (pc := 23) dX0_keep_23 rfl ?_
  refine tz_fI (pc := 24) (kz := 6) (v := 40) dX0_keep_24 fl_X0_29 i_5_6 rfl h6 (fun _ => ?_)
  refine tz_iconst (pc := 27) dX0_keep_27 ?_
  refine tz_isub (pc := 28) (v := 39) dX0_keep_28 (by decide) ?_
  refine tz_pI (pc := 29) (kz := 6) dX0_keep_29 fl_X0_29 i_5_6 rfl rfl (by decide) ?_
  refine tz_aload_n (pc := 32) dX0_keep_32 rfl rfl ?_
  refine tz_fR (pc := 33) dX0_keep_33 fl_X0_18 r_5_3 ?_
  refine tz_iconst (pc := 36) dX0_keep_36 ?_
  refine tz_aload_n (pc := 37) dX0_keep_37 rfl rfl ?_
  refine tz_fR (pc := 38) dX0_keep_38 fl_X0_13 r_5_2 ?_
  refine tz_aload_n (pc := 41) dX0_keep_41 rfl rfl ?_
  refine tz_fI (pc := 42) (kz := 5) (v := (((J 5 5) + 1) % 40)) dX0_keep_42 fl_X0_25 i_5_5 rfl rfl (fun r_42 => ?_)
  refine tz_aload_n (pc := 45) dX0_keep_45 rfl rfl ?_
  refine tz_fI (pc := 46) (kz := 6) (v := 39) dX0_keep_46 fl_X0_29 i_5_6 rfl rfl (fun _ => ?_)
  refine tz_iadd (pc := 49) (v := (((J 5 5) + 1) % 40) + 39) dX0_keep_49 rfl ?_
  refine tz_bipush (pc := 50) dX0_keep_50 (by decide) ?_
  refine tz_irem (pc := 52) (a := ((((J 5 5) + 1) % 40) + 39)) (b := 40) (v := (((((J 5 5) + 1) % 40) + 39) % 40)) dX0_keep_52 (by omega) (by omega) rfl ?_
  refine tz_aR (pc := 53) (z := (((((J 5 5) + 1) % 40) + 39) % 40)) (r := zU (((J 5 5 + 1) % 40 + 39) % 40)) dX0_keep_53 (zU_b (by omega)) rfl (by omega) ?_
  refine tz_iconst (pc := 54) dX0_keep_54 ?_
  refine tz_bipush (pc := 55) dX0_keep_55 (by decide) ?_
  refine tz_cp (pc := 57) (sp := 0) (dp := 0) (ln := 61) dX0_keep_57 ml_X0_48 a_61 (zU_a (by omega)) rfl rfl (by decide) (Nat.le_of_ble_eq_true rfl) (by decide +kernel) ?_
  refine tz_aload_n (pc := 60) dX0_keep_60 rfl rfl ?_
  refine tz_dup (pc := 61) dX0_keep_61 rfl ?_
  refine tz_fI (pc := 62) (kz := 6) (v := 39) dX0_keep_62 fl_X0_29 i_5_6 rfl ((congrFun (zcp_nc (by have := zU_r (i := ((J 5 5 + 1) % 40 + 39) % 40) (by omega); omega)) 6).trans zup_at) (fun _ => ?_)
  refine tz_iconst (pc := 65) dX0_keep_65 ?_
  refine tz_iadd (pc := 66) (v := 40) dX0_keep_66 (by decide) ?_
  refine tz_pI (pc := 67) (kz := 6) dX0_keep_67 fl_X0_29 i_5_6 rfl rfl (by decide) ?_
  exact tz_vret (pc := 70) dX0_keep_70 rfl (Nat.le_of_ble_eq_true rfl) (Nat.le_of_ble_eq_true rfl) ⟨Nat.le_refl _, Nat.le_add_right _ _⟩ ⟨rfl, rfl⟩

set_option maxHeartbeats 4000000 in
set_option maxRecDepth 100000 in
theorem c_takeBack {l : Launch} {G : tb_G} (hl : l.stackTraces = false) (n : Nat) (J : zJ)   (r : Nat) (m : Int) (hr : tb_cA tb_shT r 61 = true) (h9 : ¬ r = 19) (C : CT J m) (hm : J 6 12 = m) (hx : 0 ≤ J r 0 ∧ J r 0 ≤ m) : tz_Ok l G M_X0_takeBack 3 0 0 [.ref 5, .ref r] n J (zqv (fun J' => zOf (zbut [6, 16, 19]) J' J ∧ J' 19 = zcp J r 19 0 0 61 19 ∧ J' 6 12 = J r 0 ∧ CT J' (J r 0))) zN := by
  refine tz_Ok.of hl (by decide +kernel) rfl (tb_c1 rfl) (Nat.le_of_ble_eq_true rfl) ?_
  show tz_At l G M_X0_takeBack (tb_rm 3 0 0) none (tb_ZM G 0 0 (zQ n 0 (zqv (fun J' => zOf (zbut [6, 16, 19]) J' J ∧ J' 19 = zcp J r 19 0 0 61 19 ∧ J' 6 12 = J r 0 ∧ CT J' (J r 0)))) (zX n 0 zN)) 0 0 n J 0 [some (.ref 5), some (.ref r)] []
  have ht := C.told
  refine tz_aload_n (pc := 0) dX0_takeBack_0 rfl rfl ?_
  refine tz_iconst (pc := 1) dX0_takeBack_1 ?_
  refine tz_aload_n (pc := 2) dX0_takeBack_2 rfl rfl ?_
  refine tz_fR (pc := 3) dX0_takeBack_3 fl_X0_36 r_5_1 ?_
  refine tz_fR (pc := 6) dX0_takeBack_6 fl_X0_40 r_18_0 ?_
  refine tz_iconst (pc := 9) dX0_takeBack_9 ?_
  refine tz_bipush (pc := 10) dX0_takeBack_10 (by decide) ?_
  refine tz_cp (pc := 12) (sp := 0) (dp := 0) (ln := 61) dX0_takeBack_12 ml_X0_48 hr a_19 rfl rfl (by decide) (Nat.le_of_ble_eq_true rfl) (by decide +kernel) ?_
  refine tz_aload_n (pc := 15) dX0_takeBack_15 rfl rfl ?_
  refine tz_fR (pc := 16) dX0_takeBack_16 fl_X0_32 r_5_0 ?_
  refine tz_aload_n (pc := 19) dX0_takeBack_19 rfl rfl ?_
  refine tz_iconst (pc := 20) dX0_takeBack_20 ?_
  refine tz_aL (pc := 21) (z := 0) (v := (J r 0)) dX0_takeBack_21 hr rfl (by decide) (congrFun (zcp_nc h9) 0) (fun r_21 => ?_)
  refine tz_cV (pc := 22) (c_cutTo hl n _ _ (by omega) m (C.of (fun c hc => zcp_nc (by omega))) hm hx) vl_X0_58 dX0_takeBack_22 o_6 rfl rfl (Nat.le_of_ble_eq_true rfl) ⟨(Nat.le_of_ble_eq_true rfl), (Nat.le_of_ble_eq_true rfl)⟩ rfl rfl (Nat.le_of_ble_eq_true rfl) (Nat.le_of_ble_eq_true rfl) (fun r9 J_22 hq9 => ?_)
  obtain ⟨rfl, f1, f2, f3⟩ := hq9
  exact tz_vret (pc := 25) dX0_takeBack_25 rfl (Nat.le_of_ble_eq_true rfl) (Nat.le_of_ble_eq_true rfl) ⟨Nat.le_refl _, Nat.le_add_right _ _⟩ ⟨rfl, ⟨(zOf.mono f1 (fun c hc => by simp [zbut] at hc ⊢; omega)).tr (zOf.cp rfl zOf.rf), f1 19 rfl, f2, f3⟩⟩

