section
set_option maxHeartbeats 4000000 in
set_option maxRecDepth 100000 in
theorem c_rollBack {l : Launch} {G : tb_G} (hl : l.stackTraces = false) (n : Nat) (J : zJ)   (m : Int) (C : CT J m) (hm : J 6 12 = m) (hx : 0 ≤ J 61 0 ∧ J 61 0 ≤ m) : tz_Ok l G M_X0_rollBack 4 0 0 [.ref 5] n J (zqv (fun J' => zOf (zbut [6, 16, 19]) J' J ∧ J' 19 = zcp J 61 19 0 0 61 19 ∧ J' 6 12 = J 61 0 ∧ CT J' (J 61 0))) zN := by
  refine tz_Ok.of hl (by decide +kernel) rfl (tb_c1 rfl) (Nat.le_of_ble_eq_true rfl) ?_
  show tz_At l G M_X0_rollBack (tb_rm 4 0 0) none (tb_ZM G 0 0 (zQ n 0 (zqv (fun J' => zOf (zbut [6, 16, 19]) J' J ∧ J' 19 = zcp J 61 19 0 0 61 19 ∧ J' 6 12 = J 61 0 ∧ CT J' (J 61 0)))) (zX n 0 zN)) 0 0 n J 0 [some (.ref 5)] []
  refine tz_aload_n (pc := 0) dX0_rollBack_0 rfl rfl ?_
  refine tz_aload_n (pc := 1) dX0_rollBack_1 rfl rfl ?_
  refine tz_fR (pc := 2) dX0_rollBack_2 fl_X0_18 r_5_3 ?_
  refine tz_cV (pc := 5) (c_takeBack hl n _ 61 m a_61 (by decide) C hm hx) vl_X0_54 dX0_rollBack_5 o_5 rfl rfl (Nat.le_of_ble_eq_true rfl) ⟨(Nat.le_of_ble_eq_true rfl), (Nat.le_of_ble_eq_true rfl)⟩ rfl rfl (Nat.le_of_ble_eq_true rfl) (Nat.le_of_ble_eq_true rfl) (fun r9 J_5 hq9 => ?_)
  obtain ⟨rfl, f1⟩ := hq9
  exact tz_vret (pc := 8) dX0_rollBack_8 rfl (Nat.le_of_ble_eq_true rfl) (Nat.le_of_ble_eq_true rfl) ⟨Nat.le_refl _, Nat.le_add_right _ _⟩ ⟨rfl, f1⟩

set_option maxHeartbeats 4000000 in
set_option maxRecDepth 100000 in
theorem c_undoN {l : Launch} {G : tb_G} (hl : l.stackTraces = false) (n : Nat) (J : zJ)   (m : Int) (h6 : 0 < J 5 6 ∧ J 5 6 ≤ 40) (h5 : 0 ≤ J 5 5 ∧ J 5 5 < 40) (C : CT J m) (hm : J 6 12 = m) (hx : 0 ≤ J (zU ((J 5 5 + (J 5 6 - 1)) % 40)) 0 ∧ J (zU ((J 5 5 + (J 5 6 - 1)) % 40)) 0 ≤ m) : tz_Ok l G M_X0_undoLast 4 0 0 [.ref 5] n J (zqi (fun z J' => J 5 6 - 1 = z ∧ zOf (zbut [6, 16, 19]) J' (zup J 5 6 (J 5 6 - 1)) ∧ J' 19 = zcp (zup J 5 6 (J 5 6 - 1)) (zU ((J 5 5 + (J 5 6 - 1)) % 40)) 19 0 0 61 19 ∧ J' 6 12 = (zup J 5 6 (J 5 6 - 1)) (zU ((J 5 5 + (J 5 6 - 1)) % 40)) 0 ∧ CT J' ((zup J 5 6 (J 5 6 - 1)) (zU ((J 5 5 + (J 5 6 - 1)) % 40)) 0))) zN := by
  refine tz_Ok.of hl (by decide +kernel) rfl (tb_c1 rfl) (Nat.le_of_ble_eq_true rfl) ?_
  show tz_At l G M_X0_undoLast (tb_rm 4 0 0) none (tb_ZM G 0 0 (zQ n 0 (zqi (fun z J' => J 5 6 - 1 = z ∧ zOf (zbut [6, 16, 19]) J' (zup J 5 6 (J 5 6 - 1)) ∧ J' 19 = zcp (zup J 5 6 (J 5 6 - 1)) (zU ((J 5 5 + (J 5 6 - 1)) % 40)) 19 0 0 61 19 ∧ J' 6 12 = (zup J 5 6 (J 5 6 - 1)) (zU ((J 5 5 + (J 5 6 - 1)) % 40)) 0 ∧ CT J' ((zup J 5 6 (J 5 6 - 1)) (zU ((J 5 5 + (J 5 6 - 1)) % 40)) 0)))) (zX n 0 zN)) 0 0 n J 0 [some (.ref 5)] []
  have hu := zU_r (i := (J 5 5 + (J 5 6 - 1)) % 40) (by omega)
  refine tz_aload_n (pc := 0) dX0_undoLast_0 rfl rfl ?_
  refine tz_fI (pc := 1) (kz := 6) (v := (J 5 6)) dX0_undoLast_1 fl_X0_29 i_5_6 rfl rfl (fun r_1 => ?_)
  refine tz_if_neT (pc := 4) (tgt := 9) (by omega) dX0_undoLast_4 (by decide) (by omega) ?_
  refine tz_aload_n (pc := 9) dX0_undoLast_9 rfl rfl ?_
  refine tz_dup (pc := 10) dX0_undoLast_10 rfl ?_
  refine tz_fI (pc := 11) (kz := 6) (v := (J 5 6)) dX0_undoLast_11 fl_X0_29 i_5_6 rfl rfl (fun r_11 => ?_)
  refine tz_iconst (pc := 14) dX0_undoLast_14 ?_
  refine tz_isub (pc := 15) (v := (J 5 6) - 1) dX0_undoLast_15 rfl ?_
  refine tz_pI (pc := 16) (kz := 6) dX0_undoLast_16 fl_X0_29 i_5_6 rfl rfl (by omega) ?_
  refine tz_aload_n (pc := 19) dX0_undoLast_19 rfl rfl ?_
  refine tz_aload_n (pc := 20) dX0_undoLast_20 rfl rfl ?_
  refine tz_fR (pc := 21) dX0_undoLast_21 fl_X0_13 r_5_2 ?_
  refine tz_aload_n (pc := 24) dX0_undoLast_24 rfl rfl ?_
  refine tz_fI (pc := 25) (kz := 5) (v := (J 5 5)) dX0_undoLast_25 fl_X0_25 i_5_5 rfl rfl (fun r_25 => ?_)
  refine tz_aload_n (pc := 28) dX0_undoLast_28 rfl rfl ?_
  refine tz_fI (pc := 29) (kz := 6) (v := ((J 5 6) - 1)) dX0_undoLast_29 fl_X0_29 i_5_6 rfl rfl (fun r_29 => ?_)
  refine tz_iadd (pc := 32) (v := (J 5 5) + ((J 5 6) - 1)) dX0_undoLast_32 rfl ?_
  refine tz_bipush (pc := 33) dX0_undoLast_33 (by decide) ?_
  refine tz_irem (pc := 35) (a := ((J 5 5) + ((J 5 6) - 1))) (b := 40) (v := (((J 5 5) + ((J 5 6) - 1)) % 40)) dX0_undoLast_35 (by omega) (by omega) rfl ?_
  refine tz_aR (pc := 36) (z := (((J 5 5) + ((J 5 6) - 1)) % 40)) (r := zU ((J 5 5 + (J 5 6 - 1)) % 40)) dX0_undoLast_36 (zU_b (by omega)) rfl (by omega) ?_
  refine tz_cV (pc := 37) (c_takeBack hl n _ (zU ((J 5 5 + (J 5 6 - 1)) % 40)) m (zU_a (by omega)) (by omega) (C.of (fun c hc => zup_nc (by omega))) hm (by rw [zup_nc (by omega)]; exact hx)) vl_X0_54 dX0_undoLast_37 o_5 rfl rfl (Nat.le_of_ble_eq_true rfl) ⟨(Nat.le_of_ble_eq_true rfl), (Nat.le_of_ble_eq_true rfl)⟩ rfl rfl (Nat.le_of_ble_eq_true rfl) (Nat.le_of_ble_eq_true rfl) (fun r9 J_37 hq9 => ?_)
  obtain ⟨rfl, f1⟩ := hq9
  refine tz_aload_n (pc := 40) dX0_undoLast_40 rfl rfl ?_
  refine tz_fI (pc := 41) (kz := 6) (v := (J 5 6 - 1)) dX0_undoLast_41 fl_X0_29 i_5_6 rfl ((congrFun (f1.1 5 rfl) 6).trans zup_at) (fun r_41 => ?_)
  exact tz_iret (pc := 44) (z := (J 5 6 - 1)) dX0_undoLast_44 rfl (Nat.le_of_ble_eq_true rfl) (Nat.le_of_ble_eq_true rfl) ⟨Nat.le_refl _, Nat.le_add_right _ _⟩ ⟨_, rfl, (by omega), ⟨rfl, f1⟩⟩

set_option maxHeartbeats 4000000 in
set_option maxRecDepth 100000 in
theorem c_syTake121 {l : Launch} {G : tb_G} (hl : l.stackTraces = false) (n : Nat) (J : zJ)     : tz_Ok l G M_X8_takeFrom 1 0 0 [.ref 121, .ref 1] n J (zqv (fun J' => zup (zcp (zcp (zcp (J) 2 122 0 0 10) 3 123 0 0 10) 4 124 0 0 10) 121 3 (J 1 3) = J')) zN := by
  refine tz_Ok.of hl (by decide +kernel) rfl (tb_c1 rfl) (Nat.le_of_ble_eq_true rfl) ?_
  show tz_At l G M_X8_takeFrom (tb_rm 1 0 0) none (tb_ZM G 0 0 (zQ n 0 (zqv (fun J' => zup (zcp (zcp (zcp (J) 2 122 0 0 10) 3 123 0 0 10) 4 124 0 0 10) 121 3 (J 1 3) = J'))) (zX n 0 zN)) 0 0 n J 0 [some (.ref 121), some (.ref 1)] []
  refine tz_aload_n (pc := 0) dX8_takeFrom_0 rfl rfl ?_
  refine tz_fR (pc := 1) dX8_takeFrom_1 fl_X8_9 r_1_0 ?_
  refine tz_iconst (pc := 4) dX8_takeFrom_4 ?_
  refine tz_aload_n (pc := 5) dX8_takeFrom_5 rfl rfl ?_
  refine tz_fR (pc := 6) dX8_takeFrom_6 fl_X8_9 r_121_0 ?_
  refine tz_iconst (pc := 9) dX8_takeFrom_9 ?_
  refine tz_bipush (pc := 10) dX8_takeFrom_10 (by decide) ?_
  refine tz_cp (pc := 12) (sp := 0) (dp := 0) (ln := 10) dX8_takeFrom_12 ml_X8_25 a_2 a_122 rfl rfl (by decide) (Nat.le_of_ble_eq_true rfl) (by decide +kernel) ?_
  refine tz_aload_n (pc := 15) dX8_takeFrom_15 rfl rfl ?_
  refine tz_fR (pc := 16) dX8_takeFrom_16 fl_X8_15 r_1_1 ?_
  refine tz_iconst (pc := 19) dX8_takeFrom_19 ?_
  refine tz_aload_n (pc := 20) dX8_takeFrom_20 rfl rfl ?_
  refine tz_fR (pc := 21) dX8_takeFrom_21 fl_X8_15 r_121_1 ?_
  refine tz_iconst (pc := 24) dX8_takeFrom_24 ?_
  refine tz_bipush (pc := 25) dX8_takeFrom_25 (by decide) ?_
  refine tz_cp (pc := 27) (sp := 0) (dp := 0) (ln := 10) dX8_takeFrom_27 ml_X8_25 a_3 a_123 rfl rfl (by decide) (Nat.le_of_ble_eq_true rfl) (by decide +kernel) ?_
  refine tz_aload_n (pc := 30) dX8_takeFrom_30 rfl rfl ?_
  refine tz_fR (pc := 31) dX8_takeFrom_31 fl_X8_18 r_1_2 ?_
  refine tz_iconst (pc := 34) dX8_takeFrom_34 ?_
  refine tz_aload_n (pc := 35) dX8_takeFrom_35 rfl rfl ?_
  refine tz_fR (pc := 36) dX8_takeFrom_36 fl_X8_18 r_121_2 ?_
  refine tz_iconst (pc := 39) dX8_takeFrom_39 ?_
  refine tz_bipush (pc := 40) dX8_takeFrom_40 (by decide) ?_
  refine tz_cp (pc := 42) (sp := 0) (dp := 0) (ln := 10) dX8_takeFrom_42 ml_X8_25 a_4 a_124 rfl rfl (by decide) (Nat.le_of_ble_eq_true rfl) (by decide +kernel) ?_
  refine tz_aload_n (pc := 45) dX8_takeFrom_45 rfl rfl ?_
  refine tz_aload_n (pc := 46) dX8_takeFrom_46 rfl rfl ?_
  refine tz_fI (pc := 47) (kz := 3) (v := (J 1 3)) dX8_takeFrom_47 fl_X8_21 i_1_3 rfl rfl (fun r_47 => ?_)
  refine tz_pI (pc := 50) (kz := 3) dX8_takeFrom_50 fl_X8_21 i_121_3 rfl rfl (by omega) ?_
  exact tz_vret (pc := 53) dX8_takeFrom_53 rfl (Nat.le_of_ble_eq_true rfl) (Nat.le_of_ble_eq_true rfl) ⟨Nat.le_refl _, Nat.le_add_right _ _⟩ ⟨rfl, rfl⟩

set_option maxHeartbeats 4000000 in
set_option maxRecDepth 100000 in
theorem c_syTake1 {l : Launch} {G : tb_G} (hl : l.stackTraces = false) (n : Nat) (J : zJ)     : tz_Ok l G M_X8_takeFrom 1 0 0 [.ref 1, .ref 121] n J (zqv (fun J' => zup (zcp (zcp (zcp (J) 122 2 0 0 10) 123 3 0 0 10) 124 4 0 0 10) 1 3 (J 121 3) = J')) zN := by
  refine tz_Ok.of hl (by decide +kernel) rfl (tb_c1 rfl) (Nat.le_of_ble_eq_true rfl) ?_
  show tz_At l G M_X8_takeFrom (tb_rm 1 0 0) none (tb_ZM G 0 0 (zQ n 0 (zqv (fun J' => zup (zcp (zcp (zcp (J) 122 2 0 0 10) 123 3 0 0 10) 124 4 0 0 10) 1 3 (J 121 3) = J'))) (zX n 0 zN)) 0 0 n J 0 [some (.ref 1), some (.ref 121)] []
  refine tz_aload_n (pc := 0) dX8_takeFrom_0 rfl rfl ?_
  refine tz_fR (pc := 1) dX8_takeFrom_1 fl_X8_9 r_121_0 ?_
  refine tz_iconst (pc := 4) dX8_takeFrom_4 ?_
  refine tz_aload_n (pc := 5) dX8_takeFrom_5 rfl rfl ?_
  refine tz_fR (pc := 6) dX8_takeFrom_6 fl_X8_9 r_1_0 ?_
  refine tz_iconst (pc := 9) dX8_takeFrom_9 ?_
  refine tz_bipush (pc := 10) dX8_takeFrom_10 (by decide) ?_
  refine tz_cp (pc := 12) (sp := 0) (dp := 0) (ln := 10) dX8_takeFrom_12 ml_X8_25 a_122 a_2 rfl rfl (by decide) (Nat.le_of_ble_eq_true rfl) (by decide +kernel) ?_
  refine tz_aload_n (pc := 15) dX8_takeFrom_15 rfl rfl ?_
  refine tz_fR (pc := 16) dX8_takeFrom_16 fl_X8_15 r_121_1 ?_
  refine tz_iconst (pc := 19) dX8_takeFrom_19 ?_
  refine tz_aload_n (pc := 20) dX8_takeFrom_20 rfl rfl ?_
  refine tz_fR (pc := 21) dX8_takeFrom_21 fl_X8_15 r_1_1 ?_
  refine tz_iconst (pc := 24) dX8_takeFrom_24 ?_
  refine tz_bipush (pc := 25) dX8_takeFrom_25 (by decide) ?_
  refine tz_cp (pc := 27) (sp := 0) (dp := 0) (ln := 10) dX8_takeFrom_27 ml_X8_25 a_123 a_3 rfl rfl (by decide) (Nat.le_of_ble_eq_true rfl) (by decide +kernel) ?_
  refine tz_aload_n (pc := 30) dX8_takeFrom_30 rfl rfl ?_
  refine tz_fR (pc := 31) dX8_takeFrom_31 fl_X8_18 r_121_2 ?_
  refine tz_iconst (pc := 34) dX8_takeFrom_34 ?_
  refine tz_aload_n (pc := 35) dX8_takeFrom_35 rfl rfl ?_
  refine tz_fR (pc := 36) dX8_takeFrom_36 fl_X8_18 r_1_2 ?_
  refine tz_iconst (pc := 39) dX8_takeFrom_39 ?_
  refine tz_bipush (pc := 40) dX8_takeFrom_40 (by decide) ?_
  refine tz_cp (pc := 42) (sp := 0) (dp := 0) (ln := 10) dX8_takeFrom_42 ml_X8_25 a_124 a_4 rfl rfl (by decide) (Nat.le_of_ble_eq_true rfl) (by decide +kernel) ?_
  refine tz_aload_n (pc := 45) dX8_takeFrom_45 rfl rfl ?_
  refine tz_aload_n (pc := 46) dX8_takeFrom_46 rfl rfl ?_
  refine tz_fI (pc := 47) (kz := 3) (v := (J 121 3)) dX8_takeFrom_47 fl_X8_21 i_121_3 rfl rfl (fun r_47 => ?_)
  refine tz_pI (pc := 50) (kz := 3) dX8_takeFrom_50 fl_X8_21 i_1_3 rfl rfl (by omega) ?_
  exact tz_vret (pc := 53) dX8_takeFrom_53 rfl (Nat.le_of_ble_eq_true rfl) (Nat.le_of_ble_eq_true rfl) ⟨Nat.le_refl _, Nat.le_add_right _ _⟩ ⟨rfl, rfl⟩

set_option maxHeartbeats 4000000 in
set_option maxRecDepth 100000 in
theorem c_leTake76_18 {l : Launch} {G : tb_G} (hl : l.stackTraces = false) (n : Nat) (J : zJ)     : tz_Ok l G M_X1_takeFrom 1 0 0 [.ref 76, .ref 18] n J (zqv (fun J' => zcp J 19 77 0 0 61 = J')) zN := by
  refine tz_Ok.of hl (by decide +kernel) rfl (tb_c1 rfl) (Nat.le_of_ble_eq_true rfl) ?_
  show tz_At l G M_X1_takeFrom (tb_rm 1 0 0) none (tb_ZM G 0 0 (zQ n 0 (zqv (fun J' => zcp J 19 77 0 0 61 = J'))) (zX n 0 zN)) 0 0 n J 0 [some (.ref 76), some (.ref 18)] []
  refine tz_aload_n (pc := 0) dX1_takeFrom_0 rfl rfl ?_
  refine tz_fR (pc := 1) dX1_takeFrom_1 fl_X1_11 r_18_0 ?_
  refine tz_iconst (pc := 4) dX1_takeFrom_4 ?_
  refine tz_aload_n (pc := 5) dX1_takeFrom_5 rfl rfl ?_
  refine tz_fR (pc := 6) dX1_takeFrom_6 fl_X1_11 r_76_0 ?_
  refine tz_iconst (pc := 9) dX1_takeFrom_9 ?_
  refine tz_bipush (pc := 10) dX1_takeFrom_10 (by decide) ?_
  refine tz_cp (pc := 12) (sp := 0) (dp := 0) (ln := 61) dX1_takeFrom_12 ml_X1_25 a_19 a_77 rfl rfl (by decide) (Nat.le_of_ble_eq_true rfl) (by decide +kernel) ?_
  exact tz_vret (pc := 15) dX1_takeFrom_15 rfl (Nat.le_of_ble_eq_true rfl) (Nat.le_of_ble_eq_true rfl) ⟨Nat.le_refl _, Nat.le_add_right _ _⟩ ⟨rfl, rfl⟩

set_option maxHeartbeats 4000000 in
set_option maxRecDepth 100000 in
theorem c_leTake18_76 {l : Launch} {G : tb_G} (hl : l.stackTraces = false) (n : Nat) (J : zJ)     : tz_Ok l G M_X1_takeFrom 1 0 0 [.ref 18, .ref 76] n J (zqv (fun J' => zcp J 77 19 0 0 61 = J')) zN := by
  refine tz_Ok.of hl (by decide +kernel) rfl (tb_c1 rfl) (Nat.le_of_ble_eq_true rfl) ?_
  show tz_At l G M_X1_takeFrom (tb_rm 1 0 0) none (tb_ZM G 0 0 (zQ n 0 (zqv (fun J' => zcp J 77 19 0 0 61 = J'))) (zX n 0 zN)) 0 0 n J 0 [some (.ref 18), some (.ref 76)] []
  refine tz_aload_n (pc := 0) dX1_takeFrom_0 rfl rfl ?_
  refine tz_fR (pc := 1) dX1_takeFrom_1 fl_X1_11 r_76_0 ?_
  refine tz_iconst (pc := 4) dX1_takeFrom_4 ?_
  refine tz_aload_n (pc := 5) dX1_takeFrom_5 rfl rfl ?_
  refine tz_fR (pc := 6) dX1_takeFrom_6 fl_X1_11 r_18_0 ?_
  refine tz_iconst (pc := 9) dX1_takeFrom_9 ?_
  refine tz_bipush (pc := 10) dX1_takeFrom_10 (by decide) ?_
  refine tz_cp (pc := 12) (sp := 0) (dp := 0) (ln := 61) dX1_takeFrom_12 ml_X1_25 a_77 a_19 rfl rfl (by decide) (Nat.le_of_ble_eq_true rfl) (by decide +kernel) ?_
  exact tz_vret (pc := 15) dX1_takeFrom_15 rfl (Nat.le_of_ble_eq_true rfl) (Nat.le_of_ble_eq_true rfl) ⟨Nat.le_refl _, Nat.le_add_right _ _⟩ ⟨rfl, rfl⟩

set_option maxHeartbeats 4000000 in
set_option maxRecDepth 100000 in
theorem c_leTake137_18 {l : Launch} {G : tb_G} (hl : l.stackTraces = false) (n : Nat) (J : zJ)     : tz_Ok l G M_X1_takeFrom 1 0 0 [.ref 137, .ref 18] n J (zqv (fun J' => zcp J 19 138 0 0 61 = J')) zN := by
  refine tz_Ok.of hl (by decide +kernel) rfl (tb_c1 rfl) (Nat.le_of_ble_eq_true rfl) ?_
  show tz_At l G M_X1_takeFrom (tb_rm 1 0 0) none (tb_ZM G 0 0 (zQ n 0 (zqv (fun J' => zcp J 19 138 0 0 61 = J'))) (zX n 0 zN)) 0 0 n J 0 [some (.ref 137), some (.ref 18)] []
  refine tz_aload_n (pc := 0) dX1_takeFrom_0 rfl rfl ?_
  refine tz_fR (pc := 1) dX1_takeFrom_1 fl_X1_11 r_18_0 ?_
  refine tz_iconst (pc := 4) dX1_takeFrom_4 ?_
  refine tz_aload_n (pc := 5) dX1_takeFrom_5 rfl rfl ?_
  refine tz_fR (pc := 6) dX1_takeFrom_6 fl_X1_11 r_137_0 ?_
  refine tz_iconst (pc := 9) dX1_takeFrom_9 ?_
  refine tz_bipush (pc := 10) dX1_takeFrom_10 (by decide) ?_
  refine tz_cp (pc := 12) (sp := 0) (dp := 0) (ln := 61) dX1_takeFrom_12 ml_X1_25 a_19 a_138 rfl rfl (by decide) (Nat.le_of_ble_eq_true rfl) (by decide +kernel) ?_
  exact tz_vret (pc := 15) dX1_takeFrom_15 rfl (Nat.le_of_ble_eq_true rfl) (Nat.le_of_ble_eq_true rfl) ⟨Nat.le_refl _, Nat.le_add_right _ _⟩ ⟨rfl, rfl⟩

set_option maxHeartbeats 4000000 in
set_option maxRecDepth 100000 in
theorem c_leTake18_137 {l : Launch} {G : tb_G} (hl : l.stackTraces = false) (n : Nat) (J : zJ)     : tz_Ok l G M_X1_takeFrom 1 0 0 [.ref 18, .ref 137] n J (zqv (fun J' => zcp J 138 19 0 0 61 = J')) zN := by
  refine tz_Ok.of hl (by decide +kernel) rfl (tb_c1 rfl) (Nat.le_of_ble_eq_true rfl) ?_
  show tz_At l G M_X1_takeFrom (tb_rm 1 0 0) none (tb_ZM G 0 0 (zQ n 0 (zqv (fun J' => zcp J 138 19 0 0 61 = J'))) (zX n 0 zN)) 0 0 n J 0 [some (.ref 18), some (.ref 137)] []
  refine tz_aload_n (pc := 0) dX1_takeFrom_0 rfl rfl ?_
  refine tz_fR (pc := 1) dX1_takeFrom_1 fl_X1_11 r_137_0 ?_
  refine tz_iconst (pc := 4) dX1_takeFrom_4 ?_
  refine tz_aload_n (pc := 5) dX1_takeFrom_5 rfl rfl ?_
  refine tz_fR (pc := 6) dX1_takeFrom_6 fl_X1_11 r_18_0 ?_
  refine tz_iconst (pc := 9) dX1_takeFrom_9 ?_
  refine tz_bipush (pc := 10) dX1_takeFrom_10 (by decide) ?_
  refine tz_cp (pc := 12) (sp := 0) (dp := 0) (ln := 61) dX1_takeFrom_12 ml_X1_25 a_138 a_19 rfl rfl (by decide) (Nat.le_of_ble_eq_true rfl) (by decide +kernel) ?_
  exact tz_vret (pc := 15) dX1_takeFrom_15 rfl (Nat.le_of_ble_eq_true rfl) (Nat.le_of_ble_eq_true rfl) ⟨Nat.le_refl _, Nat.le_add_right _ _⟩ ⟨rfl, rfl⟩

set_option maxHeartbeats 4000000 in
set_option maxRecDepth 100000 in
theorem c_teTake64_6 {l : Launch} {G : tb_G} (hl : l.stackTraces = false) (n : Nat) (J : zJ)    (h0 : 0 ≤ J 6 12 ∧ J 6 12 ≤ 400) : tz_Ok l G M_X9_takeFrom 1 0 0 [.ref 64, .ref 6] n J (zqv (fun J' => zcp (zcp (zcp (zcp (zcp (zcp (zcp (zcp (zcp (zcp (zup J 64 12 (J 6 12)) 7 65 0 0 (J 6 12)) 8 66 0 0 (J 6 12)) 9 67 0 0 (J 6 12 * 3)) 10 68 0 0 (J 6 12)) 11 69 0 0 (J 6 12)) 12 70 0 0 (J 6 12)) 13 71 0 0 (J 6 12)) 14 72 0 0 (J 6 12)) 15 73 0 0 (J 6 12)) 16 74 0 0 256 = J')) zN := by
  refine tz_Ok.of hl (by decide +kernel) rfl (tb_c1 rfl) (Nat.le_of_ble_eq_true rfl) ?_
  show tz_At l G M_X9_takeFrom (tb_rm 1 0 0) none (tb_ZM G 0 0 (zQ n 0 (zqv (fun J' => zcp (zcp (zcp (zcp (zcp (zcp (zcp (zcp (zcp (zcp (zup J 64 12 (J 6 12)) 7 65 0 0 (J 6 12)) 8 66 0 0 (J 6 12)) 9 67 0 0 (J 6 12 * 3)) 10 68 0 0 (J 6 12)) 11 69 0 0 (J 6 12)) 12 70 0 0 (J 6 12)) 13 71 0 0 (J 6 12)) 14 72 0 0 (J 6 12)) 15 73 0 0 (J 6 12)) 16 74 0 0 256 = J'))) (zX n 0 zN)) 0 0 n J 0 [some (.ref 64), some (.ref 6)] []
  refine tz_aload_n (pc := 0) dX9_takeFrom_0 rfl rfl ?_
  refine tz_aload_n (pc := 1) dX9_takeFrom_1 rfl rfl ?_
  refine tz_fI (pc := 2) (kz := 12) (v := (J 6 12)) dX9_takeFrom_2 fl_X9_45 i_6_12 rfl rfl (fun r_2 => ?_)
  refine tz_pI (pc := 5) (kz := 12) dX9_takeFrom_5 fl_X9_45 i_64_12 rfl rfl (by omega) ?_
  refine tz_aload_n (pc := 8) dX9_takeFrom_8 rfl rfl ?_
  refine tz_fR (pc := 9) dX9_takeFrom_9 fl_X9_11 r_6_1 ?_
  refine tz_iconst (pc := 12) dX9_takeFrom_12 ?_
  refine tz_aload_n (pc := 13) dX9_takeFrom_13 rfl rfl ?_
  refine tz_fR (pc := 14) dX9_takeFrom_14 fl_X9_11 r_64_1 ?_
  refine tz_iconst (pc := 17) dX9_takeFrom_17 ?_
  refine tz_aload_n (pc := 18) dX9_takeFrom_18 rfl rfl ?_
  refine tz_fI (pc := 19) (kz := 12) (v := (J 6 12)) dX9_takeFrom_19 fl_X9_45 i_64_12 rfl rfl (fun r_19 => ?_)
  refine tz_cp (pc := 22) (sp := 0) (dp := 0) (ln := (J 6 12)) dX9_takeFrom_22 ml_X9_105 a_7 a_65 rfl rfl (by omega) (Nat.le_of_ble_eq_true rfl) (by decide +kernel) ?_
  refine tz_aload_n (pc := 25) dX9_takeFrom_25 rfl rfl ?_
  refine tz_fR (pc := 26) dX9_takeFrom_26 fl_X9_15 r_6_2 ?_
  refine tz_iconst (pc := 29) dX9_takeFrom_29 ?_
  refine tz_aload_n (pc := 30) dX9_takeFrom_30 rfl rfl ?_
  refine tz_fR (pc := 31) dX9_takeFrom_31 fl_X9_15 r_64_2 ?_
  refine tz_iconst (pc := 34) dX9_takeFrom_34 ?_
  refine tz_aload_n (pc := 35) dX9_takeFrom_35 rfl rfl ?_
  refine tz_fI (pc := 36) (kz := 12) (v := (J 6 12)) dX9_takeFrom_36 fl_X9_45 i_64_12 rfl rfl (fun r_36 => ?_)
  refine tz_cp (pc := 39) (sp := 0) (dp := 0) (ln := (J 6 12)) dX9_takeFrom_39 ml_X9_105 a_8 a_66 rfl rfl (by omega) (Nat.le_of_ble_eq_true rfl) (by decide +kernel) ?_
  refine tz_aload_n (pc := 42) dX9_takeFrom_42 rfl rfl ?_
  refine tz_fR (pc := 43) dX9_takeFrom_43 fl_X9_18 r_6_3 ?_
  refine tz_iconst (pc := 46) dX9_takeFrom_46 ?_
  refine tz_aload_n (pc := 47) dX9_takeFrom_47 rfl rfl ?_
  refine tz_fR (pc := 48) dX9_takeFrom_48 fl_X9_18 r_64_3 ?_
  refine tz_iconst (pc := 51) dX9_takeFrom_51 ?_
  refine tz_aload_n (pc := 52) dX9_takeFrom_52 rfl rfl ?_
  refine tz_fI (pc := 53) (kz := 12) (v := (J 6 12)) dX9_takeFrom_53 fl_X9_45 i_64_12 rfl rfl (fun r_53 => ?_)
  refine tz_iconst (pc := 56) dX9_takeFrom_56 ?_
  refine tz_imul (pc := 57) (v := (J 6 12) * 3) dX9_takeFrom_57 rfl ?_
  refine tz_cp (pc := 58) (sp := 0) (dp := 0) (ln := ((J 6 12) * 3)) dX9_takeFrom_58 ml_X9_105 a_9 a_67 rfl rfl (by omega) (Nat.le_of_ble_eq_true rfl) (by decide +kernel) ?_
  refine tz_aload_n (pc := 61) dX9_takeFrom_61 rfl rfl ?_
  refine tz_fR (pc := 62) dX9_takeFrom_62 fl_X9_21 r_6_4 ?_
  refine tz_iconst (pc := 65) dX9_takeFrom_65 ?_
  refine tz_aload_n (pc := 66) dX9_takeFrom_66 rfl rfl ?_
  refine tz_fR (pc := 67) dX9_takeFrom_67 fl_X9_21 r_64_4 ?_
  refine tz_iconst (pc := 70) dX9_takeFrom_70 ?_
  refine tz_aload_n (pc := 71) dX9_takeFrom_71 rfl rfl ?_
  refine tz_fI (pc := 72) (kz := 12) (v := (J 6 12)) dX9_takeFrom_72 fl_X9_45 i_64_12 rfl rfl (fun r_72 => ?_)
  refine tz_cp (pc := 75) (sp := 0) (dp := 0) (ln := (J 6 12)) dX9_takeFrom_75 ml_X9_105 a_10 a_68 rfl rfl (by omega) (Nat.le_of_ble_eq_true rfl) (by decide +kernel) ?_
  refine tz_aload_n (pc := 78) dX9_takeFrom_78 rfl rfl ?_
  refine tz_fR (pc := 79) dX9_takeFrom_79 fl_X9_24 r_6_5 ?_
  refine tz_iconst (pc := 82) dX9_takeFrom_82 ?_
  refine tz_aload_n (pc := 83) dX9_takeFrom_83 rfl rfl ?_
  refine tz_fR (pc := 84) dX9_takeFrom_84 fl_X9_24 r_64_5 ?_
  refine tz_iconst (pc := 87) dX9_takeFrom_87 ?_
  refine tz_aload_n (pc := 88) dX9_takeFrom_88 rfl rfl ?_
  refine tz_fI (pc := 89) (kz := 12) (v := (J 6 12)) dX9_takeFrom_89 fl_X9_45 i_64_12 rfl rfl (fun r_89 => ?_)
  refine tz_cp (pc := 92) (sp := 0) (dp := 0) (ln := (J 6 12)) dX9_takeFrom_92 ml_X9_105 a_11 a_69 rfl rfl (by omega) (Nat.le_of_ble_eq_true rfl) (by decide +kernel) ?_
  refine tz_aload_n (pc := 95) dX9_takeFrom_95 rfl rfl ?_
  refine tz_fR (pc := 96) dX9_takeFrom_96 fl_X9_27 r_6_6 ?_
  refine tz_iconst (pc := 99) dX9_takeFrom_99 ?_
  refine tz_aload_n (pc := 100) dX9_takeFrom_100 rfl rfl ?_
  refine tz_fR (pc := 101) dX9_takeFrom_101 fl_X9_27 r_64_6 ?_
  refine tz_iconst (pc := 104) dX9_takeFrom_104 ?_
  refine tz_aload_n (pc := 105) dX9_takeFrom_105 rfl rfl ?_
  refine tz_fI (pc := 106) (kz := 12) (v := (J 6 12)) dX9_takeFrom_106 fl_X9_45 i_64_12 rfl rfl (fun r_106 => ?_)
  refine tz_cp (pc := 109) (sp := 0) (dp := 0) (ln := (J 6 12)) dX9_takeFrom_109 ml_X9_105 a_12 a_70 rfl rfl (by omega) (Nat.le_of_ble_eq_true rfl) (by decide +kernel) ?_
  refine tz_aload_n (pc := 112) dX9_takeFrom_112 rfl rfl ?_
  refine tz_fR (pc := 113) dX9_takeFrom_113 fl_X9_30 r_6_7 ?_
  refine tz_iconst (pc := 116) dX9_takeFrom_116 ?_
  refine tz_aload_n (pc := 117) dX9_takeFrom_117 rfl rfl ?_
  refine tz_fR (pc := 118) dX9_takeFrom_118 fl_X9_30 r_64_7 ?_
  refine tz_iconst (pc := 121) dX9_takeFrom_121 ?_
  refine tz_aload_n (pc := 122) dX9_takeFrom_122 rfl rfl ?_
  refine tz_fI (pc := 123) (kz := 12) (v := (J 6 12)) dX9_takeFrom_123 fl_X9_45 i_64_12 rfl rfl (fun r_123 => ?_)
  refine tz_cp (pc := 126) (sp := 0) (dp := 0) (ln := (J 6 12)) dX9_takeFrom_126 ml_X9_105 a_13 a_71 rfl rfl (by omega) (Nat.le_of_ble_eq_true rfl) (by decide +kernel) ?_
  refine tz_aload_n (pc := 129) dX9_takeFrom_129 rfl rfl ?_
  refine tz_fR (pc := 130) dX9_takeFrom_130 fl_X9_33 r_6_8 ?_
  refine tz_iconst (pc := 133) dX9_takeFrom_133 ?_
  refine tz_aload_n (pc := 134) dX9_takeFrom_134 rfl rfl ?_
  refine tz_fR (pc := 135) dX9_takeFrom_135 fl_X9_33 r_64_8 ?_
  refine tz_iconst (pc := 138) dX9_takeFrom_138 ?_
  refine tz_aload_n (pc := 139) dX9_takeFrom_139 rfl rfl ?_
  refine tz_fI (pc := 140) (kz := 12) (v := (J 6 12)) dX9_takeFrom_140 fl_X9_45 i_64_12 rfl rfl (fun r_140 => ?_)
  refine tz_cp (pc := 143) (sp := 0) (dp := 0) (ln := (J 6 12)) dX9_takeFrom_143 ml_X9_105 a_14 a_72 rfl rfl (by omega) (Nat.le_of_ble_eq_true rfl) (by decide +kernel) ?_
  refine tz_aload_n (pc := 146) dX9_takeFrom_146 rfl rfl ?_
  refine tz_fR (pc := 147) dX9_takeFrom_147 fl_X9_36 r_6_9 ?_
  refine tz_iconst (pc := 150) dX9_takeFrom_150 ?_
  refine tz_aload_n (pc := 151) dX9_takeFrom_151 rfl rfl ?_
  refine tz_fR (pc := 152) dX9_takeFrom_152 fl_X9_36 r_64_9 ?_
  refine tz_iconst (pc := 155) dX9_takeFrom_155 ?_
  refine tz_aload_n (pc := 156) dX9_takeFrom_156 rfl rfl ?_
  refine tz_fI (pc := 157) (kz := 12) (v := (J 6 12)) dX9_takeFrom_157 fl_X9_45 i_64_12 rfl rfl (fun r_157 => ?_)
  refine tz_cp (pc := 160) (sp := 0) (dp := 0) (ln := (J 6 12)) dX9_takeFrom_160 ml_X9_105 a_15 a_73 rfl rfl (by omega) (Nat.le_of_ble_eq_true rfl) (by decide +kernel) ?_
  refine tz_aload_n (pc := 163) dX9_takeFrom_163 rfl rfl ?_
  refine tz_fR (pc := 164) dX9_takeFrom_164 fl_X9_39 r_6_10 ?_
  refine tz_iconst (pc := 167) dX9_takeFrom_167 ?_
  refine tz_aload_n (pc := 168) dX9_takeFrom_168 rfl rfl ?_
  refine tz_fR (pc := 169) dX9_takeFrom_169 fl_X9_39 r_64_10 ?_
  refine tz_iconst (pc := 172) dX9_takeFrom_172 ?_
  refine tz_sipush (pc := 173) dX9_takeFrom_173 (by decide) ?_
  refine tz_cp (pc := 176) (sp := 0) (dp := 0) (ln := 256) dX9_takeFrom_176 ml_X9_105 a_16 a_74 rfl rfl (by decide) (Nat.le_of_ble_eq_true rfl) (by decide +kernel) ?_
  exact tz_vret (pc := 179) dX9_takeFrom_179 rfl (Nat.le_of_ble_eq_true rfl) (Nat.le_of_ble_eq_true rfl) ⟨Nat.le_refl _, Nat.le_add_right _ _⟩ ⟨rfl, rfl⟩

set_option maxHeartbeats 4000000 in
set_option maxRecDepth 100000 in
theorem c_teTake6_64 {l : Launch} {G : tb_G} (hl : l.stackTraces = false) (n : Nat) (J : zJ)    (h0 : 0 ≤ J 64 12 ∧ J 64 12 ≤ 400) : tz_Ok l G M_X9_takeFrom 1 0 0 [.ref 6, .ref 64] n J (zqv (fun J' => zcp (zcp (zcp (zcp (zcp (zcp (zcp (zcp (zcp (zcp (zup J 6 12 (J 64 12)) 65 7 0 0 (J 64 12)) 66 8 0 0 (J 64 12)) 67 9 0 0 (J 64 12 * 3)) 68 10 0 0 (J 64 12)) 69 11 0 0 (J 64 12)) 70 12 0 0 (J 64 12)) 71 13 0 0 (J 64 12)) 72 14 0 0 (J 64 12)) 73 15 0 0 (J 64 12)) 74 16 0 0 256 = J')) zN := by
  refine tz_Ok.of hl (by decide +kernel) rfl (tb_c1 rfl) (Nat.le_of_ble_eq_true rfl) ?_
  show tz_At l G M_X9_takeFrom (tb_rm 1 0 0) none (tb_ZM G 0 0 (zQ n 0 (zqv (fun J' => zcp (zcp (zcp (zcp (zcp (zcp (zcp (zcp (zcp (zcp (zup J 6 12 (J 64 12)) 65 7 0 0 (J 64 12)) 66 8 0 0 (J 64 12)) 67 9 0 0 (J 64 12 * 3)) 68 10 0 0 (J 64 12)) 69 11 0 0 (J 64 12)) 70 12 0 0 (J 64 12)) 71 13 0 0 (J 64 12)) 72 14 0 0 (J 64 12)) 73 15 0 0 (J 64 12)) 74 16 0 0 256 = J'))) (zX n 0 zN)) 0 0 n J 0 [some (.ref 6), some (.ref 64)] []
  refine tz_aload_n (pc := 0) dX9_takeFrom_0 rfl rfl ?_
  refine tz_aload_n (pc := 1) dX9_takeFrom_1 rfl rfl ?_
  refine tz_fI (pc := 2) (kz := 12) (v := (J 64 12)) dX9_takeFrom_2 fl_X9_45 i_64_12 rfl rfl (fun r_2 => ?_)
  refine tz_pI (pc := 5) (kz := 12) dX9_takeFrom_5 fl_X9_45 i_6_12 rfl rfl (by omega) ?_
  refine tz_aload_n (pc := 8) dX9_takeFrom_8 rfl rfl ?_
  refine tz_fR (pc := 9) dX9_takeFrom_9 fl_X9_11 r_64_1 ?_
  refine tz_iconst (pc := 12) dX9_takeFrom_12 ?_
  refine tz_aload_n (pc := 13) dX9_takeFrom_13 rfl rfl ?_
  refine tz_fR (pc := 14) dX9_takeFrom_14 fl_X9_11 r_6_1 ?_
  refine tz_iconst (pc := 17) dX9_takeFrom_17 ?_
  refine tz_aload_n (pc := 18) dX9_takeFrom_18 rfl rfl ?_
  refine tz_fI (pc := 19) (kz := 12) (v := (J 64 12)) dX9_takeFrom_19 fl_X9_45 i_6_12 rfl rfl (fun r_19 => ?_)
  refine tz_cp (pc := 22) (sp := 0) (dp := 0) (ln := (J 64 12)) dX9_takeFrom_22 ml_X9_105 a_65 a_7 rfl rfl (by omega) (Nat.le_of_ble_eq_true rfl) (by decide +kernel) ?_
  refine tz_aload_n (pc := 25) dX9_takeFrom_25 rfl rfl ?_
  refine tz_fR (pc := 26) dX9_takeFrom_26 fl_X9_15 r_64_2 ?_
  refine tz_iconst (pc := 29) dX9_takeFrom_29 ?_
  refine tz_aload_n (pc := 30) dX9_takeFrom_30 rfl rfl ?_
  refine tz_fR (pc := 31) dX9_takeFrom_31 fl_X9_15 r_6_2 ?_
  refine tz_iconst (pc := 34) dX9_takeFrom_34 ?_
  refine tz_aload_n (pc := 35) dX9_takeFrom_35 rfl rfl ?_
  refine tz_fI (pc := 36) (kz := 12) (v := (J 64 12)) dX9_takeFrom_36 fl_X9_45 i_6_12 rfl rfl (fun r_36 => ?_)
  refine tz_cp (pc := 39) (sp := 0) (dp := 0) (ln := (J 64 12)) dX9_takeFrom_39 ml_X9_105 a_66 a_8 rfl rfl (by omega) (Nat.le_of_ble_eq_true rfl) (by decide +kernel) ?_
  refine tz_aload_n (pc := 42) dX9_takeFrom_42 rfl rfl ?_
  refine tz_fR (pc := 43) dX9_takeFrom_43 fl_X9_18 r_64_3 ?_
  refine tz_iconst (pc := 46) dX9_takeFrom_46 ?_
  refine tz_aload_n (pc := 47) dX9_takeFrom_47 rfl rfl ?_
  refine tz_fR (pc := 48) dX9_takeFrom_48 fl_X9_18 r_6_3 ?_
  refine tz_iconst (pc := 51) dX9_takeFrom_51 ?_
  refine tz_aload_n (pc := 52) dX9_takeFrom_52 rfl rfl ?_
  refine tz_fI (pc := 53) (kz := 12) (v := (J 64 12)) dX9_takeFrom_53 fl_X9_45 i_6_12 rfl rfl (fun r_53 => ?_)
  refine tz_iconst (pc := 56) dX9_takeFrom_56 ?_
  refine tz_imul (pc := 57) (v := (J 64 12) * 3) dX9_takeFrom_57 rfl ?_
  refine tz_cp (pc := 58) (sp := 0) (dp := 0) (ln := ((J 64 12) * 3)) dX9_takeFrom_58 ml_X9_105 a_67 a_9 rfl rfl (by omega) (Nat.le_of_ble_eq_true rfl) (by decide +kernel) ?_
  refine tz_aload_n (pc := 61) dX9_takeFrom_61 rfl rfl ?_
  refine tz_fR (pc := 62) dX9_takeFrom_62 fl_X9_21 r_64_4 ?_
  refine tz_iconst (pc := 65) dX9_takeFrom_65 ?_
  refine tz_aload_n (pc := 66) dX9_takeFrom_66 rfl rfl ?_
  refine tz_fR (pc := 67) dX9_takeFrom_67 fl_X9_21 r_6_4 ?_
  refine tz_iconst (pc := 70) dX9_takeFrom_70 ?_
  refine tz_aload_n (pc := 71) dX9_takeFrom_71 rfl rfl ?_
  refine tz_fI (pc := 72) (kz := 12) (v := (J 64 12)) dX9_takeFrom_72 fl_X9_45 i_6_12 rfl rfl (fun r_72 => ?_)
  refine tz_cp (pc := 75) (sp := 0) (dp := 0) (ln := (J 64 12)) dX9_takeFrom_75 ml_X9_105 a_68 a_10 rfl rfl (by omega) (Nat.le_of_ble_eq_true rfl) (by decide +kernel) ?_
  refine tz_aload_n (pc := 78) dX9_takeFrom_78 rfl rfl ?_
  refine tz_fR (pc := 79) dX9_takeFrom_79 fl_X9_24 r_64_5 ?_
  refine tz_iconst (pc := 82) dX9_takeFrom_82 ?_
  refine tz_aload_n (pc := 83) dX9_takeFrom_83 rfl rfl ?_
  refine tz_fR (pc := 84) dX9_takeFrom_84 fl_X9_24 r_6_5 ?_
  refine tz_iconst (pc := 87) dX9_takeFrom_87 ?_
  refine tz_aload_n (pc := 88) dX9_takeFrom_88 rfl rfl ?_
  refine tz_fI (pc := 89) (kz := 12) (v := (J 64 12)) dX9_takeFrom_89 fl_X9_45 i_6_12 rfl rfl (fun r_89 => ?_)
  refine tz_cp (pc := 92) (sp := 0) (dp := 0) (ln := (J 64 12)) dX9_takeFrom_92 ml_X9_105 a_69 a_11 rfl rfl (by omega) (Nat.le_of_ble_eq_true rfl) (by decide +kernel) ?_
  refine tz_aload_n (pc := 95) dX9_takeFrom_95 rfl rfl ?_
  refine tz_fR (pc := 96) dX9_takeFrom_96 fl_X9_27 r_64_6 ?_
  refine tz_iconst (pc := 99) dX9_takeFrom_99 ?_
  refine tz_aload_n (pc := 100) dX9_takeFrom_100 rfl rfl ?_
  refine tz_fR (pc := 101) dX9_takeFrom_101 fl_X9_27 r_6_6 ?_
  refine tz_iconst (pc := 104) dX9_takeFrom_104 ?_
  refine tz_aload_n (pc := 105) dX9_takeFrom_105 rfl rfl ?_
  refine tz_fI (pc := 106) (kz := 12) (v := (J 64 12)) dX9_takeFrom_106 fl_X9_45 i_6_12 rfl rfl (fun r_106 => ?_)
  refine tz_cp (pc := 109) (sp := 0) (dp := 0) (ln := (J 64 12)) dX9_takeFrom_109 ml_X9_105 a_70 a_12 rfl rfl (by omega) (Nat.le_of_ble_eq_true rfl) (by decide +kernel) ?_
  refine tz_aload_n (pc := 112) dX9_takeFrom_112 rfl rfl ?_
  refine tz_fR (pc := 113) dX9_takeFrom_113 fl_X9_30 r_64_7 ?_
  refine tz_iconst (pc := 116) dX9_takeFrom_116 ?_
  refine tz_aload_n (pc := 117) dX9_takeFrom_117 rfl rfl ?_
  refine tz_fR (pc := 118) dX9_takeFrom_118 fl_X9_30 r_6_7 ?_
  refine tz_iconst (pc := 121) dX9_takeFrom_121 ?_
  refine tz_aload_n (pc := 122) dX9_takeFrom_122 rfl rfl ?_
  refine tz_fI (pc := 123) (kz := 12) (v := (J 64 12)) dX9_takeFrom_123 fl_X9_45 i_6_12 rfl rfl (fun r_123 => ?_)
  refine tz_cp (pc := 126) (sp := 0) (dp := 0) (ln := (J 64 12)) dX9_takeFrom_126 ml_X9_105 a_71 a_13 rfl rfl (by omega) (Nat.le_of_ble_eq_true rfl) (by decide +kernel) ?_
  refine tz_aload_n (pc := 129) dX9_takeFrom_129 rfl rfl ?_
  refine tz_fR (pc := 130) dX9_takeFrom_130 fl_X9_33 r_64_8 ?_
  refine tz_iconst (pc := 133) dX9_takeFrom_133 ?_
  refine tz_aload_n (pc := 134) dX9_takeFrom_134 rfl rfl ?_
  refine tz_fR (pc := 135) dX9_takeFrom_135 fl_X9_33 r_6_8 ?_
  refine tz_iconst (pc := 138) dX9_takeFrom_138 ?_
  refine tz_aload_n (pc := 139) dX9_takeFrom_139 rfl rfl ?_
  refine tz_fI (pc := 140) (kz := 12) (v := (J 64 12)) dX9_takeFrom_140 fl_X9_45 i_6_12 rfl rfl (fun r_140 => ?_)
  refine tz_cp (pc := 143) (sp := 0) (dp := 0) (ln := (J 64 12)) dX9_takeFrom_143 ml_X9_105 a_72 a_14 rfl rfl (by omega) (Nat.le_of_ble_eq_true rfl) (by decide +kernel) ?_
  refine tz_aload_n (pc := 146) dX9_takeFrom_146 rfl rfl ?_
  refine tz_fR (pc := 147) dX9_takeFrom_147 fl_X9_36 r_64_9 ?_
  refine tz_iconst (pc := 150) dX9_takeFrom_150 ?_
  refine tz_aload_n (pc := 151) dX9_takeFrom_151 rfl rfl ?_
  refine tz_fR (pc := 152) dX9_takeFrom_152 fl_X9_36 r_6_9 ?_
  refine tz_iconst (pc := 155) dX9_takeFrom_155 ?_
  refine tz_aload_n (pc := 156) dX9_takeFrom_156 rfl rfl ?_
  refine tz_fI (pc := 157) (kz := 12) (v := (J 64 12)) dX9_takeFrom_157 fl_X9_45 i_6_12 rfl rfl (fun r_157 => ?_)
  refine tz_cp (pc := 160) (sp := 0) (dp := 0) (ln := (J 64 12)) dX9_takeFrom_160 ml_X9_105 a_73 a_15 rfl rfl (by omega) (Nat.le_of_ble_eq_true rfl) (by decide +kernel) ?_
  refine tz_aload_n (pc := 163) dX9_takeFrom_163 rfl rfl ?_
  refine tz_fR (pc := 164) dX9_takeFrom_164 fl_X9_39 r_64_10 ?_
  refine tz_iconst (pc := 167) dX9_takeFrom_167 ?_
  refine tz_aload_n (pc := 168) dX9_takeFrom_168 rfl rfl ?_
  refine tz_fR (pc := 169) dX9_takeFrom_169 fl_X9_39 r_6_10 ?_
  refine tz_iconst (pc := 172) dX9_takeFrom_172 ?_
  refine tz_sipush (pc := 173) dX9_takeFrom_173 (by decide) ?_
  refine tz_cp (pc := 176) (sp := 0) (dp := 0) (ln := 256) dX9_takeFrom_176 ml_X9_105 a_74 a_16 rfl rfl (by decide) (Nat.le_of_ble_eq_true rfl) (by decide +kernel) ?_
  exact tz_vret (pc := 179) dX9_takeFrom_179 rfl (Nat.le_of_ble_eq_true rfl) (Nat.le_of_ble_eq_true rfl) ⟨Nat.le_refl _, Nat.le_add_right _ _⟩ ⟨rfl, rfl⟩

set_option maxHeartbeats 4000000 in
set_option maxRecDepth 100000 in
theorem c_teTake125_6 {l : Launch} {G : tb_G} (hl : l.stackTraces = false) (n : Nat) (J : zJ)    (h0 : 0 ≤ J 6 12 ∧ J 6 12 ≤ 400) : tz_Ok l G M_X9_takeFrom 1 0 0 [.ref 125, .ref 6] n J (zqv (fun J' => zcp (zcp (zcp (zcp (zcp (zcp (zcp (zcp (zcp (zcp (zup J 125 12 (J 6 12)) 7 126 0 0 (J 6 12)) 8 127 0 0 (J 6 12)) 9 128 0 0 (J 6 12 * 3)) 10 129 0 0 (J 6 12)) 11 130 0 0 (J 6 12)) 12 131 0 0 (J 6 12)) 13 132 0 0 (J 6 12)) 14 133 0 0 (J 6 12)) 15 134 0 0 (J 6 12)) 16 135 0 0 256 = J')) zN := by
  refine tz_Ok.of hl (by decide +kernel) rfl (tb_c1 rfl) (Nat.le_of_ble_eq_true rfl) ?_
  show tz_At l G M_X9_takeFrom (tb_rm 1 0 0) none (tb_ZM G 0 0 (zQ n 0 (zqv (fun J' => zcp (zcp (zcp (zcp (zcp (zcp (zcp (zcp (zcp (zcp (zup J 125 12 (J 6 12)) 7 126 0 0 (J 6 12)) 8 127 0 0 (J 6 12)) 9 128 0 0 (J 6 12 * 3)) 10 129 0 0 (J 6 12)) 11 130 0 0 (J 6 12)) 12 131 0 0 (J 6 12)) 13 132 0 0 (J 6 12)) 14 133 0 0 (J 6 12)) 15 134 0 0 (J 6 12)) 16 135 0 0 256 = J'))) (zX n 0 zN)) 0 0 n J 0 [some (.ref 125), some (.ref 6)] []
  refine tz_aload_n (pc := 0) dX9_takeFrom_0 rfl rfl ?_
  refine tz_aload_n (pc := 1) dX9_takeFrom_1 rfl rfl ?_
  refine tz_fI (pc := 2) (kz := 12) (v := (J 6 12)) dX9_takeFrom_2 fl_X9_45 i_6_12 rfl rfl (fun r_2 => ?_)
  refine tz_pI (pc := 5) (kz := 12) dX9_takeFrom_5 fl_X9_45 i_125_12 rfl rfl (by omega) ?_
  refine tz_aload_n (pc := 8) dX9_takeFrom_8 rfl rfl ?_
  refine tz_fR (pc := 9) dX9_takeFrom_9 fl_X9_11 r_6_1 ?_
  refine tz_iconst (pc := 12) dX9_takeFrom_12 ?_
  refine tz_aload_n (pc := 13) dX9_takeFrom_13 rfl rfl ?_
  refine tz_fR (pc := 14) dX9_takeFrom_14 fl_X9_11 r_125_1 ?_
  refine tz_iconst (pc := 17) dX9_takeFrom_17 ?_
  refine tz_aload_n (pc := 18) dX9_takeFrom_18 rfl rfl ?_
  refine tz_fI (pc := 19) (kz := 12) (v := (J 6 12)) dX9_takeFrom_19 fl_X9_45 i_125_12 rfl rfl (fun r_19 => ?_)
  refine tz_cp (pc := 22) (sp := 0) (dp := 0) (ln := (J 6 12)) dX9_takeFrom_22 ml_X9_105 a_7 a_126 rfl rfl (by omega) (Nat.le_of_ble_eq_true rfl) (by decide +kernel) ?_
  refine tz_aload_n (pc := 25) dX9_takeFrom_25 rfl rfl ?_
  refine tz_fR (pc := 26) dX9_takeFrom_26 fl_X9_15 r_6_2 ?_
  refine tz_iconst (pc := 29) dX9_takeFrom_29 ?_
  refine tz_aload_n (pc := 30) dX9_takeFrom_30 rfl rfl ?_
  refine tz_fR (pc := 31) dX9_takeFrom_31 fl_X9_15 r_125_2 ?_
  refine tz_iconst (pc := 34) dX9_takeFrom_34 ?_
  refine tz_aload_n (pc := 35) dX9_takeFrom_35 rfl rfl ?_
  refine tz_fI (pc := 36) (kz := 12) (v := (J 6 12)) dX9_takeFrom_36 fl_X9_45 i_125_12 rfl rfl (fun r_36 => ?_)
  refine tz_cp (pc := 39) (sp := 0) (dp := 0) (ln := (J 6 12)) dX9_takeFrom_39 ml_X9_105 a_8 a_127 rfl rfl (by omega) (Nat.le_of_ble_eq_true rfl) (by decide +kernel) ?_
  refine tz_aload_n (pc := 42) dX9_takeFrom_42 rfl rfl ?_
  refine tz_fR (pc := 43) dX9_takeFrom_43 fl_X9_18 r_6_3 ?_
  refine tz_iconst (pc := 46) dX9_takeFrom_46 ?_
  refine tz_aload_n (pc := 47) dX9_takeFrom_47 rfl rfl ?_
  refine tz_fR (pc := 48) dX9_takeFrom_48 fl_X9_18 r_125_3 ?_
  refine tz_iconst (pc := 51) dX9_takeFrom_51 ?_
  refine tz_aload_n (pc := 52) dX9_takeFrom_52 rfl rfl ?_
  refine tz_fI (pc := 53) (kz := 12) (v := (J 6 12)) dX9_takeFrom_53 fl_X9_45 i_125_12 rfl rfl (fun r_53 => ?_)
  refine tz_iconst (pc := 56) dX9_takeFrom_56 ?_
  refine tz_imul (pc := 57) (v := (J 6 12) * 3) dX9_takeFrom_57 rfl ?_
  refine tz_cp (pc := 58) (sp := 0) (dp := 0) (ln := ((J 6 12) * 3)) dX9_takeFrom_58 ml_X9_105 a_9 a_128 rfl rfl (by omega) (Nat.le_of_ble_eq_true rfl) (by decide +kernel) ?_
  refine tz_aload_n (pc := 61) dX9_takeFrom_61 rfl rfl ?_
  refine tz_fR (pc := 62) dX9_takeFrom_62 fl_X9_21 r_6_4 ?_
  refine tz_iconst (pc := 65) dX9_takeFrom_65 ?_
  refine tz_aload_n (pc := 66) dX9_takeFrom_66 rfl rfl ?_
  refine tz_fR (pc := 67) dX9_takeFrom_67 fl_X9_21 r_125_4 ?_
  refine tz_iconst (pc := 70) dX9_takeFrom_70 ?_
  refine tz_aload_n (pc := 71) dX9_takeFrom_71 rfl rfl ?_
  refine tz_fI (pc := 72) (kz := 12) (v := (J 6 12)) dX9_takeFrom_72 fl_X9_45 i_125_12 rfl rfl (fun r_72 => ?_)
  refine tz_cp (pc := 75) (sp := 0) (dp := 0) (ln := (J 6 12)) dX9_takeFrom_75 ml_X9_105 a_10 a_129 rfl rfl (by omega) (Nat.le_of_ble_eq_true rfl) (by decide +kernel) ?_
  refine tz_aload_n (pc := 78) dX9_takeFrom_78 rfl rfl ?_
  refine tz_fR (pc := 79) dX9_takeFrom_79 fl_X9_24 r_6_5 ?_
  refine tz_iconst (pc := 82) dX9_takeFrom_82 ?_
  refine tz_aload_n (pc := 83) dX9_takeFrom_83 rfl rfl ?_
  refine tz_fR (pc := 84) dX9_takeFrom_84 fl_X9_24 r_125_5 ?_
  refine tz_iconst (pc := 87) dX9_takeFrom_87 ?_
  refine tz_aload_n (pc := 88) dX9_takeFrom_88 rfl rfl ?_
  refine tz_fI (pc := 89) (kz := 12) (v := (J 6 12)) dX9_takeFrom_89 fl_X9_45 i_125_12 rfl rfl (fun r_89 => ?_)
  refine tz_cp (pc := 92) (sp := 0) (dp := 0) (ln := (J 6 12)) dX9_takeFrom_92 ml_X9_105 a_11 a_130 rfl rfl (by omega) (Nat.le_of_ble_eq_true rfl) (by decide +kernel) ?_
  refine tz_aload_n (pc := 95) dX9_takeFrom_95 rfl rfl ?_
  refine tz_fR (pc := 96) dX9_takeFrom_96 fl_X9_27 r_6_6 ?_
  refine tz_iconst (pc := 99) dX9_takeFrom_99 ?_
  refine tz_aload_n (pc := 100) dX9_takeFrom_100 rfl rfl ?_
  refine tz_fR (pc := 101) dX9_takeFrom_101 fl_X9_27 r_125_6 ?_
  refine tz_iconst (pc := 104) dX9_takeFrom_104 ?_
  refine tz_aload_n (pc := 105) dX9_takeFrom_105 rfl rfl ?_
  refine tz_fI (pc := 106) (kz := 12) (v := (J 6 12)) dX9_takeFrom_106 fl_X9_45 i_125_12 rfl rfl (fun r_106 => ?_)
  refine tz_cp (pc := 109) (sp := 0) (dp := 0) (ln := (J 6 12)) dX9_takeFrom_109 ml_X9_105 a_12 a_131 rfl rfl (by omega) (Nat.le_of_ble_eq_true rfl) (by decide +kernel) ?_
  refine tz_aload_n (pc := 112) dX9_takeFrom_112 rfl rfl ?_
  refine tz_fR (pc := 113) dX9_takeFrom_113 fl_X9_30 r_6_7 ?_
  refine tz_iconst (pc := 116) dX9_takeFrom_116 ?_
  refine tz_aload_n (pc := 117) dX9_takeFrom_117 rfl rfl ?_
  refine tz_fR (pc := 118) dX9_takeFrom_118 fl_X9_30 r_125_7 ?_
  refine tz_iconst (pc := 121) dX9_takeFrom_121 ?_
  refine tz_aload_n (pc := 122) dX9_takeFrom_122 rfl rfl ?_
  refine tz_fI (pc := 123) (kz := 12) (v := (J 6 12)) dX9_takeFrom_123 fl_X9_45 i_125_12 rfl rfl (fun r_123 => ?_)
  refine tz_cp (pc := 126) (sp := 0) (dp := 0) (ln := (J 6 12)) dX9_takeFrom_126 ml_X9_105 a_13 a_132 rfl rfl (by omega) (Nat.le_of_ble_eq_true rfl) (by decide +kernel) ?_
  refine tz_aload_n (pc := 129) dX9_takeFrom_129 rfl rfl ?_
  refine tz_fR (pc := 130) dX9_takeFrom_130 fl_X9_33 r_6_8 ?_
  refine tz_iconst (pc := 133) dX9_takeFrom_133 ?_
  refine tz_aload_n (pc := 134) dX9_takeFrom_134 rfl rfl ?_
  refine tz_fR (pc := 135) dX9_takeFrom_135 fl_X9_33 r_125_8 ?_
  refine tz_iconst (pc := 138) dX9_takeFrom_138 ?_
  refine tz_aload_n (pc := 139) dX9_takeFrom_139 rfl rfl ?_
  refine tz_fI (pc := 140) (kz := 12) (v := (J 6 12)) dX9_takeFrom_140 fl_X9_45 i_125_12 rfl rfl (fun r_140 => ?_)
  refine tz_cp (pc := 143) (sp := 0) (dp := 0) (ln := (J 6 12)) dX9_takeFrom_143 ml_X9_105 a_14 a_133 rfl rfl (by omega) (Nat.le_of_ble_eq_true rfl) (by decide +kernel) ?_
  refine tz_aload_n (pc := 146) dX9_takeFrom_146 rfl rfl ?_
  refine tz_fR (pc := 147) dX9_takeFrom_147 fl_X9_36 r_6_9 ?_
  refine tz_iconst (pc := 150) dX9_takeFrom_150 ?_
  refine tz_aload_n (pc := 151) dX9_takeFrom_151 rfl rfl ?_
  refine tz_fR (pc := 152) dX9_takeFrom_152 fl_X9_36 r_125_9 ?_
  refine tz_iconst (pc := 155) dX9_takeFrom_155 ?_
  refine tz_aload_n (pc := 156) dX9_takeFrom_156 rfl rfl ?_
  refine tz_fI (pc := 157) (kz := 12) (v := (J 6 12)) dX9_takeFrom_157 fl_X9_45 i_125_12 rfl rfl (fun r_157 => ?_)
  refine tz_cp (pc := 160) (sp := 0) (dp := 0) (ln := (J 6 12)) dX9_takeFrom_160 ml_X9_105 a_15 a_134 rfl rfl (by omega) (Nat.le_of_ble_eq_true rfl) (by decide +kernel) ?_
  refine tz_aload_n (pc := 163) dX9_takeFrom_163 rfl rfl ?_
  refine tz_fR (pc := 164) dX9_takeFrom_164 fl_X9_39 r_6_10 ?_
  refine tz_iconst (pc := 167) dX9_takeFrom_167 ?_
  refine tz_aload_n (pc := 168) dX9_takeFrom_168 rfl rfl ?_
  refine tz_fR (pc := 169) dX9_takeFrom_169 fl_X9_39 r_125_10 ?_
  refine tz_iconst (pc := 172) dX9_takeFrom_172 ?_
  refine tz_sipush (pc := 173) dX9_takeFrom_173 (by decide) ?_
  refine tz_cp (pc := 176) (sp := 0) (dp := 0) (ln := 256) dX9_takeFrom_176 ml_X9_105 a_16 a_135 rfl rfl (by decide) (Nat.le_of_ble_eq_true rfl) (by decide +kernel) ?_
  exact tz_vret (pc := 179) dX9_takeFrom_179 rfl (Nat.le_of_ble_eq_true rfl) (Nat.le_of_ble_eq_true rfl) ⟨Nat.le_refl _, Nat.le_add_right _ _⟩ ⟨rfl, rfl⟩

set_option maxHeartbeats 4000000 in
set_option maxRecDepth 100000 in
theorem c_teTake6_125 {l : Launch} {G : tb_G} (hl : l.stackTraces = false) (n : Nat) (J : zJ)    (h0 : 0 ≤ J 125 12 ∧ J 125 12 ≤ 400) : tz_Ok l G M_X9_takeFrom 1 0 0 [.ref 6, .ref 125] n J (zqv (fun J' => zcp (zcp (zcp (zcp (zcp (zcp (zcp (zcp (zcp (zcp (zup J 6 12 (J 125 12)) 126 7 0 0 (J 125 12)) 127 8 0 0 (J 125 12)) 128 9 0 0 (J 125 12 * 3)) 129 10 0 0 (J 125 12)) 130 11 0 0 (J 125 12)) 131 12 0 0 (J 125 12)) 132 13 0 0 (J 125 12)) 133 14 0 0 (J 125 12)) 134 15 0 0 (J 125 12)) 135 16 0 0 256 = J')) zN := by
  refine tz_Ok.of hl (by decide +kernel) rfl (tb_c1 rfl) (Nat.le_of_ble_eq_true rfl) ?_
  show tz_At l G M_X9_takeFrom (tb_rm 1 0 0) none (tb_ZM G 0 0 (zQ n 0 (zqv (fun J' => zcp (zcp (zcp (zcp (zcp (zcp (zcp (zcp (zcp (zcp (zup J 6 12 (J 125 12)) 126 7 0 0 (J 125 12)) 127 8 0 0 (J 125 12)) 128 9 0 0 (J 125 12 * 3)) 129 10 0 0 (J 125 12)) 130 11 0 0 (J 125 12)) 131 12 0 0 (J 125 12)) 132 13 0 0 (J 125 12)) 133 14 0 0 (J 125 12)) 134 15 0 0 (J 125 12)) 135 16 0 0 256 = J'))) (zX n 0 zN)) 0 0 n J 0 [some (.ref 6), some (.ref 125)] []
  refine tz_aload_n (pc := 0) dX9_takeFrom_0 rfl rfl ?_
  refine tz_aload_n (pc := 1) dX9_takeFrom_1 rfl rfl ?_
  refine tz_fI (pc := 2) (kz := 12) (v := (J 125 12)) dX9_takeFrom_2 fl_X9_45 i_125_12 rfl rfl (fun r_2 => ?_)
  refine tz_pI (pc := 5) (kz := 12) dX9_takeFrom_5 fl_X9_45 i_6_12 rfl rfl (by omega) ?_
  refine tz_aload_n (pc := 8) dX9_takeFrom_8 rfl rfl ?_
  refine tz_fR (pc := 9) dX9_takeFrom_9 fl_X9_11 r_125_1 ?_
  refine tz_iconst (pc := 12) dX9_takeFrom_12 ?_
  refine tz_aload_n (pc := 13) dX9_takeFrom_13 rfl rfl ?_
  refine tz_fR (pc := 14) dX9_takeFrom_14 fl_X9_11 r_6_1 ?_
  refine tz_iconst (pc := 17) dX9_takeFrom_17 ?_
  refine tz_aload_n (pc := 18) dX9_takeFrom_18 rfl rfl ?_
  refine tz_fI (pc := 19) (kz := 12) (v := (J 125 12)) dX9_takeFrom_19 fl_X9_45 i_6_12 rfl rfl (fun r_19 => ?_)
  refine tz_cp (pc := 22) (sp := 0) (dp := 0) (ln := (J 125 12)) dX9_takeFrom_22 ml_X9_105 a_126 a_7 rfl rfl (by omega) (Nat.le_of_ble_eq_true rfl) (by decide +kernel) ?_
  refine tz_aload_n (pc := 25) dX9_takeFrom_25 rfl rfl ?_
  refine tz_fR (pc := 26) dX9_takeFrom_26 fl_X9_15 r_125_2 ?_
  refine tz_iconst (pc := 29) dX9_takeFrom_29 ?_
  refine tz_aload_n (pc := 30) dX9_takeFrom_30 rfl rfl ?_
  refine tz_fR (pc := 31) dX9_takeFrom_31 fl_X9_15 r_6_2 ?_
  refine tz_iconst (pc := 34) dX9_takeFrom_34 ?_
  refine tz_aload_n (pc := 35) dX9_takeFrom_35 rfl rfl ?_
  refine tz_fI (pc := 36) (kz := 12) (v := (J 125 12)) dX9_takeFrom_36 fl_X9_45 i_6_12 rfl rfl (fun r_36 => ?_)
  refine tz_cp (pc := 39) (sp := 0) (dp := 0) (ln := (J 125 12)) dX9_takeFrom_39 ml_X9_105 a_127 a_8 rfl rfl (by omega) (Nat.le_of_ble_eq_true rfl) (by decide +kernel) ?_
  refine tz_aload_n (pc := 42) dX9_takeFrom_42 rfl rfl ?_
  refine tz_fR (pc := 43) dX9_takeFrom_43 fl_X9_18 r_125_3 ?_
  refine tz_iconst (pc := 46) dX9_takeFrom_46 ?_
  refine tz_aload_n (pc := 47) dX9_takeFrom_47 rfl rfl ?_
  refine tz_fR (pc := 48) dX9_takeFrom_48 fl_X9_18 r_6_3 ?_
  refine tz_iconst (pc := 51) dX9_takeFrom_51 ?_
  refine tz_aload_n (pc := 52) dX9_takeFrom_52 rfl rfl ?_
  refine tz_fI (pc := 53) (kz := 12) (v := (J 125 12)) dX9_takeFrom_53 fl_X9_45 i_6_12 rfl rfl (fun r_53 => ?_)
  refine tz_iconst (pc := 56) dX9_takeFrom_56 ?_
  refine tz_imul (pc := 57) (v := (J 125 12) * 3) dX9_takeFrom_57 rfl ?_
  refine tz_cp (pc := 58) (sp := 0) (dp := 0) (ln := ((J 125 12) * 3)) dX9_takeFrom_58 ml_X9_105 a_128 a_9 rfl rfl (by omega) (Nat.le_of_ble_eq_true rfl) (by decide +kernel) ?_
  refine tz_aload_n (pc := 61) dX9_takeFrom_61 rfl rfl ?_
  refine tz_fR (pc := 62) dX9_takeFrom_62 fl_X9_21 r_125_4 ?_
  refine tz_iconst (pc := 65) dX9_takeFrom_65 ?_
  refine tz_aload_n (pc := 66) dX9_takeFrom_66 rfl rfl ?_
  refine tz_fR (pc := 67) dX9_takeFrom_67 fl_X9_21 r_6_4 ?_
  refine tz_iconst (pc := 70) dX9_takeFrom_70 ?_
  refine tz_aload_n (pc := 71) dX9_takeFrom_71 rfl rfl ?_
  refine tz_fI (pc := 72) (kz := 12) (v := (J 125 12)) dX9_takeFrom_72 fl_X9_45 i_6_12 rfl rfl (fun r_72 => ?_)
  refine tz_cp (pc := 75) (sp := 0) (dp := 0) (ln := (J 125 12)) dX9_takeFrom_75 ml_X9_105 a_129 a_10 rfl rfl (by omega) (Nat.le_of_ble_eq_true rfl) (by decide +kernel) ?_
  refine tz_aload_n (pc := 78) dX9_takeFrom_78 rfl rfl ?_
  refine tz_fR (pc := 79) dX9_takeFrom_79 fl_X9_24 r_125_5 ?_
  refine tz_iconst (pc := 82) dX9_takeFrom_82 ?_
  refine tz_aload_n (pc := 83) dX9_takeFrom_83 rfl rfl ?_
  refine tz_fR (pc := 84) dX9_takeFrom_84 fl_X9_24 r_6_5 ?_
  refine tz_iconst (pc := 87) dX9_takeFrom_87 ?_
  refine tz_aload_n (pc := 88) dX9_takeFrom_88 rfl rfl ?_
  refine tz_fI (pc := 89) (kz := 12) (v := (J 125 12)) dX9_takeFrom_89 fl_X9_45 i_6_12 rfl rfl (fun r_89 => ?_)
  refine tz_cp (pc := 92) (sp := 0) (dp := 0) (ln := (J 125 12)) dX9_takeFrom_92 ml_X9_105 a_130 a_11 rfl rfl (by omega) (Nat.le_of_ble_eq_true rfl) (by decide +kernel) ?_
  refine tz_aload_n (pc := 95) dX9_takeFrom_95 rfl rfl ?_
  refine tz_fR (pc := 96) dX9_takeFrom_96 fl_X9_27 r_125_6 ?_
  refine tz_iconst (pc := 99) dX9_takeFrom_99 ?_
  refine tz_aload_n (pc := 100) dX9_takeFrom_100 rfl rfl ?_
  refine tz_fR (pc := 101) dX9_takeFrom_101 fl_X9_27 r_6_6 ?_
  refine tz_iconst (pc := 104) dX9_takeFrom_104 ?_
  refine tz_aload_n (pc := 105) dX9_takeFrom_105 rfl rfl ?_
  refine tz_fI (pc := 106) (kz := 12) (v := (J 125 12)) dX9_takeFrom_106 fl_X9_45 i_6_12 rfl rfl (fun r_106 => ?_)
  refine tz_cp (pc := 109) (sp := 0) (dp := 0) (ln := (J 125 12)) dX9_takeFrom_109 ml_X9_105 a_131 a_12 rfl rfl (by omega) (Nat.le_of_ble_eq_true rfl) (by decide +kernel) ?_
  refine tz_aload_n (pc := 112) dX9_takeFrom_112 rfl rfl ?_
  refine tz_fR (pc := 113) dX9_takeFrom_113 fl_X9_30 r_125_7 ?_
  refine tz_iconst (pc := 116) dX9_takeFrom_116 ?_
  refine tz_aload_n (pc := 117) dX9_takeFrom_117 rfl rfl ?_
  refine tz_fR (pc := 118) dX9_takeFrom_118 fl_X9_30 r_6_7 ?_
  refine tz_iconst (pc := 121) dX9_takeFrom_121 ?_
  refine tz_aload_n (pc := 122) dX9_takeFrom_122 rfl rfl ?_
  refine tz_fI (pc := 123) (kz := 12) (v := (J 125 12)) dX9_takeFrom_123 fl_X9_45 i_6_12 rfl rfl (fun r_123 => ?_)
  refine tz_cp (pc := 126) (sp := 0) (dp := 0) (ln := (J 125 12)) dX9_takeFrom_126 ml_X9_105 a_132 a_13 rfl rfl (by omega) (Nat.le_of_ble_eq_true rfl) (by decide +kernel) ?_
  refine tz_aload_n (pc := 129) dX9_takeFrom_129 rfl rfl ?_
  refine tz_fR (pc := 130) dX9_takeFrom_130 fl_X9_33 r_125_8 ?_
  refine tz_iconst (pc := 133) dX9_takeFrom_133 ?_
  refine tz_aload_n (pc := 134) dX9_takeFrom_134 rfl rfl ?_
  refine tz_fR (pc := 135) dX9_takeFrom_135 fl_X9_33 r_6_8 ?_
  refine tz_iconst (pc := 138) dX9_takeFrom_138 ?_
  refine tz_aload_n (pc := 139) dX9_takeFrom_139 rfl rfl ?_
  refine tz_fI (pc := 140) (kz := 12) (v := (J 125 12)) dX9_takeFrom_140 fl_X9_45 i_6_12 rfl rfl (fun r_140 => ?_)
  refine tz_cp (pc := 143) (sp := 0) (dp := 0) (ln := (J 125 12)) dX9_takeFrom_143 ml_X9_105 a_133 a_14 rfl rfl (by omega) (Nat.le_of_ble_eq_true rfl) (by decide +kernel) ?_
  refine tz_aload_n (pc := 146) dX9_takeFrom_146 rfl rfl ?_
  refine tz_fR (pc := 147) dX9_takeFrom_147 fl_X9_36 r_125_9 ?_
  refine tz_iconst (pc := 150) dX9_takeFrom_150 ?_
  refine tz_aload_n (pc := 151) dX9_takeFrom_151 rfl rfl ?_
  refine tz_fR (pc := 152) dX9_takeFrom_152 fl_X9_36 r_6_9 ?_
  refine tz_iconst (pc := 155) dX9_takeFrom_155 ?_
  refine tz_aload_n (pc := 156) dX9_takeFrom_156 rfl rfl ?_
  refine tz_fI (pc := 157) (kz := 12) (v := (J 125 12)) dX9_takeFrom_157 fl_X9_45 i_6_12 rfl rfl (fun r_157 => ?_)
  refine tz_cp (pc := 160) (sp := 0) (dp := 0) (ln := (J 125 12)) dX9_takeFrom_160 ml_X9_105 a_134 a_15 rfl rfl (by omega) (Nat.le_of_ble_eq_true rfl) (by decide +kernel) ?_
  refine tz_aload_n (pc := 163) dX9_takeFrom_163 rfl rfl ?_
  refine tz_fR (pc := 164) dX9_takeFrom_164 fl_X9_39 r_125_10 ?_
  refine tz_iconst (pc := 167) dX9_takeFrom_167 ?_
  refine tz_aload_n (pc := 168) dX9_takeFrom_168 rfl rfl ?_
  refine tz_fR (pc := 169) dX9_takeFrom_169 fl_X9_39 r_6_10 ?_
  refine tz_iconst (pc := 172) dX9_takeFrom_172 ?_
  refine tz_sipush (pc := 173) dX9_takeFrom_173 (by decide) ?_
  refine tz_cp (pc := 176) (sp := 0) (dp := 0) (ln := 256) dX9_takeFrom_176 ml_X9_105 a_135 a_16 rfl rfl (by decide) (Nat.le_of_ble_eq_true rfl) (by decide +kernel) ?_
  exact tz_vret (pc := 179) dX9_takeFrom_179 rfl (Nat.le_of_ble_eq_true rfl) (Nat.le_of_ble_eq_true rfl) ⟨Nat.le_refl _, Nat.le_add_right _ _⟩ ⟨rfl, rfl⟩

end
section
theorem z_nn {h : Int} (a : -8 ≤ h ∧ h < 0) : zxor h (-1) = -1 - h := by
  have h3 : h = -8 ∨ h = -7 ∨ h = -6 ∨ h = -5 ∨ h = -4 ∨ h = -3 ∨ h = -2 ∨ h = -1 := by omega
  rcases h3 with rfl | rfl | rfl | rfl | rfl | rfl | rfl | rfl <;> decide
def gOK (f : Int → Int) (m : Int) : Prop := ∀ v, 0 ≤ v → v < 8 → -1 ≤ f v ∧ f v < m
theorem CT.arh {J : zJ} {m s t : Int} (h : CT J m) (hs : 0 ≤ s ∧ s < m) (ht : 0 ≤ t ∧ t < m) (e : J 7 s = J 7 t) : J 8 s = J 8 t := by
  rw [(h.2.1 s hs.1 hs.2).1.1, (h.2.1 t ht.1 ht.2).1.1, e]
set_option maxHeartbeats 4000000 in
set_option maxRecDepth 100000 in
theorem c_takes {l : Launch} {G : tb_G} (hl : l.stackTraces = false) (n : Nat) (J : zJ) (v : Int) (t : Int) (hr_v : -2147483648 ≤ v ∧ v < 2147483648) (hr_t : -2147483648 ≤ t ∧ t < 2147483648)  (hv : 0 ≤ v ∧ v < 8) : tz_Ok l G M_X3_takes 0 0 0 [.ref 139, zi v, zi t] n J (zqi (fun z J' => (if J 140 v = -1 then zup J 140 v t else J) = J' ∧ (if J 140 v = -1 ∨ J 140 v = t then 1 else 0) = z)) zN := by
  refine tz_Ok.of hl (by decide +kernel) rfl (tb_c1 rfl) (Nat.le_of_ble_eq_true rfl) ?_
  show tz_At l G M_X3_takes (tb_rm 0 0 0) none (tb_ZM G 0 0 (zQ n 0 (zqi (fun z J' => (if J 140 v = -1 then zup J 140 v t else J) = J' ∧ (if J 140 v = -1 ∨ J 140 v = t then 1 else 0) = z))) (zX n 0 zN)) 0 0 n J 0 [some (.ref 139), some (zi v), some (zi t)] []
  refine tz_aload_n (pc := 0) dX3_takes_0 rfl rfl ?_
  refine tz_fR (pc := 1) dX3_takes_1 fl_X3_9 r_139_1 ?_
  refine tz_iload_n (pc := 4) dX3_takes_4 rfl rfl ?_
  refine tz_aL (pc := 5) (z := v) (v := (J 140 v)) dX3_takes_5 a_140 rfl (by omega) rfl (fun r_5 => ?_)
  refine tz_iconst (pc := 6) dX3_takes_6 ?_
  refine tz_icmp_ne (pc := 7) (tgt := 17) dX3_takes_7 (by decide) (by omega) (by decide) (fun h_7 => ?_) (fun h_7 => ?_)
  · refine tz_aload_n (pc := 17) dX3_takes_17 rfl rfl ?_
    refine tz_fR (pc := 18) dX3_takes_18 fl_X3_9 r_139_1 ?_
    refine tz_iload_n (pc := 21) dX3_takes_21 rfl rfl ?_
    refine tz_aL (pc := 22) (z := v) (v := (J 140 v)) dX3_takes_22 a_140 rfl (by omega) rfl (fun r_22 => ?_)
    refine tz_iload_n (pc := 23) dX3_takes_23 rfl rfl ?_
    refine tz_icmp_ne (pc := 24) (tgt := 31) dX3_takes_24 (by decide) (by omega) (by omega) (fun h_24 => ?_) (fun h_24 => ?_)
    · refine tz_iconst (pc := 31) dX3_takes_31 ?_
      exact tz_zret (pc := 32) (z := 0) dX3_takes_32 rfl (Or.inl rfl) (Nat.le_of_ble_eq_true rfl) (Nat.le_of_ble_eq_true rfl) ⟨Nat.le_refl _, Nat.le_add_right _ _⟩ ⟨_, rfl, (by decide), (by first | (exfalso; omega) | exact ⟨if_pos (by omega), if_pos (Or.inl (by omega))⟩ | exact ⟨if_neg (by omega), if_pos (Or.inr (by omega))⟩ | exact ⟨if_neg (by omega), if_neg (by omega)⟩)⟩
    · refine tz_iconst (pc := 27) dX3_takes_27 ?_
      refine tz_goto (pc := 28) (tgt := 32) dX3_takes_28 (by decide) ?_
      exact tz_zret (pc := 32) (z := 1) dX3_takes_32 rfl (Or.inr rfl) (Nat.le_of_ble_eq_true rfl) (Nat.le_of_ble_eq_true rfl) ⟨Nat.le_refl _, Nat.le_add_right _ _⟩ ⟨_, rfl, (by decide), (by first | (exfalso; omega) | exact ⟨if_pos (by omega), if_pos (Or.inl (by omega))⟩ | exact ⟨if_neg (by omega), if_pos (Or.inr (by omega))⟩ | exact ⟨if_neg (by omega), if_neg (by omega)⟩)⟩
  · refine tz_aload_n (pc := 10) dX3_takes_10 rfl rfl ?_
    refine tz_fR (pc := 11) dX3_takes_11 fl_X3_9 r_139_1 ?_
    refine tz_iload_n (pc := 14) dX3_takes_14 rfl rfl ?_
    refine tz_iload_n (pc := 15) dX3_takes_15 rfl rfl ?_
    refine tz_aS (pc := 16) (z := v) dX3_takes_16 a_140 rfl (by omega) (by omega) ?_
    refine tz_aload_n (pc := 17) dX3_takes_17 rfl rfl ?_
    refine tz_fR (pc := 18) dX3_takes_18 fl_X3_9 r_139_1 ?_
    refine tz_iload_n (pc := 21) dX3_takes_21 rfl rfl ?_
    refine tz_aL (pc := 22) (z := v) (v := t) dX3_takes_22 a_140 rfl (by omega) (by simp [zup]) (fun r_22 => ?_)
    refine tz_iload_n (pc := 23) dX3_takes_23 rfl rfl ?_
    refine tz_icmp_ne (pc := 24) (tgt := 31) dX3_takes_24 (by decide) (by omega) (by omega) (fun h_24 => ?_) (fun h_24 => ?_)
    · refine tz_iconst (pc := 31) dX3_takes_31 ?_
      exact tz_zret (pc := 32) (z := 0) dX3_takes_32 rfl (Or.inl rfl) (Nat.le_of_ble_eq_true rfl) (Nat.le_of_ble_eq_true rfl) ⟨Nat.le_refl _, Nat.le_add_right _ _⟩ ⟨_, rfl, (by decide), (by first | (exfalso; omega) | exact ⟨if_pos (by omega), if_pos (Or.inl (by omega))⟩ | exact ⟨if_neg (by omega), if_pos (Or.inr (by omega))⟩ | exact ⟨if_neg (by omega), if_neg (by omega)⟩)⟩
    · refine tz_iconst (pc := 27) dX3_takes_27 ?_
      refine tz_goto (pc := 28) (tgt := 32) dX3_takes_28 (by decide) ?_
      exact tz_zret (pc := 32) (z := 1) dX3_takes_32 rfl (Or.inr rfl) (Nat.le_of_ble_eq_true rfl) (Nat.le_of_ble_eq_true rfl) ⟨Nat.le_refl _, Nat.le_add_right _ _⟩ ⟨_, rfl, (by decide), (by first | (exfalso; omega) | exact ⟨if_pos (by omega), if_pos (Or.inl (by omega))⟩ | exact ⟨if_neg (by omega), if_pos (Or.inr (by omega))⟩ | exact ⟨if_neg (by omega), if_neg (by omega)⟩)⟩

theorem gOK.tk {J : zJ} {m v t : Int} (h : gOK (J 140) m) (ht : 0 ≤ t ∧ t < m) : gOK ((if J 140 v = -1 then zup J 140 v t else J) 140) m := by
  split
  · intro u a b
    by_cases e : u = v
    · rw [e, zup_at]; omega
    · rw [zup_ne e]; exact h u a b
  · exact h
theorem zOf_tk {J : zJ} {v t : Int} : zOf (zbut [140]) (if J 140 v = -1 then zup J 140 v t else J) J := by
  split
  · exact zOf.up rfl zOf.rf
  · exact zOf.rf
set_option maxHeartbeats 4000000 in
set_option maxRecDepth 100000 in
theorem c_fits7 {l : Launch} {G : tb_G} (hl : l.stackTraces = false) (n : Nat) (J : zJ) (p : Int) (t : Int) (hr_p : -2147483648 ≤ p ∧ p < 2147483648) (hr_t : -2147483648 ≤ t ∧ t < 2147483648) (m : Int) (C : CT J m) (hp : 0 ≤ p ∧ p < m) (ht : 0 ≤ t ∧ t < m) (hg : gOK (J 140) m) : tz_Ok l G M_X3_fitsPart 0 0 0 [.ref 139, zi p, zi t, zi 7] n J (zqi (fun z J' => (z = 0 ∨ z = 1) ∧ zOf (zbut [140]) J' J ∧ gOK (J' 140) m)) zN := by
  refine tz_Ok.of hl (by decide +kernel) rfl (tb_c1 rfl) (Nat.le_of_ble_eq_true rfl) ?_
  show tz_At l G M_X3_fitsPart (tb_rm 0 0 0) none (tb_ZM G 0 0 (zQ n 0 (zqi (fun z J' => (z = 0 ∨ z = 1) ∧ zOf (zbut [140]) J' J ∧ gOK (J' 140) m))) (zX n 0 zN)) 0 0 n J 0 [some (.ref 139), some (zi p), some (zi t), some (zi 7), none] []
  refine tz_iload_n (pc := 0) dX3_fitsPart_0 rfl rfl ?_
  refine tz_bipush (pc := 1) dX3_fitsPart_1 (by decide) ?_
  refine tz_icmp_leF (pc := 3) (tgt := 8) (by decide) dX3_fitsPart_3 (by decide) (by decide) (by decide) ?_
  refine tz_iconst (pc := 6) dX3_fitsPart_6 ?_
  exact tz_zret (pc := 7) (z := 0) dX3_fitsPart_7 rfl (Or.inl rfl) (Nat.le_of_ble_eq_true rfl) (Nat.le_of_ble_eq_true rfl) ⟨Nat.le_refl _, Nat.le_add_right _ _⟩ ⟨_, rfl, (by decide), ⟨Or.inl rfl, zOf.rf, hg⟩⟩

set_option maxHeartbeats 4000000 in
set_option maxRecDepth 100000 in
theorem c_fits6 {l : Launch} {G : tb_G} (hl : l.stackTraces = false) (n : Nat) (J : zJ) (p : Int) (t : Int) (hr_p : -2147483648 ≤ p ∧ p < 2147483648) (hr_t : -2147483648 ≤ t ∧ t < 2147483648) (m : Int) (C : CT J m) (hp : 0 ≤ p ∧ p < m) (ht : 0 ≤ t ∧ t < m) (hg : gOK (J 140) m) : tz_Ok l G M_X3_fitsPart 1 0 0 [.ref 139, zi p, zi t, zi 6] n J (zqi (fun z J' => (z = 0 ∨ z = 1) ∧ zOf (zbut [140]) J' J ∧ gOK (J' 140) m)) zN := by
  refine tz_Ok.of hl (by decide +kernel) rfl (tb_c1 rfl) (Nat.le_of_ble_eq_true rfl) ?_
  show tz_At l G M_X3_fitsPart (tb_rm 1 0 0) none (tb_ZM G 0 0 (zQ n 0 (zqi (fun z J' => (z = 0 ∨ z = 1) ∧ zOf (zbut [140]) J' J ∧ gOK (J' 140) m))) (zX n 0 zN)) 0 0 n J 0 [some (.ref 139), some (zi p), some (zi t), some (zi 6), none] []
  have hm := C.told
  have ha := C.ar hp.1 hp.2
  refine tz_iload_n (pc := 0) dX3_fitsPart_0 rfl rfl ?_
  refine tz_bipush (pc := 1) dX3_fitsPart_1 (by decide) ?_
  refine tz_icmp_leT (pc := 3) (tgt := 8) (by decide) dX3_fitsPart_3 (by decide) (by decide) (by decide) ?_
  refine tz_aload_n (pc := 8) dX3_fitsPart_8 rfl rfl ?_
  refine tz_fR (pc := 9) dX3_fitsPart_9 fl_X3_15 r_139_0 ?_
  refine tz_iload_n (pc := 12) dX3_fitsPart_12 rfl rfl ?_
  refine tz_cV (pc := 13) (c_isVar hl n _ _ (by omega) (by omega)) vl_X3_29 dX3_fitsPart_13 o_6 rfl rfl (Nat.le_of_ble_eq_true rfl) ⟨(Nat.le_of_ble_eq_true rfl), (Nat.le_of_ble_eq_true rfl)⟩ rfl rfl (Nat.le_of_ble_eq_true rfl) (Nat.le_of_ble_eq_true rfl) (fun r9 J_13 hq9 => ?_)
  obtain ⟨z_13, rfl, hz_13, rfl, rfl⟩ := hq9
  by_cases hw_16 : J 7 p < 0
  · rw [show (if J 7 p < 0 then 1 else 0 : Int) = 1 from if_pos hw_16]
    refine tz_if_eqF (pc := 16) (tgt := 36) (by decide) dX3_fitsPart_16 (by decide) (by decide) ?_
    refine tz_aload_n (pc := 19) dX3_fitsPart_19 rfl rfl ?_
    refine tz_aload_n (pc := 20) dX3_fitsPart_20 rfl rfl ?_
    refine tz_fR (pc := 21) dX3_fitsPart_21 fl_X3_15 r_139_0 ?_
    refine tz_fR (pc := 24) dX3_fitsPart_24 fl_X3_35 r_6_1 ?_
    refine tz_iload_n (pc := 27) dX3_fitsPart_27 rfl rfl ?_
    refine tz_aL (pc := 28) (z := p) (v := (J 7 p)) dX3_fitsPart_28 a_7 rfl (by omega) rfl (fun r_28 => ?_)
    refine tz_iconst (pc := 29) dX3_fitsPart_29 ?_
    refine tz_ixor (pc := 30) (v := zxor (J 7 p) (-1)) dX3_fitsPart_30 rfl ?_
    refine tz_iload_n (pc := 31) dX3_fitsPart_31 rfl rfl ?_
    refine tz_cV (pc := 32) (c_takes hl n _ _ _ (by rw [z_nn (by omega)]; omega) (by omega) (by rw [z_nn (by omega)]; omega)) vl_X3_38 dX3_fitsPart_32 o_139 rfl rfl (Nat.le_of_ble_eq_true rfl) ⟨(Nat.le_of_ble_eq_true rfl), (Nat.le_of_ble_eq_true rfl)⟩ rfl rfl (Nat.le_of_ble_eq_true rfl) (Nat.le_of_ble_eq_true rfl) (fun r9 J_32 hq9 => ?_)
    obtain ⟨z_32, rfl, hz_32, hj, hz⟩ := hq9
    exact tz_zret (pc := 35) (z := z_32) dX3_fitsPart_35 rfl (by omega) (Nat.le_of_ble_eq_true rfl) (Nat.le_of_ble_eq_true rfl) ⟨Nat.le_refl _, Nat.le_add_right _ _⟩ ⟨_, rfl, (by omega), (by first | exact ⟨Or.inl rfl, zOf.rf, hg⟩ | exact ⟨Or.inr rfl, fr, h1⟩ | exact ⟨Or.inl rfl, f2.tr fr, h2⟩ | (subst hj; exact ⟨by split at hz <;> omega, zOf_tk, hg.tk ht⟩))⟩
  · rw [show (if J 7 p < 0 then 1 else 0 : Int) = 0 from if_neg hw_16]
    refine tz_if_eqT (pc := 16) (tgt := 36) (by decide) dX3_fitsPart_16 (by decide) (by decide) ?_
    refine tz_aload_n (pc := 36) dX3_fitsPart_36 rfl rfl ?_
    refine tz_fR (pc := 37) dX3_fitsPart_37 fl_X3_15 r_139_0 ?_
    refine tz_fR (pc := 40) dX3_fitsPart_40 fl_X3_35 r_6_1 ?_
    refine tz_iload_n (pc := 43) dX3_fitsPart_43 rfl rfl ?_
    refine tz_aL (pc := 44) (z := p) (v := (J 7 p)) dX3_fitsPart_44 a_7 rfl (by omega) rfl (fun r_44 => ?_)
    refine tz_aload_n (pc := 45) dX3_fitsPart_45 rfl rfl ?_
    refine tz_fR (pc := 46) dX3_fitsPart_46 fl_X3_15 r_139_0 ?_
    refine tz_fR (pc := 49) dX3_fitsPart_49 fl_X3_35 r_6_1 ?_
    refine tz_iload_n (pc := 52) dX3_fitsPart_52 rfl rfl ?_
    refine tz_aL (pc := 53) (z := t) (v := (J 7 t)) dX3_fitsPart_53 a_7 rfl (by omega) rfl (fun r_53 => ?_)
    refine tz_icmp_eq (pc := 54) (tgt := 59) dX3_fitsPart_54 (by decide) (by omega) (by omega) (fun h_54 => ?_) (fun h_54 => ?_)
    · refine tz_iconst (pc := 59) dX3_fitsPart_59 ?_
      refine tz_istore (pc := 60) (L2 := [_, _, _, _, _]) dX3_fitsPart_60 (by decide) rfl ?_
      have loop62 : ∀ (f9 : Nat) (i : Int) (J1 : zJ), ((3 - i).toNat) < f9 → (0 ≤ i ∧ i ≤ J 8 p) → (zOf (zbut [140]) J1 J) → (gOK (J1 140) m) → tz_At l G M_X3_fitsPart (tb_rm 1 0 0) none (tb_ZM G 0 0 (zQ n 0 (zqi (fun z J' => (z = 0 ∨ z = 1) ∧ zOf (zbut [140]) J' J ∧ gOK (J' 140) m))) (zX n 0 zN)) 0 0 n J1 62 [some (.ref 139), some (zi p), some (zi t), some (zi 6), some (zi i)] [] := by
        intro f9
        induction f9 with
        | zero => intro i J1 hm9; exact absurd hm9 (Nat.not_lt_zero _)
        | succ f9 ih62 =>
          intro i J1 hm62 hi fr h1
          have he := C.arh hp ht (by omega)
          have e9 := fr 9 rfl
          refine tz_iload (pc := 62) dX3_fitsPart_62 rfl ?_
          refine tz_aload_n (pc := 64) dX3_fitsPart_64 rfl rfl ?_
          refine tz_fR (pc := 65) dX3_fitsPart_65 fl_X3_15 r_139_0 ?_
          refine tz_fR (pc := 68) dX3_fitsPart_68 fl_X3_42 r_6_2 ?_
          refine tz_iload_n (pc := 71) dX3_fitsPart_71 rfl rfl ?_
          refine tz_aL (pc := 72) (z := p) (v := (J 8 p)) dX3_fitsPart_72 a_8 rfl (by omega) (Eq.trans (congrFun (fr 8 rfl) p) rfl) (fun r_72 => ?_)
          refine tz_icmp_ge (pc := 73) (tgt := 114) dX3_fitsPart_73 (by decide) (by omega) (by omega) (fun h_73 => ?_) (fun h_73 => ?_)
          · refine tz_iconst (pc := 114) dX3_fitsPart_114 ?_
            exact tz_zret (pc := 115) (z := 1) dX3_fitsPart_115 rfl (Or.inr rfl) (Nat.le_of_ble_eq_true rfl) (Nat.le_of_ble_eq_true rfl) ⟨Nat.le_refl _, Nat.le_add_right _ _⟩ ⟨_, rfl, (by decide), (by first | exact ⟨Or.inl rfl, zOf.rf, hg⟩ | exact ⟨Or.inr rfl, fr, h1⟩ | exact ⟨Or.inl rfl, f2.tr fr, h2⟩ | (subst hj; exact ⟨by split at hz <;> omega, zOf_tk, hg.tk ht⟩))⟩
          · refine tz_aload_n (pc := 76) dX3_fitsPart_76 rfl rfl ?_
            refine tz_aload_n (pc := 77) dX3_fitsPart_77 rfl rfl ?_
            refine tz_fR (pc := 78) dX3_fitsPart_78 fl_X3_15 r_139_0 ?_
            refine tz_iload_n (pc := 81) dX3_fitsPart_81 rfl rfl ?_
            refine tz_iload (pc := 82) dX3_fitsPart_82 rfl ?_
            refine tz_cV (pc := 84) (c_arg hl n _ _ _ (by omega) (by omega) (by omega)) vl_X3_45 dX3_fitsPart_84 o_6 rfl rfl (Nat.le_of_ble_eq_true rfl) ⟨(Nat.le_of_ble_eq_true rfl), (Nat.le_of_ble_eq_true rfl)⟩ rfl rfl (Nat.le_of_ble_eq_true rfl) (Nat.le_of_ble_eq_true rfl) (fun r9 J_84 hq9 => ?_)
            obtain ⟨z_84, rfl, hz_84, rfl, rfl⟩ := hq9
            refine tz_aload_n (pc := 87) dX3_fitsPart_87 rfl rfl ?_
            refine tz_fR (pc := 88) dX3_fitsPart_88 fl_X3_15 r_139_0 ?_
            refine tz_iload_n (pc := 91) dX3_fitsPart_91 rfl rfl ?_
            refine tz_iload (pc := 92) dX3_fitsPart_92 rfl ?_
            refine tz_cV (pc := 94) (c_arg hl n _ _ _ (by omega) (by omega) (by omega)) vl_X3_45 dX3_fitsPart_94 o_6 rfl rfl (Nat.le_of_ble_eq_true rfl) ⟨(Nat.le_of_ble_eq_true rfl), (Nat.le_of_ble_eq_true rfl)⟩ rfl rfl (Nat.le_of_ble_eq_true rfl) (Nat.le_of_ble_eq_true rfl) (fun r9 J_94 hq9 => ?_)
            obtain ⟨z_94, rfl, hz_94, rfl, rfl⟩ := hq9
            refine tz_iload_n (pc := 97) dX3_fitsPart_97 rfl rfl ?_
            refine tz_iconst (pc := 98) dX3_fitsPart_98 ?_
            refine tz_iadd (pc := 99) (v := 7) dX3_fitsPart_99 (by decide) ?_
            have g1 := (C.arg (t := p) (i := i) (by omega) (by omega) (by omega) (by omega)).1
            have g2 := (C.arg (t := t) (i := i) (by omega) (by omega) (by omega) (by omega)).1
            rw [← e9] at g1 g2
            refine tz_cV (pc := 100) (c_fits7 hl n _ _ _ (by omega) (by omega) m (C.of (fun c hc => fr c (by simp [zbut]; omega))) (by omega) (by omega) h1) vl_X3_25 dX3_fitsPart_100 o_139 rfl rfl (Nat.le_of_ble_eq_true rfl) ⟨(Nat.le_of_ble_eq_true rfl), (Nat.le_of_ble_eq_true rfl)⟩ rfl rfl (Nat.le_of_ble_eq_true rfl) (Nat.le_of_ble_eq_true rfl) (fun r9 J_100 hq9 => ?_)
            obtain ⟨z_100, rfl, hz_100, hz, f2, h2⟩ := hq9
            refine tz_if_ne (pc := 103) (tgt := 108) dX3_fitsPart_103 (by decide) (by omega) (fun h_103 => ?_) (fun h_103 => ?_)
            · refine tz_iinc (pc := 108) (z := i + 1) (L2 := [_, _, _, _, _]) dX3_fitsPart_108 rfl (by omega) rfl ?_
              refine tz_goto (pc := 111) (tgt := 62) dX3_fitsPart_111 (by decide) ?_
              exact ih62 (i + 1) _ (by omega) (by omega) (f2.tr fr) h2
            · refine tz_iconst (pc := 106) dX3_fitsPart_106 ?_
              exact tz_zret (pc := 107) (z := 0) dX3_fitsPart_107 rfl (Or.inl rfl) (Nat.le_of_ble_eq_true rfl) (Nat.le_of_ble_eq_true rfl) ⟨Nat.le_refl _, Nat.le_add_right _ _⟩ ⟨_, rfl, (by decide), (by first | exact ⟨Or.inl rfl, zOf.rf, hg⟩ | exact ⟨Or.inr rfl, fr, h1⟩ | exact ⟨Or.inl rfl, f2.tr fr, h2⟩ | (subst hj; exact ⟨by split at hz <;> omega, zOf_tk, hg.tk ht⟩))⟩
      exact loop62 _ 0 _ (Nat.lt_succ_self _) (by omega) zOf.rf hg
    · refine tz_iconst (pc := 57) dX3_fitsPart_57 ?_
      exact tz_zret (pc := 58) (z := 0) dX3_fitsPart_58 rfl (Or.inl rfl) (Nat.le_of_ble_eq_true rfl) (Nat.le_of_ble_eq_true rfl) ⟨Nat.le_refl _, Nat.le_add_right _ _⟩ ⟨_, rfl, (by decide), (by first | exact ⟨Or.inl rfl, zOf.rf, hg⟩ | exact ⟨Or.inr rfl, fr, h1⟩ | exact ⟨Or.inl rfl, f2.tr fr, h2⟩ | (subst hj; exact ⟨by split at hz <;> omega, zOf_tk, hg.tk ht⟩))⟩

set_option maxHeartbeats 4000000 in
set_option maxRecDepth 100000 in
theorem c_fits5 {l : Launch} {G : tb_G} (hl : l.stackTraces = false) (n : Nat) (J : zJ) (p : Int) (t : Int) (hr_p : -2147483648 ≤ p ∧ p < 2147483648) (hr_t : -2147483648 ≤ t ∧ t < 2147483648) (m : Int) (C : CT J m) (hp : 0 ≤ p ∧ p < m) (ht : 0 ≤ t ∧ t < m) (hg : gOK (J 140) m) : tz_Ok l G M_X3_fitsPart 2 0 0 [.ref 139, zi p, zi t, zi 5] n J (zqi (fun z J' => (z = 0 ∨ z = 1) ∧ zOf (zbut [140]) J' J ∧ gOK (J' 140) m)) zN := by
  refine tz_Ok.of hl (by decide +kernel) rfl (tb_c1 rfl) (Nat.le_of_ble_eq_true rfl) ?_
  show tz_At l G M_X3_fitsPart (tb_rm 2 0 0) none (tb_ZM G 0 0 (zQ n 0 (zqi (fun z J' => (z = 0 ∨ z = 1) ∧ zOf (zbut [140]) J' J ∧ gOK (J' 140) m))) (zX n 0 zN)) 0 0 n J 0 [some (.ref 139), some (zi p), some (zi t), some (zi 5), none] []
  have hm := C.told
  have ha := C.ar hp.1 hp.2
  refine tz_iload_n (pc := 0) dX3_fitsPart_0 rfl rfl ?_
  refine tz_bipush (pc := 1) dX3_fitsPart_1 (by decide) ?_
  refine tz_icmp_leT (pc := 3) (tgt := 8) (by decide) dX3_fitsPart_3 (by decide) (by decide) (by decide) ?_
  refine tz_aload_n (pc := 8) dX3_fitsPart_8 rfl rfl ?_
  refine tz_fR (pc := 9) dX3_fitsPart_9 fl_X3_15 r_139_0 ?_
  refine tz_iload_n (pc := 12) dX3_fitsPart_12 rfl rfl ?_
  refine tz_cV (pc := 13) (c_isVar hl n _ _ (by omega) (by omega)) vl_X3_29 dX3_fitsPart_13 o_6 rfl rfl (Nat.le_of_ble_eq_true rfl) ⟨(Nat.le_of_ble_eq_true rfl), (Nat.le_of_ble_eq_true rfl)⟩ rfl rfl (Nat.le_of_ble_eq_true rfl) (Nat.le_of_ble_eq_true rfl) (fun r9 J_13 hq9 => ?_)
  obtain ⟨z_13, rfl, hz_13, rfl, rfl⟩ := hq9
  by_cases hw_16 : J 7 p < 0
  · rw [show (if J 7 p < 0 then 1 else 0 : Int) = 1 from if_pos hw_16]
    refine tz_if_eqF (pc := 16) (tgt := 36) (by decide) dX3_fitsPart_16 (by decide) (by decide) ?_
    refine tz_aload_n (pc := 19) dX3_fitsPart_19 rfl rfl ?_
    refine tz_aload_n (pc := 20) dX3_fitsPart_20 rfl rfl ?_
    refine tz_fR (pc := 21) dX3_fitsPart_21 fl_X3_15 r_139_0 ?_
    refine tz_fR (pc := 24) dX3_fitsPart_24 fl_X3_35 r_6_1 ?_
    refine tz_iload_n (pc := 27) dX3_fitsPart_27 rfl rfl ?_
    refine tz_aL (pc := 28) (z := p) (v := (J 7 p)) dX3_fitsPart_28 a_7 rfl (by omega) rfl (fun r_28 => ?_)
    refine tz_iconst (pc := 29) dX3_fitsPart_29 ?_
    refine tz_ixor (pc := 30) (v := zxor (J 7 p) (-1)) dX3_fitsPart_30 rfl ?_
    refine tz_iload_n (pc := 31) dX3_fitsPart_31 rfl rfl ?_
    refine tz_cV (pc := 32) (c_takes hl n _ _ _ (by rw [z_nn (by omega)]; omega) (by omega) (by rw [z_nn (by omega)]; omega)) vl_X3_38 dX3_fitsPart_32 o_139 rfl rfl (Nat.le_of_ble_eq_true rfl) ⟨(Nat.le_of_ble_eq_true rfl), (Nat.le_of_ble_eq_true rfl)⟩ rfl rfl (Nat.le_of_ble_eq_true rfl) (Nat.le_of_ble_eq_true rfl) (fun r9 J_32 hq9 => ?_)
    obtain ⟨z_32, rfl, hz_32, hj, hz⟩ := hq9
    exact tz_zret (pc := 35) (z := z_32) dX3_fitsPart_35 rfl (by omega) (Nat.le_of_ble_eq_true rfl) (Nat.le_of_ble_eq_true rfl) ⟨Nat.le_refl _, Nat.le_add_right _ _⟩ ⟨_, rfl, (by omega), (by first | exact ⟨Or.inl rfl, zOf.rf, hg⟩ | exact ⟨Or.inr rfl, fr, h1⟩ | exact ⟨Or.inl rfl, f2.tr fr, h2⟩ | (subst hj; exact ⟨by split at hz <;> omega, zOf_tk, hg.tk ht⟩))⟩
  · rw [show (if J 7 p < 0 then 1 else 0 : Int) = 0 from if_neg hw_16]
    refine tz_if_eqT (pc := 16) (tgt := 36) (by decide) dX3_fitsPart_16 (by decide) (by decide) ?_
    refine tz_aload_n (pc := 36) dX3_fitsPart_36 rfl rfl ?_
    refine tz_fR (pc := 37) dX3_fitsPart_37 fl_X3_15 r_139_0 ?_
    refine tz_fR (pc := 40) dX3_fitsPart_40 fl_X3_35 r_6_1 ?_
    refine tz_iload_n (pc := 43) dX3_fitsPart_43 rfl rfl ?_
    refine tz_aL (pc := 44) (z := p) (v := (J 7 p)) dX3_fitsPart_44 a_7 rfl (by omega) rfl (fun r_44 => ?_)
    refine tz_aload_n (pc := 45) dX3_fitsPart_45 rfl rfl ?_
    refine tz_fR (pc := 46) dX3_fitsPart_46 fl_X3_15 r_139_0 ?_
    refine tz_fR (pc := 49) dX3_fitsPart_49 fl_X3_35 r_6_1 ?_
    refine tz_iload_n (pc := 52) dX3_fitsPart_52 rfl rfl ?_
    refine tz_aL (pc := 53) (z := t) (v := (J 7 t)) dX3_fitsPart_53 a_7 rfl (by omega) rfl (fun r_53 => ?_)
    refine tz_icmp_eq (pc := 54) (tgt := 59) dX3_fitsPart_54 (by decide) (by omega) (by omega) (fun h_54 => ?_) (fun h_54 => ?_)
    · refine tz_iconst (pc := 59) dX3_fitsPart_59 ?_
      refine tz_istore (pc := 60) (L2 := [_, _, _, _, _]) dX3_fitsPart_60 (by decide) rfl ?_
      have loop62 : ∀ (f9 : Nat) (i : Int) (J1 : zJ), ((3 - i).toNat) < f9 → (0 ≤ i ∧ i ≤ J 8 p) → (zOf (zbut [140]) J1 J) → (gOK (J1 140) m) → tz_At l G M_X3_fitsPart (tb_rm 2 0 0) none (tb_ZM G 0 0 (zQ n 0 (zqi (fun z J' => (z = 0 ∨ z = 1) ∧ zOf (zbut [140]) J' J ∧ gOK (J' 140) m))) (zX n 0 zN)) 0 0 n J1 62 [some (.ref 139), some (zi p), some (zi t), some (zi 5), some (zi i)] [] := by
        intro f9
        induction f9 with
        | zero => intro i J1 hm9; exact absurd hm9 (Nat.not_lt_zero _)
        | succ f9 ih62 =>
          intro i J1 hm62 hi fr h1
          have he := C.arh hp ht (by omega)
          have e9 := fr 9 rfl
          refine tz_iload (pc := 62) dX3_fitsPart_62 rfl ?_
          refine tz_aload_n (pc := 64) dX3_fitsPart_64 rfl rfl ?_
          refine tz_fR (pc := 65) dX3_fitsPart_65 fl_X3_15 r_139_0 ?_
          refine tz_fR (pc := 68) dX3_fitsPart_68 fl_X3_42 r_6_2 ?_
          refine tz_iload_n (pc := 71) dX3_fitsPart_71 rfl rfl ?_
          refine tz_aL (pc := 72) (z := p) (v := (J 8 p)) dX3_fitsPart_72 a_8 rfl (by omega) (Eq.trans (congrFun (fr 8 rfl) p) rfl) (fun r_72 => ?_)
          refine tz_icmp_ge (pc := 73) (tgt := 114) dX3_fitsPart_73 (by decide) (by omega) (by omega) (fun h_73 => ?_) (fun h_73 => ?_)
          · refine tz_iconst (pc := 114) dX3_fitsPart_114 ?_
            exact tz_zret (pc := 115) (z := 1) dX3_fitsPart_115 rfl (Or.inr rfl) (Nat.le_of_ble_eq_true rfl) (Nat.le_of_ble_eq_true rfl) ⟨Nat.le_refl _, Nat.le_add_right _ _⟩ ⟨_, rfl, (by decide), (by first | exact ⟨Or.inl rfl, zOf.rf, hg⟩ | exact ⟨Or.inr rfl, fr, h1⟩ | exact ⟨Or.inl rfl, f2.tr fr, h2⟩ | (subst hj; exact ⟨by split at hz <;> omega, zOf_tk, hg.tk ht⟩))⟩
          · refine tz_aload_n (pc := 76) dX3_fitsPart_76 rfl rfl ?_
            refine tz_aload_n (pc := 77) dX3_fitsPart_77 rfl rfl ?_
            refine tz_fR (pc := 78) dX3_fitsPart_78 fl_X3_15 r_139_0 ?_
            refine tz_iload_n (pc := 81) dX3_fitsPart_81 rfl rfl ?_
            refine tz_iload (pc := 82) dX3_fitsPart_82 rfl ?_
            refine tz_cV (pc := 84) (c_arg hl n _ _ _ (by omega) (by omega) (by omega)) vl_X3_45 dX3_fitsPart_84 o_6 rfl rfl (Nat.le_of_ble_eq_true rfl) ⟨(Nat.le_of_ble_eq_true rfl), (Nat.le_of_ble_eq_true rfl)⟩ rfl rfl (Nat.le_of_ble_eq_true rfl) (Nat.le_of_ble_eq_true rfl) (fun r9 J_84 hq9 => ?_)
            obtain ⟨z_84, rfl, hz_84, rfl, rfl⟩ := hq9
            refine tz_aload_n (pc := 87) dX3_fitsPart_87 rfl rfl ?_
            refine tz_fR (pc := 88) dX3_fitsPart_88 fl_X3_15 r_139_0 ?_
            refine tz_iload_n (pc := 91) dX3_fitsPart_91 rfl rfl ?_
            refine tz_iload (pc := 92) dX3_fitsPart_92 rfl ?_
            refine tz_cV (pc := 94) (c_arg hl n _ _ _ (by omega) (by omega) (by omega)) vl_X3_45 dX3_fitsPart_94 o_6 rfl rfl (Nat.le_of_ble_eq_true rfl) ⟨(Nat.le_of_ble_eq_true rfl), (Nat.le_of_ble_eq_true rfl)⟩ rfl rfl (Nat.le_of_ble_eq_true rfl) (Nat.le_of_ble_eq_true rfl) (fun r9 J_94 hq9 => ?_)
            obtain ⟨z_94, rfl, hz_94, rfl, rfl⟩ := hq9
            refine tz_iload_n (pc := 97) dX3_fitsPart_97 rfl rfl ?_
            refine tz_iconst (pc := 98) dX3_fitsPart_98 ?_
            refine tz_iadd (pc := 99) (v := 6) dX3_fitsPart_99 (by decide) ?_
            have g1 := (C.arg (t := p) (i := i) (by omega) (by omega) (by omega) (by omega)).1
            have g2 := (C.arg (t := t) (i := i) (by omega) (by omega) (by omega) (by omega)).1
            rw [← e9] at g1 g2
            refine tz_cV (pc := 100) (c_fits6 hl n _ _ _ (by omega) (by omega) m (C.of (fun c hc => fr c (by simp [zbut]; omega))) (by omega) (by omega) h1) vl_X3_25 dX3_fitsPart_100 o_139 rfl rfl (Nat.le_of_ble_eq_true rfl) ⟨(Nat.le_of_ble_eq_true rfl), (Nat.le_of_ble_eq_true rfl)⟩ rfl rfl (Nat.le_of_ble_eq_true rfl) (Nat.le_of_ble_eq_true rfl) (fun r9 J_100 hq9 => ?_)
            obtain ⟨z_100, rfl, hz_100, hz, f2, h2⟩ := hq9
            refine tz_if_ne (pc := 103) (tgt := 108) dX3_fitsPart_103 (by decide) (by omega) (fun h_103 => ?_) (fun h_103 => ?_)
            · refine tz_iinc (pc := 108) (z := i + 1) (L2 := [_, _, _, _, _]) dX3_fitsPart_108 rfl (by omega) rfl ?_
              refine tz_goto (pc := 111) (tgt := 62) dX3_fitsPart_111 (by decide) ?_
              exact ih62 (i + 1) _ (by omega) (by omega) (f2.tr fr) h2
            · refine tz_iconst (pc := 106) dX3_fitsPart_106 ?_
              exact tz_zret (pc := 107) (z := 0) dX3_fitsPart_107 rfl (Or.inl rfl) (Nat.le_of_ble_eq_true rfl) (Nat.le_of_ble_eq_true rfl) ⟨Nat.le_refl _, Nat.le_add_right _ _⟩ ⟨_, rfl, (by decide), (by first | exact ⟨Or.inl rfl, zOf.rf, hg⟩ | exact ⟨Or.inr rfl, fr, h1⟩ | exact ⟨Or.inl rfl, f2.tr fr, h2⟩ | (subst hj; exact ⟨by split at hz <;> omega, zOf_tk, hg.tk ht⟩))⟩
      exact loop62 _ 0 _ (Nat.lt_succ_self _) (by omega) zOf.rf hg
    · refine tz_iconst (pc := 57) dX3_fitsPart_57 ?_
      exact tz_zret (pc := 58) (z := 0) dX3_fitsPart_58 rfl (Or.inl rfl) (Nat.le_of_ble_eq_true rfl) (Nat.le_of_ble_eq_true rfl) ⟨Nat.le_refl _, Nat.le_add_right _ _⟩ ⟨_, rfl, (by decide), (by first | exact ⟨Or.inl rfl, zOf.rf, hg⟩ | exact ⟨Or.inr rfl, fr, h1⟩ | exact ⟨Or.inl rfl, f2.tr fr, h2⟩ | (subst hj; exact ⟨by split at hz <;> omega, zOf_tk, hg.tk ht⟩))⟩

set_option maxHeartbeats 4000000 in
set_option maxRecDepth 100000 in
theorem c_fits4 {l : Launch} {G : tb_G} (hl : l.stackTraces = false) (n : Nat) (J : zJ) (p : Int) (t : Int) (hr_p : -2147483648 ≤ p ∧ p < 2147483648) (hr_t : -2147483648 ≤ t ∧ t < 2147483648) (m : Int) (C : CT J m) (hp : 0 ≤ p ∧ p < m) (ht : 0 ≤ t ∧ t < m) (hg : gOK (J 140) m) : tz_Ok l G M_X3_fitsPart 3 0 0 [.ref 139, zi p, zi t, zi 4] n J (zqi (fun z J' => (z = 0 ∨ z = 1) ∧ zOf (zbut [140]) J' J ∧ gOK (J' 140) m)) zN := by
  refine tz_Ok.of hl (by decide +kernel) rfl (tb_c1 rfl) (Nat.le_of_ble_eq_true rfl) ?_
  show tz_At l G M_X3_fitsPart (tb_rm 3 0 0) none (tb_ZM G 0 0 (zQ n 0 (zqi (fun z J' => (z = 0 ∨ z = 1) ∧ zOf (zbut [140]) J' J ∧ gOK (J' 140) m))) (zX n 0 zN)) 0 0 n J 0 [some (.ref 139), some (zi p), some (zi t), some (zi 4), none] []
  have hm := C.told
  have ha := C.ar hp.1 hp.2
  refine tz_iload_n (pc := 0) dX3_fitsPart_0 rfl rfl ?_
  refine tz_bipush (pc := 1) dX3_fitsPart_1 (by decide) ?_
  refine tz_icmp_leT (pc := 3) (tgt := 8) (by decide) dX3_fitsPart_3 (by decide) (by decide) (by decide) ?_
  refine tz_aload_n (pc := 8) dX3_fitsPart_8 rfl rfl ?_
  refine tz_fR (pc := 9) dX3_fitsPart_9 fl_X3_15 r_139_0 ?_
  refine tz_iload_n (pc := 12) dX3_fitsPart_12 rfl rfl ?_
  refine tz_cV (pc := 13) (c_isVar hl n _ _ (by omega) (by omega)) vl_X3_29 dX3_fitsPart_13 o_6 rfl rfl (Nat.le_of_ble_eq_true rfl) ⟨(Nat.le_of_ble_eq_true rfl), (Nat.le_of_ble_eq_true rfl)⟩ rfl rfl (Nat.le_of_ble_eq_true rfl) (Nat.le_of_ble_eq_true rfl) (fun r9 J_13 hq9 => ?_)
  obtain ⟨z_13, rfl, hz_13, rfl, rfl⟩ := hq9
  by_cases hw_16 : J 7 p < 0
  · rw [show (if J 7 p < 0 then 1 else 0 : Int) = 1 from if_pos hw_16]
    refine tz_if_eqF (pc := 16) (tgt := 36) (by decide) dX3_fitsPart_16 (by decide) (by decide) ?_
    refine tz_aload_n (pc := 19) dX3_fitsPart_19 rfl rfl ?_
    refine tz_aload_n (pc := 20) dX3_fitsPart_20 rfl rfl ?_
    refine tz_fR (pc := 21) dX3_fitsPart_21 fl_X3_15 r_139_0 ?_
    refine tz_fR (pc := 24) dX3_fitsPart_24 fl_X3_35 r_6_1 ?_
    refine tz_iload_n (pc := 27) dX3_fitsPart_27 rfl rfl ?_
    refine tz_aL (pc := 28) (z := p) (v := (J 7 p)) dX3_fitsPart_28 a_7 rfl (by omega) rfl (fun r_28 => ?_)
    refine tz_iconst (pc := 29) dX3_fitsPart_29 ?_
    refine tz_ixor (pc := 30) (v := zxor (J 7 p) (-1)) dX3_fitsPart_30 rfl ?_
    refine tz_iload_n (pc := 31) dX3_fitsPart_31 rfl rfl ?_
    refine tz_cV (pc := 32) (c_takes hl n _ _ _ (by rw [z_nn (by omega)]; omega) (by omega) (by rw [z_nn (by omega)]; omega)) vl_X3_38 dX3_fitsPart_32 o_139 rfl rfl (Nat.le_of_ble_eq_true rfl) ⟨(Nat.le_of_ble_eq_true rfl), (Nat.le_of_ble_eq_true rfl)⟩ rfl rfl (Nat.le_of_ble_eq_true rfl) (Nat.le_of_ble_eq_true rfl) (fun r9 J_32 hq9 => ?_)
    obtain ⟨z_32, rfl, hz_32, hj, hz⟩ := hq9
    exact tz_zret (pc := 35) (z := z_32) dX3_fitsPart_35 rfl (by omega) (Nat.le_of_ble_eq_true rfl) (Nat.le_of_ble_eq_true rfl) ⟨Nat.le_refl _, Nat.le_add_right _ _⟩ ⟨_, rfl, (by omega), (by first | exact ⟨Or.inl rfl, zOf.rf, hg⟩ | exact ⟨Or.inr rfl, fr, h1⟩ | exact ⟨Or.inl rfl, f2.tr fr, h2⟩ | (subst hj; exact ⟨by split at hz <;> omega, zOf_tk, hg.tk ht⟩))⟩
  · rw [show (if J 7 p < 0 then 1 else 0 : Int) = 0 from if_neg hw_16]
    refine tz_if_eqT (pc := 16) (tgt := 36) (by decide) dX3_fitsPart_16 (by decide) (by decide) ?_
    refine tz_aload_n (pc := 36) dX3_fitsPart_36 rfl rfl ?_
    refine tz_fR (pc := 37) dX3_fitsPart_37 fl_X3_15 r_139_0 ?_
    refine tz_fR (pc := 40) dX3_fitsPart_40 fl_X3_35 r_6_1 ?_
    refine tz_iload_n (pc := 43) dX3_fitsPart_43 rfl rfl ?_
    refine tz_aL (pc := 44) (z := p) (v := (J 7 p)) dX3_fitsPart_44 a_7 rfl (by omega) rfl (fun r_44 => ?_)
    refine tz_aload_n (pc := 45) dX3_fitsPart_45 rfl rfl ?_
    refine tz_fR (pc := 46) dX3_fitsPart_46 fl_X3_15 r_139_0 ?_
    refine tz_fR (pc := 49) dX3_fitsPart_49 fl_X3_35 r_6_1 ?_
    refine tz_iload_n (pc := 52) dX3_fitsPart_52 rfl rfl ?_
    refine tz_aL (pc := 53) (z := t) (v := (J 7 t)) dX3_fitsPart_53 a_7 rfl (by omega) rfl (fun r_53 => ?_)
    refine tz_icmp_eq (pc := 54) (tgt := 59) dX3_fitsPart_54 (by decide) (by omega) (by omega) (fun h_54 => ?_) (fun h_54 => ?_)
    · refine tz_iconst (pc := 59) dX3_fitsPart_59 ?_
      refine tz_istore (pc := 60) (L2 := [_, _, _, _, _]) dX3_fitsPart_60 (by decide) rfl ?_
      have loop62 : ∀ (f9 : Nat) (i : Int) (J1 : zJ), ((3 - i).toNat) < f9 → (0 ≤ i ∧ i ≤ J 8 p) → (zOf (zbut [140]) J1 J) → (gOK (J1 140) m) → tz_At l G M_X3_fitsPart (tb_rm 3 0 0) none (tb_ZM G 0 0 (zQ n 0 (zqi (fun z J' => (z = 0 ∨ z = 1) ∧ zOf (zbut [140]) J' J ∧ gOK (J' 140) m))) (zX n 0 zN)) 0 0 n J1 62 [some (.ref 139), some (zi p), some (zi t), some (zi 4), some (zi i)] [] := by
        intro f9
        induction f9 with
        | zero => intro i J1 hm9; exact absurd hm9 (Nat.not_lt_zero _)
        | succ f9 ih62 =>
          intro i J1 hm62 hi fr h1
          have he := C.arh hp ht (by omega)
          have e9 := fr 9 rfl
          refine tz_iload (pc := 62) dX3_fitsPart_62 rfl ?_
          refine tz_aload_n (pc := 64) dX3_fitsPart_64 rfl rfl ?_
          refine tz_fR (pc := 65) dX3_fitsPart_65 fl_X3_15 r_139_0 ?_
          refine tz_fR (pc := 68) dX3_fitsPart_68 fl_X3_42 r_6_2 ?_
          refine tz_iload_n (pc := 71) dX3_fitsPart_71 rfl rfl ?_
          refine tz_aL (pc := 72) (z := p) (v := (J 8 p)) dX3_fitsPart_72 a_8 rfl (by omega) (Eq.trans (congrFun (fr 8 rfl) p) rfl) (fun r_72 => ?_)
          refine tz_icmp_ge (pc := 73) (tgt := 114) dX3_fitsPart_73 (by decide) (by omega) (by omega) (fun h_73 => ?_) (fun h_73 => ?_)
          · refine tz_iconst (pc := 114) dX3_fitsPart_114 ?_
            exact tz_zret (pc := 115) (z := 1) dX3_fitsPart_115 rfl (Or.inr rfl) (Nat.le_of_ble_eq_true rfl) (Nat.le_of_ble_eq_true rfl) ⟨Nat.le_refl _, Nat.le_add_right _ _⟩ ⟨_, rfl, (by decide), (by first | exact ⟨Or.inl rfl, zOf.rf, hg⟩ | exact ⟨Or.inr rfl, fr, h1⟩ | exact ⟨Or.inl rfl, f2.tr fr, h2⟩ | (subst hj; exact ⟨by split at hz <;> omega, zOf_tk, hg.tk ht⟩))⟩
          · refine tz_aload_n (pc := 76) dX3_fitsPart_76 rfl rfl ?_
            refine tz_aload_n (pc := 77) dX3_fitsPart_77 rfl rfl ?_
            refine tz_fR (pc := 78) dX3_fitsPart_78 fl_X3_15 r_139_0 ?_
            refine tz_iload_n (pc := 81) dX3_fitsPart_81 rfl rfl ?_
            refine tz_iload (pc := 82) dX3_fitsPart_82 rfl ?_
            refine tz_cV (pc := 84) (c_arg hl n _ _ _ (by omega) (by omega) (by omega)) vl_X3_45 dX3_fitsPart_84 o_6 rfl rfl (Nat.le_of_ble_eq_true rfl) ⟨(Nat.le_of_ble_eq_true rfl), (Nat.le_of_ble_eq_true rfl)⟩ rfl rfl (Nat.le_of_ble_eq_true rfl) (Nat.le_of_ble_eq_true rfl) (fun r9 J_84 hq9 => ?_)
            obtain ⟨z_84, rfl, hz_84, rfl, rfl⟩ := hq9
            refine tz_aload_n (pc := 87) dX3_fitsPart_87 rfl rfl ?_
            refine tz_fR (pc := 88) dX3_fitsPart_88 fl_X3_15 r_139_0 ?_
            refine tz_iload_n (pc := 91) dX3_fitsPart_91 rfl rfl ?_
            refine tz_iload (pc := 92) dX3_fitsPart_92 rfl ?_
            refine tz_cV (pc := 94) (c_arg hl n _ _ _ (by omega) (by omega) (by omega)) vl_X3_45 dX3_fitsPart_94 o_6 rfl rfl (Nat.le_of_ble_eq_true rfl) ⟨(Nat.le_of_ble_eq_true rfl), (Nat.le_of_ble_eq_true rfl)⟩ rfl rfl (Nat.le_of_ble_eq_true rfl) (Nat.le_of_ble_eq_true rfl) (fun r9 J_94 hq9 => ?_)
            obtain ⟨z_94, rfl, hz_94, rfl, rfl⟩ := hq9
            refine tz_iload_n (pc := 97) dX3_fitsPart_97 rfl rfl ?_
            refine tz_iconst (pc := 98) dX3_fitsPart_98 ?_
            refine tz_iadd (pc := 99) (v := 5) dX3_fitsPart_99 (by decide) ?_
            have g1 := (C.arg (t := p) (i := i) (by omega) (by omega) (by omega) (by omega)).1
            have g2 := (C.arg (t := t) (i := i) (by omega) (by omega) (by omega) (by omega)).1
            rw [← e9] at g1 g2
            refine tz_cV (pc := 100) (c_fits5 hl n _ _ _ (by omega) (by omega) m (C.of (fun c hc => fr c (by simp [zbut]; omega))) (by omega) (by omega) h1) vl_X3_25 dX3_fitsPart_100 o_139 rfl rfl (Nat.le_of_ble_eq_true rfl) ⟨(Nat.le_of_ble_eq_true rfl), (Nat.le_of_ble_eq_true rfl)⟩ rfl rfl (Nat.le_of_ble_eq_true rfl) (Nat.le_of_ble_eq_true rfl) (fun r9 J_100 hq9 => ?_)
            obtain ⟨z_100, rfl, hz_100, hz, f2, h2⟩ := hq9
            refine tz_if_ne (pc := 103) (tgt := 108) dX3_fitsPart_103 (by decide) (by omega) (fun h_103 => ?_) (fun h_103 => ?_)
            · refine tz_iinc (pc := 108) (z := i + 1) (L2 := [_, _, _, _, _]) dX3_fitsPart_108 rfl (by omega) rfl ?_
              refine tz_goto (pc := 111) (tgt := 62) dX3_fitsPart_111 (by decide) ?_
              exact ih62 (i + 1) _ (by omega) (by omega) (f2.tr fr) h2
            · refine tz_iconst (pc := 106) dX3_fitsPart_106 ?_
              exact tz_zret (pc := 107) (z := 0) dX3_fitsPart_107 rfl (Or.inl rfl) (Nat.le_of_ble_eq_true rfl) (Nat.le_of_ble_eq_true rfl) ⟨Nat.le_refl _, Nat.le_add_right _ _⟩ ⟨_, rfl, (by decide), (by first | exact ⟨Or.inl rfl, zOf.rf, hg⟩ | exact ⟨Or.inr rfl, fr, h1⟩ | exact ⟨Or.inl rfl, f2.tr fr, h2⟩ | (subst hj; exact ⟨by split at hz <;> omega, zOf_tk, hg.tk ht⟩))⟩
      exact loop62 _ 0 _ (Nat.lt_succ_self _) (by omega) zOf.rf hg
    · refine tz_iconst (pc := 57) dX3_fitsPart_57 ?_
      exact tz_zret (pc := 58) (z := 0) dX3_fitsPart_58 rfl (Or.inl rfl) (Nat.le_of_ble_eq_true rfl) (Nat.le_of_ble_eq_true rfl) ⟨Nat.le_refl _, Nat.le_add_right _ _⟩ ⟨_, rfl, (by decide), (by first | exact ⟨Or.inl rfl, zOf.rf, hg⟩ | exact ⟨Or.inr rfl, fr, h1⟩ | exact ⟨Or.inl rfl, f2.tr fr, h2⟩ | (subst hj; exact ⟨by split at hz <;> omega, zOf_tk, hg.tk ht⟩))⟩

set_option maxHeartbeats 4000000 in
set_option maxRecDepth 100000 in
theorem c_fits3 {l : Launch} {G : tb_G} (hl : l.stackTraces = false) (n : Nat) (J : zJ) (p : Int) (t : Int) (hr_p : -2147483648 ≤ p ∧ p < 2147483648) (hr_t : -2147483648 ≤ t ∧ t < 2147483648) (m : Int) (C : CT J m) (hp : 0 ≤ p ∧ p < m) (ht : 0 ≤ t ∧ t < m) (hg : gOK (J 140) m) : tz_Ok l G M_X3_fitsPart 4 0 0 [.ref 139, zi p, zi t, zi 3] n J (zqi (fun z J' => (z = 0 ∨ z = 1) ∧ zOf (zbut [140]) J' J ∧ gOK (J' 140) m)) zN := by
  refine tz_Ok.of hl (by decide +kernel) rfl (tb_c1 rfl) (Nat.le_of_ble_eq_true rfl) ?_
  show tz_At l G M_X3_fitsPart (tb_rm 4 0 0) none (tb_ZM G 0 0 (zQ n 0 (zqi (fun z J' => (z = 0 ∨ z = 1) ∧ zOf (zbut [140]) J' J ∧ gOK (J' 140) m))) (zX n 0 zN)) 0 0 n J 0 [some (.ref 139), some (zi p), some (zi t), some (zi 3), none] []
  have hm := C.told
  have ha := C.ar hp.1 hp.2
  refine tz_iload_n (pc := 0) dX3_fitsPart_0 rfl rfl ?_
  refine tz_bipush (pc := 1) dX3_fitsPart_1 (by decide) ?_
  refine tz_icmp_leT (pc := 3) (tgt := 8) (by decide) dX3_fitsPart_3 (by decide) (by decide) (by decide) ?_
  refine tz_aload_n (pc := 8) dX3_fitsPart_8 rfl rfl ?_
  refine tz_fR (pc := 9) dX3_fitsPart_9 fl_X3_15 r_139_0 ?_
  refine tz_iload_n (pc := 12) dX3_fitsPart_12 rfl rfl ?_
  refine tz_cV (pc := 13) (c_isVar hl n _ _ (by omega) (by omega)) vl_X3_29 dX3_fitsPart_13 o_6 rfl rfl (Nat.le_of_ble_eq_true rfl) ⟨(Nat.le_of_ble_eq_true rfl), (Nat.le_of_ble_eq_true rfl)⟩ rfl rfl (Nat.le_of_ble_eq_true rfl) (Nat.le_of_ble_eq_true rfl) (fun r9 J_13 hq9 => ?_)
  obtain ⟨z_13, rfl, hz_13, rfl, rfl⟩ := hq9
  by_cases hw_16 : J 7 p < 0
  · rw [show (if J 7 p < 0 then 1 else 0 : Int) = 1 from if_pos hw_16]
    refine tz_if_eqF (pc := 16) (tgt := 36) (by decide) dX3_fitsPart_16 (by decide) (by decide) ?_
    refine tz_aload_n (pc := 19) dX3_fitsPart_19 rfl rfl ?_
    refine tz_aload_n (pc := 20) dX3_fitsPart_20 rfl rfl ?_
    refine tz_fR (pc := 21) dX3_fitsPart_21 fl_X3_15 r_139_0 ?_
    refine tz_fR (pc := 24) dX3_fitsPart_24 fl_X3_35 r_6_1 ?_
    refine tz_iload_n (pc := 27) dX3_fitsPart_27 rfl rfl ?_
    refine tz_aL (pc := 28) (z := p) (v := (J 7 p)) dX3_fitsPart_28 a_7 rfl (by omega) rfl (fun r_28 => ?_)
    refine tz_iconst (pc := 29) dX3_fitsPart_29 ?_
    refine tz_ixor (pc := 30) (v := zxor (J 7 p) (-1)) dX3_fitsPart_30 rfl ?_
    refine tz_iload_n (pc := 31) dX3_fitsPart_31 rfl rfl ?_
    refine tz_cV (pc := 32) (c_takes hl n _ _ _ (by rw [z_nn (by omega)]; omega) (by omega) (by rw [z_nn (by omega)]; omega)) vl_X3_38 dX3_fitsPart_32 o_139 rfl rfl (Nat.le_of_ble_eq_true rfl) ⟨(Nat.le_of_ble_eq_true rfl), (Nat.le_of_ble_eq_true rfl)⟩ rfl rfl (Nat.le_of_ble_eq_true rfl) (Nat.le_of_ble_eq_true rfl) (fun r9 J_32 hq9 => ?_)
    obtain ⟨z_32, rfl, hz_32, hj, hz⟩ := hq9
    exact tz_zret (pc := 35) (z := z_32) dX3_fitsPart_35 rfl (by omega) (Nat.le_of_ble_eq_true rfl) (Nat.le_of_ble_eq_true rfl) ⟨Nat.le_refl _, Nat.le_add_right _ _⟩ ⟨_, rfl, (by omega), (by first | exact ⟨Or.inl rfl, zOf.rf, hg⟩ | exact ⟨Or.inr rfl, fr, h1⟩ | exact ⟨Or.inl rfl, f2.tr fr, h2⟩ | (subst hj; exact ⟨by split at hz <;> omega, zOf_tk, hg.tk ht⟩))⟩
  · rw [show (if J 7 p < 0 then 1 else 0 : Int) = 0 from if_neg hw_16]
    refine tz_if_eqT (pc := 16) (tgt := 36) (by decide) dX3_fitsPart_16 (by decide) (by decide) ?_
    refine tz_aload_n (pc := 36) dX3_fitsPart_36 rfl rfl ?_
    refine tz_fR (pc := 37) dX3_fitsPart_37 fl_X3_15 r_139_0 ?_
    refine tz_fR (pc := 40) dX3_fitsPart_40 fl_X3_35 r_6_1 ?_
    refine tz_iload_n (pc := 43) dX3_fitsPart_43 rfl rfl ?_
    refine tz_aL (pc := 44) (z := p) (v := (J 7 p)) dX3_fitsPart_44 a_7 rfl (by omega) rfl (fun r_44 => ?_)
    refine tz_aload_n (pc := 45) dX3_fitsPart_45 rfl rfl ?_
    refine tz_fR (pc := 46) dX3_fitsPart_46 fl_X3_15 r_139_0 ?_
    refine tz_fR (pc := 49) dX3_fitsPart_49 fl_X3_35 r_6_1 ?_
    refine tz_iload_n (pc := 52) dX3_fitsPart_52 rfl rfl ?_
    refine tz_aL (pc := 53) (z := t) (v := (J 7 t)) dX3_fitsPart_53 a_7 rfl (by omega) rfl (fun r_53 => ?_)
    refine tz_icmp_eq (pc := 54) (tgt := 59) dX3_fitsPart_54 (by decide) (by omega) (by omega) (fun h_54 => ?_) (fun h_54 => ?_)
    · refine tz_iconst (pc := 59) dX3_fitsPart_59 ?_
      refine tz_istore (pc := 60) (L2 := [_, _, _, _, _]) dX3_fitsPart_60 (by decide) rfl ?_
      have loop62 : ∀ (f9 : Nat) (i : Int) (J1 : zJ), ((3 - i).toNat) < f9 → (0 ≤ i ∧ i ≤ J 8 p) → (zOf (zbut [140]) J1 J) → (gOK (J1 140) m) → tz_At l G M_X3_fitsPart (tb_rm 4 0 0) none (tb_ZM G 0 0 (zQ n 0 (zqi (fun z J' => (z = 0 ∨ z = 1) ∧ zOf (zbut [140]) J' J ∧ gOK (J' 140) m))) (zX n 0 zN)) 0 0 n J1 62 [some (.ref 139), some (zi p), some (zi t), some (zi 3), some (zi i)] [] := by
        intro f9
        induction f9 with
        | zero => intro i J1 hm9; exact absurd hm9 (Nat.not_lt_zero _)
        | succ f9 ih62 =>
          intro i J1 hm62 hi fr h1
          have he := C.arh hp ht (by omega)
          have e9 := fr 9 rfl
          refine tz_iload (pc := 62) dX3_fitsPart_62 rfl ?_
          refine tz_aload_n (pc := 64) dX3_fitsPart_64 rfl rfl ?_
          refine tz_fR (pc := 65) dX3_fitsPart_65 fl_X3_15 r_139_0 ?_
          refine tz_fR (pc := 68) dX3_fitsPart_68 fl_X3_42 r_6_2 ?_
          refine tz_iload_n (pc := 71) dX3_fitsPart_71 rfl rfl ?_
          refine tz_aL (pc := 72) (z := p) (v := (J 8 p)) dX3_fitsPart_72 a_8 rfl (by omega) (Eq.trans (congrFun (fr 8 rfl) p) rfl) (fun r_72 => ?_)
          refine tz_icmp_ge (pc := 73) (tgt := 114) dX3_fitsPart_73 (by decide) (by omega) (by omega) (fun h_73 => ?_) (fun h_73 => ?_)
          · refine tz_iconst (pc := 114) dX3_fitsPart_114 ?_
            exact tz_zret (pc := 115) (z := 1) dX3_fitsPart_115 rfl (Or.inr rfl) (Nat.le_of_ble_eq_true rfl) (Nat.le_of_ble_eq_true rfl) ⟨Nat.le_refl _, Nat.le_add_right _ _⟩ ⟨_, rfl, (by decide), (by first | exact ⟨Or.inl rfl, zOf.rf, hg⟩ | exact ⟨Or.inr rfl, fr, h1⟩ | exact ⟨Or.inl rfl, f2.tr fr, h2⟩ | (subst hj; exact ⟨by split at hz <;> omega, zOf_tk, hg.tk ht⟩))⟩
          · refine tz_aload_n (pc := 76) dX3_fitsPart_76 rfl rfl ?_
            refine tz_aload_n (pc := 77) dX3_fitsPart_77 rfl rfl ?_
            refine tz_fR (pc := 78) dX3_fitsPart_78 fl_X3_15 r_139_0 ?_
            refine tz_iload_n (pc := 81) dX3_fitsPart_81 rfl rfl ?_
            refine tz_iload (pc := 82) dX3_fitsPart_82 rfl ?_
            refine tz_cV (pc := 84) (c_arg hl n _ _ _ (by omega) (by omega) (by omega)) vl_X3_45 dX3_fitsPart_84 o_6 rfl rfl (Nat.le_of_ble_eq_true rfl) ⟨(Nat.le_of_ble_eq_true rfl), (Nat.le_of_ble_eq_true rfl)⟩ rfl rfl (Nat.le_of_ble_eq_true rfl) (Nat.le_of_ble_eq_true rfl) (fun r9 J_84 hq9 => ?_)
            obtain ⟨z_84, rfl, hz_84, rfl, rfl⟩ := hq9
            refine tz_aload_n (pc := 87) dX3_fitsPart_87 rfl rfl ?_
            refine tz_fR (pc := 88) dX3_fitsPart_88 fl_X3_15 r_139_0 ?_
            refine tz_iload_n (pc := 91) dX3_fitsPart_91 rfl rfl ?_
            refine tz_iload (pc := 92) dX3_fitsPart_92 rfl ?_
            refine tz_cV (pc := 94) (c_arg hl n _ _ _ (by omega) (by omega) (by omega)) vl_X3_45 dX3_fitsPart_94 o_6 rfl rfl (Nat.le_of_ble_eq_true rfl) ⟨(Nat.le_of_ble_eq_true rfl), (Nat.le_of_ble_eq_true rfl)⟩ rfl rfl (Nat.le_of_ble_eq_true rfl) (Nat.le_of_ble_eq_true rfl) (fun r9 J_94 hq9 => ?_)
            obtain ⟨z_94, rfl, hz_94, rfl, rfl⟩ := hq9
            refine tz_iload_n (pc := 97) dX3_fitsPart_97 rfl rfl ?_
            refine tz_iconst (pc := 98) dX3_fitsPart_98 ?_
            refine tz_iadd (pc := 99) (v := 4) dX3_fitsPart_99 (by decide) ?_
            have g1 := (C.arg (t := p) (i := i) (by omega) (by omega) (by omega) (by omega)).1
            have g2 := (C.arg (t := t) (i := i) (by omega) (by omega) (by omega) (by omega)).1
            rw [← e9] at g1 g2
            refine tz_cV (pc := 100) (c_fits4 hl n _ _ _ (by omega) (by omega) m (C.of (fun c hc => fr c (by simp [zbut]; omega))) (by omega) (by omega) h1) vl_X3_25 dX3_fitsPart_100 o_139 rfl rfl (Nat.le_of_ble_eq_true rfl) ⟨(Nat.le_of_ble_eq_true rfl), (Nat.le_of_ble_eq_true rfl)⟩ rfl rfl (Nat.le_of_ble_eq_true rfl) (Nat.le_of_ble_eq_true rfl) (fun r9 J_100 hq9 => ?_)
            obtain ⟨z_100, rfl, hz_100, hz, f2, h2⟩ := hq9
            refine tz_if_ne (pc := 103) (tgt := 108) dX3_fitsPart_103 (by decide) (by omega) (fun h_103 => ?_) (fun h_103 => ?_)
            · refine tz_iinc (pc := 108) (z := i + 1) (L2 := [_, _, _, _, _]) dX3_fitsPart_108 rfl (by omega) rfl ?_
              refine tz_goto (pc := 111) (tgt := 62) dX3_fitsPart_111 (by decide) ?_
              exact ih62 (i + 1) _ (by omega) (by omega) (f2.tr fr) h2
            · refine tz_iconst (pc := 106) dX3_fitsPart_106 ?_
              exact tz_zret (pc := 107) (z := 0) dX3_fitsPart_107 rfl (Or.inl rfl) (Nat.le_of_ble_eq_true rfl) (Nat.le_of_ble_eq_true rfl) ⟨Nat.le_refl _, Nat.le_add_right _ _⟩ ⟨_, rfl, (by decide), (by first | exact ⟨Or.inl rfl, zOf.rf, hg⟩ | exact ⟨Or.inr rfl, fr, h1⟩ | exact ⟨Or.inl rfl, f2.tr fr, h2⟩ | (subst hj; exact ⟨by split at hz <;> omega, zOf_tk, hg.tk ht⟩))⟩
      exact loop62 _ 0 _ (Nat.lt_succ_self _) (by omega) zOf.rf hg
    · refine tz_iconst (pc := 57) dX3_fitsPart_57 ?_
      exact tz_zret (pc := 58) (z := 0) dX3_fitsPart_58 rfl (Or.inl rfl) (Nat.le_of_ble_eq_true rfl) (Nat.le_of_ble_eq_true rfl) ⟨Nat.le_refl _, Nat.le_add_right _ _⟩ ⟨_, rfl, (by decide), (by first | exact ⟨Or.inl rfl, zOf.rf, hg⟩ | exact ⟨Or.inr rfl, fr, h1⟩ | exact ⟨Or.inl rfl, f2.tr fr, h2⟩ | (subst hj; exact ⟨by split at hz <;> omega, zOf_tk, hg.tk ht⟩))⟩

set_option maxHeartbeats 4000000 in
set_option maxRecDepth 100000 in
theorem c_fits2 {l : Launch} {G : tb_G} (hl : l.stackTraces = false) (n : Nat) (J : zJ) (p : Int) (t : Int) (hr_p : -2147483648 ≤ p ∧ p < 2147483648) (hr_t : -2147483648 ≤ t ∧ t < 2147483648) (m : Int) (C : CT J m) (hp : 0 ≤ p ∧ p < m) (ht : 0 ≤ t ∧ t < m) (hg : gOK (J 140) m) : tz_Ok l G M_X3_fitsPart 5 0 0 [.ref 139, zi p, zi t, zi 2] n J (zqi (fun z J' => (z = 0 ∨ z = 1) ∧ zOf (zbut [140]) J' J ∧ gOK (J' 140) m)) zN := by
  refine tz_Ok.of hl (by decide +kernel) rfl (tb_c1 rfl) (Nat.le_of_ble_eq_true rfl) ?_
  show tz_At l G M_X3_fitsPart (tb_rm 5 0 0) none (tb_ZM G 0 0 (zQ n 0 (zqi (fun z J' => (z = 0 ∨ z = 1) ∧ zOf (zbut [140]) J' J ∧ gOK (J' 140) m))) (zX n 0 zN)) 0 0 n J 0 [some (.ref 139), some (zi p), some (zi t), some (zi 2), none] []
  have hm := C.told
  have ha := C.ar hp.1 hp.2
  refine tz_iload_n (pc := 0) dX3_fitsPart_0 rfl rfl ?_
  refine tz_bipush (pc := 1) dX3_fitsPart_1 (by decide) ?_
  refine tz_icmp_leT (pc := 3) (tgt := 8) (by decide) dX3_fitsPart_3 (by decide) (by decide) (by decide) ?_
  refine tz_aload_n (pc := 8) dX3_fitsPart_8 rfl rfl ?_
  refine tz_fR (pc := 9) dX3_fitsPart_9 fl_X3_15 r_139_0 ?_
  refine tz_iload_n (pc := 12) dX3_fitsPart_12 rfl rfl ?_
  refine tz_cV (pc := 13) (c_isVar hl n _ _ (by omega) (by omega)) vl_X3_29 dX3_fitsPart_13 o_6 rfl rfl (Nat.le_of_ble_eq_true rfl) ⟨(Nat.le_of_ble_eq_true rfl), (Nat.le_of_ble_eq_true rfl)⟩ rfl rfl (Nat.le_of_ble_eq_true rfl) (Nat.le_of_ble_eq_true rfl) (fun r9 J_13 hq9 => ?_)
  obtain ⟨z_13, rfl, hz_13, rfl, rfl⟩ := hq9
  by_cases hw_16 : J 7 p < 0
  · rw [show (if J 7 p < 0 then 1 else 0 : Int) = 1 from if_pos hw_16]
    refine tz_if_eqF (pc := 16) (tgt := 36) (by decide) dX3_fitsPart_16 (by decide) (by decide) ?_
    refine tz_aload_n (pc := 19) dX3_fitsPart_19 rfl rfl ?_
    refine tz_aload_n (pc := 20) dX3_fitsPart_20 rfl rfl ?_
    refine tz_fR (pc := 21) dX3_fitsPart_21 fl_X3_15 r_139_0 ?_
    refine tz_fR (pc := 24) dX3_fitsPart_24 fl_X3_35 r_6_1 ?_
    refine tz_iload_n (pc := 27) dX3_fitsPart_27 rfl rfl ?_
    refine tz_aL (pc := 28) (z := p) (v := (J 7 p)) dX3_fitsPart_28 a_7 rfl (by omega) rfl (fun r_28 => ?_)
    refine tz_iconst (pc := 29) dX3_fitsPart_29 ?_
    refine tz_ixor (pc := 30) (v := zxor (J 7 p) (-1)) dX3_fitsPart_30 rfl ?_
    refine tz_iload_n (pc := 31) dX3_fitsPart_31 rfl rfl ?_
    refine tz_cV (pc := 32) (c_takes hl n _ _ _ (by rw [z_nn (by omega)]; omega) (by omega) (by rw [z_nn (by omega)]; omega)) vl_X3_38 dX3_fitsPart_32 o_139 rfl rfl (Nat.le_of_ble_eq_true rfl) ⟨(Nat.le_of_ble_eq_true rfl), (Nat.le_of_ble_eq_true rfl)⟩ rfl rfl (Nat.le_of_ble_eq_true rfl) (Nat.le_of_ble_eq_true rfl) (fun r9 J_32 hq9 => ?_)
    obtain ⟨z_32, rfl, hz_32, hj, hz⟩ := hq9
    exact tz_zret (pc := 35) (z := z_32) dX3_fitsPart_35 rfl (by omega) (Nat.le_of_ble_eq_true rfl) (Nat.le_of_ble_eq_true rfl) ⟨Nat.le_refl _, Nat.le_add_right _ _⟩ ⟨_, rfl, (by omega), (by first | exact ⟨Or.inl rfl, zOf.rf, hg⟩ | exact ⟨Or.inr rfl, fr, h1⟩ | exact ⟨Or.inl rfl, f2.tr fr, h2⟩ | (subst hj; exact ⟨by split at hz <;> omega, zOf_tk, hg.tk ht⟩))⟩
  · rw [show (if J 7 p < 0 then 1 else 0 : Int) = 0 from if_neg hw_16]
    refine tz_if_eqT (pc := 16) (tgt := 36) (by decide) dX3_fitsPart_16 (by decide) (by decide) ?_
    refine tz_aload_n (pc := 36) dX3_fitsPart_36 rfl rfl ?_
    refine tz_fR (pc := 37) dX3_fitsPart_37 fl_X3_15 r_139_0 ?_
    refine tz_fR (pc := 40) dX3_fitsPart_40 fl_X3_35 r_6_1 ?_
    refine tz_iload_n (pc := 43) dX3_fitsPart_43 rfl rfl ?_
    refine tz_aL (pc := 44) (z := p) (v := (J 7 p)) dX3_fitsPart_44 a_7 rfl (by omega) rfl (fun r_44 => ?_)
    refine tz_aload_n (pc := 45) dX3_fitsPart_45 rfl rfl ?_
    refine tz_fR (pc := 46) dX3_fitsPart_46 fl_X3_15 r_139_0 ?_
    refine tz_fR (pc := 49) dX3_fitsPart_49 fl_X3_35 r_6_1 ?_
    refine tz_iload_n (pc := 52) dX3_fitsPart_52 rfl rfl ?_
    refine tz_aL (pc := 53) (z := t) (v := (J 7 t)) dX3_fitsPart_53 a_7 rfl (by omega) rfl (fun r_53 => ?_)
    refine tz_icmp_eq (pc := 54) (tgt := 59) dX3_fitsPart_54 (by decide) (by omega) (by omega) (fun h_54 => ?_) (fun h_54 => ?_)
    · refine tz_iconst (pc := 59) dX3_fitsPart_59 ?_
      refine tz_istore (pc := 60) (L2 := [_, _, _, _, _]) dX3_fitsPart_60 (by decide) rfl ?_
      have loop62 : ∀ (f9 : Nat) (i : Int) (J1 : zJ), ((3 - i).toNat) < f9 → (0 ≤ i ∧ i ≤ J 8 p) → (zOf (zbut [140]) J1 J) → (gOK (J1 140) m) → tz_At l G M_X3_fitsPart (tb_rm 5 0 0) none (tb_ZM G 0 0 (zQ n 0 (zqi (fun z J' => (z = 0 ∨ z = 1) ∧ zOf (zbut [140]) J' J ∧ gOK (J' 140) m))) (zX n 0 zN)) 0 0 n J1 62 [some (.ref 139), some (zi p), some (zi t), some (zi 2), some (zi i)] [] := by
        intro f9
        induction f9 with
        | zero => intro i J1 hm9; exact absurd hm9 (Nat.not_lt_zero _)
        | succ f9 ih62 =>
          intro i J1 hm62 hi fr h1
          have he := C.arh hp ht (by omega)
          have e9 := fr 9 rfl
          refine tz_iload (pc := 62) dX3_fitsPart_62 rfl ?_
          refine tz_aload_n (pc := 64) dX3_fitsPart_64 rfl rfl ?_
          refine tz_fR (pc := 65) dX3_fitsPart_65 fl_X3_15 r_139_0 ?_
          refine tz_fR (pc := 68) dX3_fitsPart_68 fl_X3_42 r_6_2 ?_
          refine tz_iload_n (pc := 71) dX3_fitsPart_71 rfl rfl ?_
          refine tz_aL (pc := 72) (z := p) (v := (J 8 p)) dX3_fitsPart_72 a_8 rfl (by omega) (Eq.trans (congrFun (fr 8 rfl) p) rfl) (fun r_72 => ?_)
          refine tz_icmp_ge (pc := 73) (tgt := 114) dX3_fitsPart_73 (by decide) (by omega) (by omega) (fun h_73 => ?_) (fun h_73 => ?_)
          · refine tz_iconst (pc := 114) dX3_fitsPart_114 ?_
            exact tz_zret (pc := 115) (z := 1) dX3_fitsPart_115 rfl (Or.inr rfl) (Nat.le_of_ble_eq_true rfl) (Nat.le_of_ble_eq_true rfl) ⟨Nat.le_refl _, Nat.le_add_right _ _⟩ ⟨_, rfl, (by decide), (by first | exact ⟨Or.inl rfl, zOf.rf, hg⟩ | exact ⟨Or.inr rfl, fr, h1⟩ | exact ⟨Or.inl rfl, f2.tr fr, h2⟩ | (subst hj; exact ⟨by split at hz <;> omega, zOf_tk, hg.tk ht⟩))⟩
          · refine tz_aload_n (pc := 76) dX3_fitsPart_76 rfl rfl ?_
            refine tz_aload_n (pc := 77) dX3_fitsPart_77 rfl rfl ?_
            refine tz_fR (pc := 78) dX3_fitsPart_78 fl_X3_15 r_139_0 ?_
            refine tz_iload_n (pc := 81) dX3_fitsPart_81 rfl rfl ?_
            refine tz_iload (pc := 82) dX3_fitsPart_82 rfl ?_
            refine tz_cV (pc := 84) (c_arg hl n _ _ _ (by omega) (by omega) (by omega)) vl_X3_45 dX3_fitsPart_84 o_6 rfl rfl (Nat.le_of_ble_eq_true rfl) ⟨(Nat.le_of_ble_eq_true rfl), (Nat.le_of_ble_eq_true rfl)⟩ rfl rfl (Nat.le_of_ble_eq_true rfl) (Nat.le_of_ble_eq_true rfl) (fun r9 J_84 hq9 => ?_)
            obtain ⟨z_84, rfl, hz_84, rfl, rfl⟩ := hq9
            refine tz_aload_n (pc := 87) dX3_fitsPart_87 rfl rfl ?_
            refine tz_fR (pc := 88) dX3_fitsPart_88 fl_X3_15 r_139_0 ?_
            refine tz_iload_n (pc := 91) dX3_fitsPart_91 rfl rfl ?_
            refine tz_iload (pc := 92) dX3_fitsPart_92 rfl ?_
            refine tz_cV (pc := 94) (c_arg hl n _ _ _ (by omega) (by omega) (by omega)) vl_X3_45 dX3_fitsPart_94 o_6 rfl rfl (Nat.le_of_ble_eq_true rfl) ⟨(Nat.le_of_ble_eq_true rfl), (Nat.le_of_ble_eq_true rfl)⟩ rfl rfl (Nat.le_of_ble_eq_true rfl) (Nat.le_of_ble_eq_true rfl) (fun r9 J_94 hq9 => ?_)
            obtain ⟨z_94, rfl, hz_94, rfl, rfl⟩ := hq9
            refine tz_iload_n (pc := 97) dX3_fitsPart_97 rfl rfl ?_
            refine tz_iconst (pc := 98) dX3_fitsPart_98 ?_
            refine tz_iadd (pc := 99) (v := 3) dX3_fitsPart_99 (by decide) ?_
            have g1 := (C.arg (t := p) (i := i) (by omega) (by omega) (by omega) (by omega)).1
            have g2 := (C.arg (t := t) (i := i) (by omega) (by omega) (by omega) (by omega)).1
            rw [← e9] at g1 g2
            refine tz_cV (pc := 100) (c_fits3 hl n _ _ _ (by omega) (by omega) m (C.of (fun c hc => fr c (by simp [zbut]; omega))) (by omega) (by omega) h1) vl_X3_25 dX3_fitsPart_100 o_139 rfl rfl (Nat.le_of_ble_eq_true rfl) ⟨(Nat.le_of_ble_eq_true rfl), (Nat.le_of_ble_eq_true rfl)⟩ rfl rfl (Nat.le_of_ble_eq_true rfl) (Nat.le_of_ble_eq_true rfl) (fun r9 J_100 hq9 => ?_)
            obtain ⟨z_100, rfl, hz_100, hz, f2, h2⟩ := hq9
            refine tz_if_ne (pc := 103) (tgt := 108) dX3_fitsPart_103 (by decide) (by omega) (fun h_103 => ?_) (fun h_103 => ?_)
            · refine tz_iinc (pc := 108) (z := i + 1) (L2 := [_, _, _, _, _]) dX3_fitsPart_108 rfl (by omega) rfl ?_
              refine tz_goto (pc := 111) (tgt := 62) dX3_fitsPart_111 (by decide) ?_
              exact ih62 (i + 1) _ (by omega) (by omega) (f2.tr fr) h2
            · refine tz_iconst (pc := 106) dX3_fitsPart_106 ?_
              exact tz_zret (pc := 107) (z := 0) dX3_fitsPart_107 rfl (Or.inl rfl) (Nat.le_of_ble_eq_true rfl) (Nat.le_of_ble_eq_true rfl) ⟨Nat.le_refl _, Nat.le_add_right _ _⟩ ⟨_, rfl, (by decide), (by first | exact ⟨Or.inl rfl, zOf.rf, hg⟩ | exact ⟨Or.inr rfl, fr, h1⟩ | exact ⟨Or.inl rfl, f2.tr fr, h2⟩ | (subst hj; exact ⟨by split at hz <;> omega, zOf_tk, hg.tk ht⟩))⟩
      exact loop62 _ 0 _ (Nat.lt_succ_self _) (by omega) zOf.rf hg
    · refine tz_iconst (pc := 57) dX3_fitsPart_57 ?_
      exact tz_zret (pc := 58) (z := 0) dX3_fitsPart_58 rfl (Or.inl rfl) (Nat.le_of_ble_eq_true rfl) (Nat.le_of_ble_eq_true rfl) ⟨Nat.le_refl _, Nat.le_add_right _ _⟩ ⟨_, rfl, (by decide), (by first | exact ⟨Or.inl rfl, zOf.rf, hg⟩ | exact ⟨Or.inr rfl, fr, h1⟩ | exact ⟨Or.inl rfl, f2.tr fr, h2⟩ | (subst hj; exact ⟨by split at hz <;> omega, zOf_tk, hg.tk ht⟩))⟩

set_option maxHeartbeats 4000000 in
set_option maxRecDepth 100000 in
theorem c_fits1 {l : Launch} {G : tb_G} (hl : l.stackTraces = false) (n : Nat) (J : zJ) (p : Int) (t : Int) (hr_p : -2147483648 ≤ p ∧ p < 2147483648) (hr_t : -2147483648 ≤ t ∧ t < 2147483648) (m : Int) (C : CT J m) (hp : 0 ≤ p ∧ p < m) (ht : 0 ≤ t ∧ t < m) (hg : gOK (J 140) m) : tz_Ok l G M_X3_fitsPart 6 0 0 [.ref 139, zi p, zi t, zi 1] n J (zqi (fun z J' => (z = 0 ∨ z = 1) ∧ zOf (zbut [140]) J' J ∧ gOK (J' 140) m)) zN := by
  refine tz_Ok.of hl (by decide +kernel) rfl (tb_c1 rfl) (Nat.le_of_ble_eq_true rfl) ?_
  show tz_At l G M_X3_fitsPart (tb_rm 6 0 0) none (tb_ZM G 0 0 (zQ n 0 (zqi (fun z J' => (z = 0 ∨ z = 1) ∧ zOf (zbut [140]) J' J ∧ gOK (J' 140) m))) (zX n 0 zN)) 0 0 n J 0 [some (.ref 139), some (zi p), some (zi t), some (zi 1), none] []
  have hm := C.told
  have ha := C.ar hp.1 hp.2
  refine tz_iload_n (pc := 0) dX3_fitsPart_0 rfl rfl ?_
  refine tz_bipush (pc := 1) dX3_fitsPart_1 (by decide) ?_
  refine tz_icmp_leT (pc := 3) (tgt := 8) (by decide) dX3_fitsPart_3 (by decide) (by decide) (by decide) ?_
  refine tz_aload_n (pc := 8) dX3_fitsPart_8 rfl rfl ?_
  refine tz_fR (pc := 9) dX3_fitsPart_9 fl_X3_15 r_139_0 ?_
  refine tz_iload_n (pc := 12) dX3_fitsPart_12 rfl rfl ?_
  refine tz_cV (pc := 13) (c_isVar hl n _ _ (by omega) (by omega)) vl_X3_29 dX3_fitsPart_13 o_6 rfl rfl (Nat.le_of_ble_eq_true rfl) ⟨(Nat.le_of_ble_eq_true rfl), (Nat.le_of_ble_eq_true rfl)⟩ rfl rfl (Nat.le_of_ble_eq_true rfl) (Nat.le_of_ble_eq_true rfl) (fun r9 J_13 hq9 => ?_)
  obtain ⟨z_13, rfl, hz_13, rfl, rfl⟩ := hq9
  by_cases hw_16 : J 7 p < 0
  · rw [show (if J 7 p < 0 then 1 else 0 : Int) = 1 from if_pos hw_16]
    refine tz_if_eqF (pc := 16) (tgt := 36) (by decide) dX3_fitsPart_16 (by decide) (by decide) ?_
    refine tz_aload_n (pc := 19) dX3_fitsPart_19 rfl rfl ?_
    refine tz_aload_n (pc := 20) dX3_fitsPart_20 rfl rfl ?_
    refine tz_fR (pc := 21) dX3_fitsPart_21 fl_X3_15 r_139_0 ?_
    refine tz_fR (pc := 24) dX3_fitsPart_24 fl_X3_35 r_6_1 ?_
    refine tz_iload_n (pc := 27) dX3_fitsPart_27 rfl rfl ?_
    refine tz_aL (pc := 28) (z := p) (v := (J 7 p)) dX3_fitsPart_28 a_7 rfl (by omega) rfl (fun r_28 => ?_)
    refine tz_iconst (pc := 29) dX3_fitsPart_29 ?_
    refine tz_ixor (pc := 30) (v := zxor (J 7 p) (-1)) dX3_fitsPart_30 rfl ?_
    refine tz_iload_n (pc := 31) dX3_fitsPart_31 rfl rfl ?_
    refine tz_cV (pc := 32) (c_takes hl n _ _ _ (by rw [z_nn (by omega)]; omega) (by omega) (by rw [z_nn (by omega)]; omega)) vl_X3_38 dX3_fitsPart_32 o_139 rfl rfl (Nat.le_of_ble_eq_true rfl) ⟨(Nat.le_of_ble_eq_true rfl), (Nat.le_of_ble_eq_true rfl)⟩ rfl rfl (Nat.le_of_ble_eq_true rfl) (Nat.le_of_ble_eq_true rfl) (fun r9 J_32 hq9 => ?_)
    obtain ⟨z_32, rfl, hz_32, hj, hz⟩ := hq9
    exact tz_zret (pc := 35) (z := z_32) dX3_fitsPart_35 rfl (by omega) (Nat.le_of_ble_eq_true rfl) (Nat.le_of_ble_eq_true rfl) ⟨Nat.le_refl _, Nat.le_add_right _ _⟩ ⟨_, rfl, (by omega), (by first | exact ⟨Or.inl rfl, zOf.rf, hg⟩ | exact ⟨Or.inr rfl, fr, h1⟩ | exact ⟨Or.inl rfl, f2.tr fr, h2⟩ | (subst hj; exact ⟨by split at hz <;> omega, zOf_tk, hg.tk ht⟩))⟩
  · rw [show (if J 7 p < 0 then 1 else 0 : Int) = 0 from if_neg hw_16]
    refine tz_if_eqT (pc := 16) (tgt := 36) (by decide) dX3_fitsPart_16 (by decide) (by decide) ?_
    refine tz_aload_n (pc := 36) dX3_fitsPart_36 rfl rfl ?_
    refine tz_fR (pc := 37) dX3_fitsPart_37 fl_X3_15 r_139_0 ?_
    refine tz_fR (pc := 40) dX3_fitsPart_40 fl_X3_35 r_6_1 ?_
    refine tz_iload_n (pc := 43) dX3_fitsPart_43 rfl rfl ?_
    refine tz_aL (pc := 44) (z := p) (v := (J 7 p)) dX3_fitsPart_44 a_7 rfl (by omega) rfl (fun r_44 => ?_)
    refine tz_aload_n (pc := 45) dX3_fitsPart_45 rfl rfl ?_
    refine tz_fR (pc := 46) dX3_fitsPart_46 fl_X3_15 r_139_0 ?_
    refine tz_fR (pc := 49) dX3_fitsPart_49 fl_X3_35 r_6_1 ?_
    refine tz_iload_n (pc := 52) dX3_fitsPart_52 rfl rfl ?_
    refine tz_aL (pc := 53) (z := t) (v := (J 7 t)) dX3_fitsPart_53 a_7 rfl (by omega) rfl (fun r_53 => ?_)
    refine tz_icmp_eq (pc := 54) (tgt := 59) dX3_fitsPart_54 (by decide) (by omega) (by omega) (fun h_54 => ?_) (fun h_54 => ?_)
    · refine tz_iconst (pc := 59) dX3_fitsPart_59 ?_
      refine tz_istore (pc := 60) (L2 := [_, _, _, _, _]) dX3_fitsPart_60 (by decide) rfl ?_
      have loop62 : ∀ (f9 : Nat) (i : Int) (J1 : zJ), ((3 - i).toNat) < f9 → (0 ≤ i ∧ i ≤ J 8 p) → (zOf (zbut [140]) J1 J) → (gOK (J1 140) m) → tz_At l G M_X3_fitsPart (tb_rm 6 0 0) none (tb_ZM G 0 0 (zQ n 0 (zqi (fun z J' => (z = 0 ∨ z = 1) ∧ zOf (zbut [140]) J' J ∧ gOK (J' 140) m))) (zX n 0 zN)) 0 0 n J1 62 [some (.ref 139), some (zi p), some (zi t), some (zi 1), some (zi i)] [] := by
        intro f9
        induction f9 with
        | zero => intro i J1 hm9; exact absurd hm9 (Nat.not_lt_zero _)
        | succ f9 ih62 =>
          intro i J1 hm62 hi fr h1
          have he := C.arh hp ht (by omega)
          have e9 := fr 9 rfl
          refine tz_iload (pc := 62) dX3_fitsPart_62 rfl ?_
          refine tz_aload_n (pc := 64) dX3_fitsPart_64 rfl rfl ?_
          refine tz_fR (pc := 65) dX3_fitsPart_65 fl_X3_15 r_139_0 ?_
          refine tz_fR (pc := 68) dX3_fitsPart_68 fl_X3_42 r_6_2 ?_
          refine tz_iload_n (pc := 71) dX3_fitsPart_71 rfl rfl ?_
          refine tz_aL (pc := 72) (z := p) (v := (J 8 p)) dX3_fitsPart_72 a_8 rfl (by omega) (Eq.trans (congrFun (fr 8 rfl) p) rfl) (fun r_72 => ?_)
          refine tz_icmp_ge (pc := 73) (tgt := 114) dX3_fitsPart_73 (by decide) (by omega) (by omega) (fun h_73 => ?_) (fun h_73 => ?_)
          · refine tz_iconst (pc := 114) dX3_fitsPart_114 ?_
            exact tz_zret (pc := 115) (z := 1) dX3_fitsPart_115 rfl (Or.inr rfl) (Nat.le_of_ble_eq_true rfl) (Nat.le_of_ble_eq_true rfl) ⟨Nat.le_refl _, Nat.le_add_right _ _⟩ ⟨_, rfl, (by decide), (by first | exact ⟨Or.inl rfl, zOf.rf, hg⟩ | exact ⟨Or.inr rfl, fr, h1⟩ | exact ⟨Or.inl rfl, f2.tr fr, h2⟩ | (subst hj; exact ⟨by split at hz <;> omega, zOf_tk, hg.tk ht⟩))⟩
          · refine tz_aload_n (pc := 76) dX3_fitsPart_76 rfl rfl ?_
            refine tz_aload_n (pc := 77) dX3_fitsPart_77 rfl rfl ?_
            refine tz_fR (pc := 78) dX3_fitsPart_78 fl_X3_15 r_139_0 ?_
            refine tz_iload_n (pc := 81) dX3_fitsPart_81 rfl rfl ?_
            refine tz_iload (pc := 82) dX3_fitsPart_82 rfl ?_
            refine tz_cV (pc := 84) (c_arg hl n _ _ _ (by omega) (by omega) (by omega)) vl_X3_45 dX3_fitsPart_84 o_6 rfl rfl (Nat.le_of_ble_eq_true rfl) ⟨(Nat.le_of_ble_eq_true rfl), (Nat.le_of_ble_eq_true rfl)⟩ rfl rfl (Nat.le_of_ble_eq_true rfl) (Nat.le_of_ble_eq_true rfl) (fun r9 J_84 hq9 => ?_)
            obtain ⟨z_84, rfl, hz_84, rfl, rfl⟩ := hq9
            refine tz_aload_n (pc := 87) dX3_fitsPart_87 rfl rfl ?_
            refine tz_fR (pc := 88) dX3_fitsPart_88 fl_X3_15 r_139_0 ?_
            refine tz_iload_n (pc := 91) dX3_fitsPart_91 rfl rfl ?_
            refine tz_iload (pc := 92) dX3_fitsPart_92 rfl ?_
            refine tz_cV (pc := 94) (c_arg hl n _ _ _ (by omega) (by omega) (by omega)) vl_X3_45 dX3_fitsPart_94 o_6 rfl rfl (Nat.le_of_ble_eq_true rfl) ⟨(Nat.le_of_ble_eq_true rfl), (Nat.le_of_ble_eq_true rfl)⟩ rfl rfl (Nat.le_of_ble_eq_true rfl) (Nat.le_of_ble_eq_true rfl) (fun r9 J_94 hq9 => ?_)
            obtain ⟨z_94, rfl, hz_94, rfl, rfl⟩ := hq9
            refine tz_iload_n (pc := 97) dX3_fitsPart_97 rfl rfl ?_
            refine tz_iconst (pc := 98) dX3_fitsPart_98 ?_
            refine tz_iadd (pc := 99) (v := 2) dX3_fitsPart_99 (by decide) ?_
            have g1 := (C.arg (t := p) (i := i) (by omega) (by omega) (by omega) (by omega)).1
            have g2 := (C.arg (t := t) (i := i) (by omega) (by omega) (by omega) (by omega)).1
            rw [← e9] at g1 g2
            refine tz_cV (pc := 100) (c_fits2 hl n _ _ _ (by omega) (by omega) m (C.of (fun c hc => fr c (by simp [zbut]; omega))) (by omega) (by omega) h1) vl_X3_25 dX3_fitsPart_100 o_139 rfl rfl (Nat.le_of_ble_eq_true rfl) ⟨(Nat.le_of_ble_eq_true rfl), (Nat.le_of_ble_eq_true rfl)⟩ rfl rfl (Nat.le_of_ble_eq_true rfl) (Nat.le_of_ble_eq_true rfl) (fun r9 J_100 hq9 => ?_)
            obtain ⟨z_100, rfl, hz_100, hz, f2, h2⟩ := hq9
            refine tz_if_ne (pc := 103) (tgt := 108) dX3_fitsPart_103 (by decide) (by omega) (fun h_103 => ?_) (fun h_103 => ?_)
            · refine tz_iinc (pc := 108) (z := i + 1) (L2 := [_, _, _, _, _]) dX3_fitsPart_108 rfl (by omega) rfl ?_
              refine tz_goto (pc := 111) (tgt := 62) dX3_fitsPart_111 (by decide) ?_
              exact ih62 (i + 1) _ (by omega) (by omega) (f2.tr fr) h2
            · refine tz_iconst (pc := 106) dX3_fitsPart_106 ?_
              exact tz_zret (pc := 107) (z := 0) dX3_fitsPart_107 rfl (Or.inl rfl) (Nat.le_of_ble_eq_true rfl) (Nat.le_of_ble_eq_true rfl) ⟨Nat.le_refl _, Nat.le_add_right _ _⟩ ⟨_, rfl, (by decide), (by first | exact ⟨Or.inl rfl, zOf.rf, hg⟩ | exact ⟨Or.inr rfl, fr, h1⟩ | exact ⟨Or.inl rfl, f2.tr fr, h2⟩ | (subst hj; exact ⟨by split at hz <;> omega, zOf_tk, hg.tk ht⟩))⟩
      exact loop62 _ 0 _ (Nat.lt_succ_self _) (by omega) zOf.rf hg
    · refine tz_iconst (pc := 57) dX3_fitsPart_57 ?_
      exact tz_zret (pc := 58) (z := 0) dX3_fitsPart_58 rfl (Or.inl rfl) (Nat.le_of_ble_eq_true rfl) (Nat.le_of_ble_eq_true rfl) ⟨Nat.le_refl _, Nat.le_add_right _ _⟩ ⟨_, rfl, (by decide), (by first | exact ⟨Or.inl rfl, zOf.rf, hg⟩ | exact ⟨Or.inr rfl, fr, h1⟩ | exact ⟨Or.inl rfl, f2.tr fr, h2⟩ | (subst hj; exact ⟨by split at hz <;> omega, zOf_tk, hg.tk ht⟩))⟩

set_option maxHeartbeats 4000000 in
set_option maxRecDepth 100000 in
theorem c_matches {l : Launch} {G : tb_G} (hl : l.stackTraces = false) (n : Nat) (J : zJ) (p : Int) (t : Int) (hr_p : -2147483648 ≤ p ∧ p < 2147483648) (hr_t : -2147483648 ≤ t ∧ t < 2147483648) (m : Int) (C : CT J m) (hp : 0 ≤ p ∧ p < m) (ht : 0 ≤ t ∧ t < m) : tz_Ok l G M_X3_matches 7 0 0 [.ref 139, zi p, zi t] n J (zqi (fun z J' => (z = 0 ∨ z = 1) ∧ zOf (zbut [140]) J' J ∧ gOK (J' 140) m)) zN := by
  refine tz_Ok.of hl (by decide +kernel) rfl (tb_c1 rfl) (Nat.le_of_ble_eq_true rfl) ?_
  show tz_At l G M_X3_matches (tb_rm 7 0 0) none (tb_ZM G 0 0 (zQ n 0 (zqi (fun z J' => (z = 0 ∨ z = 1) ∧ zOf (zbut [140]) J' J ∧ gOK (J' 140) m))) (zX n 0 zN)) 0 0 n J 0 [some (.ref 139), some (zi p), some (zi t)] []
  refine tz_aload_n (pc := 0) dX3_matches_0 rfl rfl ?_
  refine tz_fR (pc := 1) dX3_matches_1 fl_X3_9 r_139_1 ?_
  refine tz_iconst (pc := 4) dX3_matches_4 ?_
  refine tz_cS (pc := 5) (zJ_fill hl n _ 140 _ 8 (-1) (by decide) a_140 rfl) sl_X3_19 dX3_matches_5 rfl rfl (Nat.le_of_ble_eq_true rfl) ⟨(Nat.le_of_ble_eq_true rfl), (Nat.le_of_ble_eq_true rfl)⟩ rfl rfl (Nat.le_of_ble_eq_true rfl) (Nat.le_of_ble_eq_true rfl) (fun r9 J_5 hq9 => ?_)
  obtain ⟨rfl, rfl⟩ := hq9
  refine tz_aload_n (pc := 8) dX3_matches_8 rfl rfl ?_
  refine tz_iload_n (pc := 9) dX3_matches_9 rfl rfl ?_
  refine tz_iload_n (pc := 10) dX3_matches_10 rfl rfl ?_
  refine tz_iconst (pc := 11) dX3_matches_11 ?_
  refine tz_cV (pc := 12) (c_fits1 hl n _ _ _ (by omega) (by omega) m (C.of (fun c hc => zfl_nc (by omega))) hp ht (fun v a b => by rw [zfl_in b]; omega)) vl_X3_25 dX3_matches_12 o_139 rfl rfl (Nat.le_of_ble_eq_true rfl) ⟨(Nat.le_of_ble_eq_true rfl), (Nat.le_of_ble_eq_true rfl)⟩ rfl rfl (Nat.le_of_ble_eq_true rfl) (Nat.le_of_ble_eq_true rfl) (fun r9 J_12 hq9 => ?_)
  obtain ⟨z_12, rfl, hz_12, hz, f2, h2⟩ := hq9
  exact tz_zret (pc := 15) (z := z_12) dX3_matches_15 rfl (by omega) (Nat.le_of_ble_eq_true rfl) (Nat.le_of_ble_eq_true rfl) ⟨Nat.le_refl _, Nat.le_add_right _ _⟩ ⟨_, rfl, (by omega), ⟨hz, f2.tr (zOf.fl rfl zOf.rf), h2⟩⟩

end
section
theorem CT.pos {J : zJ} {m s t : Int} (h : CT J m) (hs : 0 ≤ s ∧ s < m) (ht : 0 ≤ t ∧ t < m) (e : J 7 s = J 7 t) (ne : ¬ s = t) : 0 < J 8 s := by
  have ha := (h.ar ht.1 ht.2).1
  have e8 := h.arh hs ht e
  by_cases h0 : 0 < J 8 s
  · exact h0
  · exfalso
    refine ne (h.1.1.2.2.2 s t hs.1 hs.2 ht.1 ht.2 ⟨e, fun i a b => ?_⟩)
    rw [← (h.2.1 t ht.1 ht.2).1.1] at b
    omega
set_option maxHeartbeats 4000000 in
set_option maxRecDepth 100000 in
theorem c_tryW {l : Launch} {G : tb_G} (hl : l.stackTraces = false) (n : Nat) (J : zJ) (s : Int) (w : Int) (hr_s : -2147483648 ≤ s ∧ s < 2147483648) (hr_w : -2147483648 ≤ w ∧ w < 2147483648)   : tz_Ok l G M_X4_tryWeight 0 0 0 [.ref 156, zi s, zi w] n J (zqv (fun J' => zup (zup J 156 3 s) 156 4 w = J')) zN := by
  refine tz_Ok.of hl (by decide +kernel) rfl (tb_c1 rfl) (Nat.le_of_ble_eq_true rfl) ?_
  show tz_At l G M_X4_tryWeight (tb_rm 0 0 0) none (tb_ZM G 0 0 (zQ n 0 (zqv (fun J' => zup (zup J 156 3 s) 156 4 w = J'))) (zX n 0 zN)) 0 0 n J 0 [some (.ref 156), some (zi s), some (zi w)] []
  refine tz_aload_n (pc := 0) dX4_tryWeight_0 rfl rfl ?_
  refine tz_iload_n (pc := 1) dX4_tryWeight_1 rfl rfl ?_
  refine tz_pI (pc := 2) (kz := 3) dX4_tryWeight_2 fl_X4_19 i_156_3 rfl rfl (by omega) ?_
  refine tz_aload_n (pc := 5) dX4_tryWeight_5 rfl rfl ?_
  refine tz_iload_n (pc := 6) dX4_tryWeight_6 rfl rfl ?_
  refine tz_pI (pc := 7) (kz := 4) dX4_tryWeight_7 fl_X4_22 i_156_4 rfl rfl (by omega) ?_
  exact tz_vret (pc := 10) dX4_tryWeight_10 rfl (Nat.le_of_ble_eq_true rfl) (Nat.le_of_ble_eq_true rfl) ⟨Nat.le_refl _, Nat.le_add_right _ _⟩ ⟨rfl, rfl⟩

set_option maxHeartbeats 4000000 in
set_option maxRecDepth 100000 in
theorem c_tryN {l : Launch} {G : tb_G} (hl : l.stackTraces = false) (n : Nat) (J : zJ)     : tz_Ok l G M_X4_tryNothing 0 0 0 [.ref 156] n J (zqv (fun J' => zup J 156 3 (-1) = J')) zN := by
  refine tz_Ok.of hl (by decide +kernel) rfl (tb_c1 rfl) (Nat.le_of_ble_eq_true rfl) ?_
  show tz_At l G M_X4_tryNothing (tb_rm 0 0 0) none (tb_ZM G 0 0 (zQ n 0 (zqv (fun J' => zup J 156 3 (-1) = J'))) (zX n 0 zN)) 0 0 n J 0 [some (.ref 156)] []
  refine tz_aload_n (pc := 0) dX4_tryNothing_0 rfl rfl ?_
  refine tz_iconst (pc := 1) dX4_tryNothing_1 ?_
  refine tz_pI (pc := 2) (kz := 3) dX4_tryNothing_2 fl_X4_19 i_156_3 rfl rfl (by decide) ?_
  exact tz_vret (pc := 5) dX4_tryNothing_5 rfl (Nat.le_of_ble_eq_true rfl) (Nat.le_of_ble_eq_true rfl) ⟨Nat.le_refl _, Nat.le_add_right _ _⟩ ⟨rfl, rfl⟩

set_option maxHeartbeats 4000000 in
set_option maxRecDepth 100000 in
theorem c_weigh7 {l : Launch} {G : tb_G} (hl : l.stackTraces = false) (n : Nat) (J : zJ) (t : Int) (sg : Int) (hr_t : -2147483648 ≤ t ∧ t < 2147483648) (hr_sg : -2147483648 ≤ sg ∧ sg < 2147483648) (m : Int) (C : CT J m) (ht : 0 ≤ t ∧ t < m) : tz_Ok l G M_X4_weigh 0 0 0 [.ref 156, zi t, zi sg, zi 7] n J (zqv (fun J' => zOf (zbut [156, 157]) J' J ∧ J' 156 3 = J 156 3)) zN := by
  refine tz_Ok.of hl (by decide +kernel) rfl (tb_c1 rfl) (Nat.le_of_ble_eq_true rfl) ?_
  show tz_At l G M_X4_weigh (tb_rm 0 0 0) none (tb_ZM G 0 0 (zQ n 0 (zqv (fun J' => zOf (zbut [156, 157]) J' J ∧ J' 156 3 = J 156 3))) (zX n 0 zN)) 0 0 n J 0 [some (.ref 156), some (zi t), some (zi sg), some (zi 7), none, none] []
  refine tz_iload_n (pc := 0) dX4_weigh_0 rfl rfl ?_
  refine tz_bipush (pc := 1) dX4_weigh_1 (by decide) ?_
  refine tz_icmp_leF (pc := 3) (tgt := 7) (by decide) dX4_weigh_3 (by decide) (by decide) (by decide) ?_
  exact tz_vret (pc := 6) dX4_weigh_6 rfl (Nat.le_of_ble_eq_true rfl) (Nat.le_of_ble_eq_true rfl) ⟨Nat.le_refl _, Nat.le_add_right _ _⟩ ⟨rfl, ⟨zOf.rf, rfl⟩⟩

set_option maxHeartbeats 4000000 in
set_option maxRecDepth 100000 in
theorem c_weigh6 {l : Launch} {G : tb_G} (hl : l.stackTraces = false) (n : Nat) (J : zJ) (t : Int) (sg : Int) (hr_t : -2147483648 ≤ t ∧ t < 2147483648) (hr_sg : -2147483648 ≤ sg ∧ sg < 2147483648) (m : Int) (C : CT J m) (ht : 0 ≤ t ∧ t < m) : tz_Ok l G M_X4_weigh 1 0 0 [.ref 156, zi t, zi sg, zi 6] n J (zqv (fun J' => zOf (zbut [156, 157]) J' J ∧ J' 156 3 = J 156 3)) zN := by
  refine tz_Ok.of hl (by decide +kernel) rfl (tb_c1 rfl) (Nat.le_of_ble_eq_true rfl) ?_
  show tz_At l G M_X4_weigh (tb_rm 1 0 0) none (tb_ZM G 0 0 (zQ n 0 (zqv (fun J' => zOf (zbut [156, 157]) J' J ∧ J' 156 3 = J 156 3))) (zX n 0 zN)) 0 0 n J 0 [some (.ref 156), some (zi t), some (zi sg), some (zi 6), none, none] []
  have hm := C.told
  have ha := C.ar ht.1 ht.2
  refine tz_iload_n (pc := 0) dX4_weigh_0 rfl rfl ?_
  refine tz_bipush (pc := 1) dX4_weigh_1 (by decide) ?_
  refine tz_icmp_leT (pc := 3) (tgt := 7) (by decide) dX4_weigh_3 (by decide) (by decide) (by decide) ?_
  refine tz_aload_n (pc := 7) dX4_weigh_7 rfl rfl ?_
  refine tz_fR (pc := 8) dX4_weigh_8 fl_X4_25 r_156_0 ?_
  refine tz_fR (pc := 11) dX4_weigh_11 fl_X4_43 r_6_1 ?_
  refine tz_iload_n (pc := 14) dX4_weigh_14 rfl rfl ?_
  refine tz_aL (pc := 15) (z := t) (v := (J 7 t)) dX4_weigh_15 a_7 rfl (by omega) rfl (fun r_15 => ?_)
  refine tz_istore (pc := 16) (L2 := [_, _, _, _, _, _]) dX4_weigh_16 (by decide) rfl ?_
  refine tz_iload (pc := 18) dX4_weigh_18 rfl ?_
  refine tz_if_ge (pc := 20) (tgt := 47) dX4_weigh_20 (by decide) (by omega) (fun h_20 => ?_) (fun h_20 => ?_)
  · refine tz_aload_n (pc := 47) dX4_weigh_47 rfl rfl ?_
    refine tz_dup (pc := 48) dX4_weigh_48 rfl ?_
    refine tz_fI (pc := 49) (kz := 2) (v := (J 156 2)) dX4_weigh_49 fl_X4_15 i_156_2 rfl rfl (fun r_49 => ?_)
    refine tz_iload_n (pc := 52) dX4_weigh_52 rfl rfl ?_
    refine tz_iload (pc := 53) dX4_weigh_53 rfl ?_
    refine tz_aload_n (pc := 55) dX4_weigh_55 rfl rfl ?_
    refine tz_fI (pc := 56) (kz := 3) (v := (J 156 3)) dX4_weigh_56 fl_X4_19 i_156_3 rfl rfl (fun r_56 => ?_)
    have join82 : ∀ (w : Int), (-2147483648 ≤ w ∧ w < 2147483648) → tz_At l G M_X4_weigh (tb_rm 1 0 0) none (tb_ZM G 0 0 (zQ n 0 (zqv (fun J' => zOf (zbut [156, 157]) J' J ∧ J' 156 3 = J 156 3))) (zX n 0 zN)) 0 0 n J 82 [some (.ref 156), some (zi t), some (zi sg), some (zi 6), some (zi (J 7 t)), none] (zi w :: zi sg :: zi (J 156 2) :: .ref 156 :: []) := by
      intro w hr_w
      refine tz_imul (pc := 82) (v := sg * w) dX4_weigh_82 rfl ?_
      refine tz_tw ?_
      have rw_83 := zw_rg (sg * w)
      refine tz_iadd (pc := 83) (v := (J 156 2) + (zw (sg * w))) dX4_weigh_83 rfl ?_
      refine tz_tw ?_
      have rw_84 := zw_rg ((J 156 2) + (zw (sg * w)))
      refine tz_pI (pc := 84) (kz := 2) dX4_weigh_84 fl_X4_15 i_156_2 rfl rfl (zw_rg _) ?_
      refine tz_iconst (pc := 87) dX4_weigh_87 ?_
      refine tz_istore (pc := 88) (L2 := [_, _, _, _, _, _]) dX4_weigh_88 (by decide) rfl ?_
      have loop90 : ∀ (f9 : Nat) (i : Int) (J1 : zJ), ((3 - i).toNat) < f9 → (0 ≤ i ∧ i ≤ J 8 t) → (zOf (zbut [156, 157]) J1 J) → (J1 156 3 = J 156 3) → tz_At l G M_X4_weigh (tb_rm 1 0 0) none (tb_ZM G 0 0 (zQ n 0 (zqv (fun J' => zOf (zbut [156, 157]) J' J ∧ J' 156 3 = J 156 3))) (zX n 0 zN)) 0 0 n J1 90 [some (.ref 156), some (zi t), some (zi sg), some (zi 6), some (zi (J 7 t)), some (zi i)] [] := by
        intro f9
        induction f9 with
        | zero => intro i J1 hm9; exact absurd hm9 (Nat.not_lt_zero _)
        | succ f9 ih90 =>
          intro i J1 hm90 hi fr f3
          have e9 := fr 9 rfl
          refine tz_iload (pc := 90) dX4_weigh_90 rfl ?_
          refine tz_aload_n (pc := 92) dX4_weigh_92 rfl rfl ?_
          refine tz_fR (pc := 93) dX4_weigh_93 fl_X4_25 r_156_0 ?_
          refine tz_fR (pc := 96) dX4_weigh_96 fl_X4_72 r_6_2 ?_
          refine tz_iload_n (pc := 99) dX4_weigh_99 rfl rfl ?_
          refine tz_aL (pc := 100) (z := t) (v := (J 8 t)) dX4_weigh_100 a_8 rfl (by omega) (Eq.trans (congrFun (fr 8 rfl) t) rfl) (fun r_100 => ?_)
          refine tz_icmp_ge (pc := 101) (tgt := 128) dX4_weigh_101 (by decide) (by omega) (by omega) (fun h_101 => ?_) (fun h_101 => ?_)
          · exact tz_vret (pc := 128) dX4_weigh_128 rfl (Nat.le_of_ble_eq_true rfl) (Nat.le_of_ble_eq_true rfl) ⟨Nat.le_refl _, Nat.le_add_right _ _⟩ ⟨rfl, (by first | exact ⟨fr, f3⟩ | exact ⟨zOf.up rfl (zOf.up rfl zOf.rf), rfl⟩)⟩
          · refine tz_aload_n (pc := 104) dX4_weigh_104 rfl rfl ?_
            refine tz_aload_n (pc := 105) dX4_weigh_105 rfl rfl ?_
            refine tz_fR (pc := 106) dX4_weigh_106 fl_X4_25 r_156_0 ?_
            refine tz_iload_n (pc := 109) dX4_weigh_109 rfl rfl ?_
            refine tz_iload (pc := 110) dX4_weigh_110 rfl ?_
            refine tz_cV (pc := 112) (c_arg hl n _ _ _ (by omega) (by omega) (by omega)) vl_X4_50 dX4_weigh_112 o_6 rfl rfl (Nat.le_of_ble_eq_true rfl) ⟨(Nat.le_of_ble_eq_true rfl), (Nat.le_of_ble_eq_true rfl)⟩ rfl rfl (Nat.le_of_ble_eq_true rfl) (Nat.le_of_ble_eq_true rfl) (fun r9 J_112 hq9 => ?_)
            obtain ⟨z_112, rfl, hz_112, rfl, rfl⟩ := hq9
            refine tz_iload_n (pc := 115) dX4_weigh_115 rfl rfl ?_
            refine tz_iload_n (pc := 116) dX4_weigh_116 rfl rfl ?_
            refine tz_iconst (pc := 117) dX4_weigh_117 ?_
            refine tz_iadd (pc := 118) (v := 7) dX4_weigh_118 (by decide) ?_
            have g1 := (C.arg (t := t) (i := i) (by omega) (by omega) (by omega) (by omega)).1
            rw [← e9] at g1
            refine tz_cV (pc := 119) (c_weigh7 hl n _ _ _ (by omega) (by omega) m (C.of (fun c hc => fr c (by simp [zbut]; omega))) (by omega)) vl_X4_59 dX4_weigh_119 o_156 rfl rfl (Nat.le_of_ble_eq_true rfl) ⟨(Nat.le_of_ble_eq_true rfl), (Nat.le_of_ble_eq_true rfl)⟩ rfl rfl (Nat.le_of_ble_eq_true rfl) (Nat.le_of_ble_eq_true rfl) (fun r9 J_119 hq9 => ?_)
            obtain ⟨rfl, f2, k2⟩ := hq9
            refine tz_iinc (pc := 122) (z := i + 1) (L2 := [_, _, _, _, _, _]) dX4_weigh_122 rfl (by omega) rfl ?_
            refine tz_goto (pc := 125) (tgt := 90) dX4_weigh_125 (by decide) ?_
            exact ih90 (i + 1) _ (by omega) (by omega) (f2.tr fr) (k2.trans f3)
      exact loop90 _ 0 _ (Nat.lt_succ_self _) (by omega) (zOf.up rfl zOf.rf) rfl
    refine tz_icmp_ne (pc := 59) (tgt := 69) dX4_weigh_59 (by decide) (by omega) (by omega) (fun h_59 => ?_) (fun h_59 => ?_)
    · refine tz_aload_n (pc := 69) dX4_weigh_69 rfl rfl ?_
      refine tz_fR (pc := 70) dX4_weigh_70 fl_X4_25 r_156_0 ?_
      refine tz_fR (pc := 73) dX4_weigh_73 fl_X4_63 r_6_0 ?_
      refine tz_fR (pc := 76) dX4_weigh_76 fl_X4_67 r_1_2 ?_
      refine tz_iload (pc := 79) dX4_weigh_79 rfl ?_
      refine tz_aL (pc := 81) (z := (J 7 t)) (v := (J 4 (J 7 t))) dX4_weigh_81 a_4 rfl (by omega) rfl (fun r_81 => ?_)
      exact join82 (J 4 (J 7 t)) (by omega) 
    · refine tz_aload_n (pc := 62) dX4_weigh_62 rfl rfl ?_
      refine tz_fI (pc := 63) (kz := 4) (v := (J 156 4)) dX4_weigh_63 fl_X4_22 i_156_4 rfl rfl (fun r_63 => ?_)
      refine tz_goto (pc := 66) (tgt := 82) dX4_weigh_66 (by decide) ?_
      exact join82 (J 156 4) (by omega) 
  · refine tz_aload_n (pc := 23) dX4_weigh_23 rfl rfl ?_
    refine tz_fR (pc := 24) dX4_weigh_24 fl_X4_9 r_156_1 ?_
    refine tz_iload (pc := 27) dX4_weigh_27 rfl ?_
    refine tz_iconst (pc := 29) dX4_weigh_29 ?_
    refine tz_ixor (pc := 30) (v := zxor (J 7 t) (-1)) dX4_weigh_30 rfl ?_
    refine tz_dup2 (pc := 31) dX4_weigh_31 rfl rfl ?_
    refine tz_aL (pc := 32) (z := (zxor (J 7 t) (-1))) (v := (J 157 (zxor (J 7 t) (-1)))) dX4_weigh_32 a_157 rfl (by rw [z_nn (by omega)]; omega) rfl (fun r_32 => ?_)
    refine tz_iload_n (pc := 33) dX4_weigh_33 rfl rfl ?_
    refine tz_iadd (pc := 34) (v := (J 157 (zxor (J 7 t) (-1))) + sg) dX4_weigh_34 rfl ?_
    refine tz_tw ?_
    have rw_35 := zw_rg ((J 157 (zxor (J 7 t) (-1))) + sg)
    refine tz_aS (pc := 35) (z := (zxor (J 7 t) (-1))) dX4_weigh_35 a_157 rfl (by rw [z_nn (by omega)]; omega) (zw_rg _) ?_
    refine tz_aload_n (pc := 36) dX4_weigh_36 rfl rfl ?_
    refine tz_dup (pc := 37) dX4_weigh_37 rfl ?_
    refine tz_fI (pc := 38) (kz := 2) (v := (J 156 2)) dX4_weigh_38 fl_X4_15 i_156_2 rfl rfl (fun r_38 => ?_)
    refine tz_iload_n (pc := 41) dX4_weigh_41 rfl rfl ?_
    refine tz_iadd (pc := 42) (v := (J 156 2) + sg) dX4_weigh_42 rfl ?_
    refine tz_tw ?_
    have rw_43 := zw_rg ((J 156 2) + sg)
    refine tz_pI (pc := 43) (kz := 2) dX4_weigh_43 fl_X4_15 i_156_2 rfl rfl (zw_rg _) ?_
    exact tz_vret (pc := 46) dX4_weigh_46 rfl (Nat.le_of_ble_eq_true rfl) (Nat.le_of_ble_eq_true rfl) ⟨Nat.le_refl _, Nat.le_add_right _ _⟩ ⟨rfl, (by first | exact ⟨fr, f3⟩ | exact ⟨zOf.up rfl (zOf.up rfl zOf.rf), rfl⟩)⟩

set_option maxHeartbeats 4000000 in
set_option maxRecDepth 100000 in
theorem c_weigh5 {l : Launch} {G : tb_G} (hl : l.stackTraces = false) (n : Nat) (J : zJ) (t : Int) (sg : Int) (hr_t : -2147483648 ≤ t ∧ t < 2147483648) (hr_sg : -2147483648 ≤ sg ∧ sg < 2147483648) (m : Int) (C : CT J m) (ht : 0 ≤ t ∧ t < m) : tz_Ok l G M_X4_weigh 2 0 0 [.ref 156, zi t, zi sg, zi 5] n J (zqv (fun J' => zOf (zbut [156, 157]) J' J ∧ J' 156 3 = J 156 3)) zN := by
  refine tz_Ok.of hl (by decide +kernel) rfl (tb_c1 rfl) (Nat.le_of_ble_eq_true rfl) ?_
  show tz_At l G M_X4_weigh (tb_rm 2 0 0) none (tb_ZM G 0 0 (zQ n 0 (zqv (fun J' => zOf (zbut [156, 157]) J' J ∧ J' 156 3 = J 156 3))) (zX n 0 zN)) 0 0 n J 0 [some (.ref 156), some (zi t), some (zi sg), some (zi 5), none, none] []
  have hm := C.told
  have ha := C.ar ht.1 ht.2
  refine tz_iload_n (pc := 0) dX4_weigh_0 rfl rfl ?_
  refine tz_bipush (pc := 1) dX4_weigh_1 (by decide) ?_
  refine tz_icmp_leT (pc := 3) (tgt := 7) (by decide) dX4_weigh_3 (by decide) (by decide) (by decide) ?_
  refine tz_aload_n (pc := 7) dX4_weigh_7 rfl rfl ?_
  refine tz_fR (pc := 8) dX4_weigh_8 fl_X4_25 r_156_0 ?_
  refine tz_fR (pc := 11) dX4_weigh_11 fl_X4_43 r_6_1 ?_
  refine tz_iload_n (pc := 14) dX4_weigh_14 rfl rfl ?_
  refine tz_aL (pc := 15) (z := t) (v := (J 7 t)) dX4_weigh_15 a_7 rfl (by omega) rfl (fun r_15 => ?_)
  refine tz_istore (pc := 16) (L2 := [_, _, _, _, _, _]) dX4_weigh_16 (by decide) rfl ?_
  refine tz_iload (pc := 18) dX4_weigh_18 rfl ?_
  refine tz_if_ge (pc := 20) (tgt := 47) dX4_weigh_20 (by decide) (by omega) (fun h_20 => ?_) (fun h_20 => ?_)
  · refine tz_aload_n (pc := 47) dX4_weigh_47 rfl rfl ?_
    refine tz_dup (pc := 48) dX4_weigh_48 rfl ?_
    refine tz_fI (pc := 49) (kz := 2) (v := (J 156 2)) dX4_weigh_49 fl_X4_15 i_156_2 rfl rfl (fun r_49 => ?_)
    refine tz_iload_n (pc := 52) dX4_weigh_52 rfl rfl ?_
    refine tz_iload (pc := 53) dX4_weigh_53 rfl ?_
    refine tz_aload_n (pc := 55) dX4_weigh_55 rfl rfl ?_
    refine tz_fI (pc := 56) (kz := 3) (v := (J 156 3)) dX4_weigh_56 fl_X4_19 i_156_3 rfl rfl (fun r_56 => ?_)
    have join82 : ∀ (w : Int), (-2147483648 ≤ w ∧ w < 2147483648) → tz_At l G M_X4_weigh (tb_rm 2 0 0) none (tb_ZM G 0 0 (zQ n 0 (zqv (fun J' => zOf (zbut [156, 157]) J' J ∧ J' 156 3 = J 156 3))) (zX n 0 zN)) 0 0 n J 82 [some (.ref 156), some (zi t), some (zi sg), some (zi 5), some (zi (J 7 t)), none] (zi w :: zi sg :: zi (J 156 2) :: .ref 156 :: []) := by
      intro w hr_w
      refine tz_imul (pc := 82) (v := sg * w) dX4_weigh_82 rfl ?_
      refine tz_tw ?_
      have rw_83 := zw_rg (sg * w)
      refine tz_iadd (pc := 83) (v := (J 156 2) + (zw (sg * w))) dX4_weigh_83 rfl ?_
      refine tz_tw ?_
      have rw_84 := zw_rg ((J 156 2) + (zw (sg * w)))
      refine tz_pI (pc := 84) (kz := 2) dX4_weigh_84 fl_X4_15 i_156_2 rfl rfl (zw_rg _) ?_
      refine tz_iconst (pc := 87) dX4_weigh_87 ?_
      refine tz_istore (pc := 88) (L2 := [_, _, _, _, _, _]) dX4_weigh_88 (by decide) rfl ?_
      have loop90 : ∀ (f9 : Nat) (i : Int) (J1 : zJ), ((3 - i).toNat) < f9 → (0 ≤ i ∧ i ≤ J 8 t) → (zOf (zbut [156, 157]) J1 J) → (J1 156 3 = J 156 3) → tz_At l G M_X4_weigh (tb_rm 2 0 0) none (tb_ZM G 0 0 (zQ n 0 (zqv (fun J' => zOf (zbut [156, 157]) J' J ∧ J' 156 3 = J 156 3))) (zX n 0 zN)) 0 0 n J1 90 [some (.ref 156), some (zi t), some (zi sg), some (zi 5), some (zi (J 7 t)), some (zi i)] [] := by
        intro f9
        induction f9 with
        | zero => intro i J1 hm9; exact absurd hm9 (Nat.not_lt_zero _)
        | succ f9 ih90 =>
          intro i J1 hm90 hi fr f3
          have e9 := fr 9 rfl
          refine tz_iload (pc := 90) dX4_weigh_90 rfl ?_
          refine tz_aload_n (pc := 92) dX4_weigh_92 rfl rfl ?_
          refine tz_fR (pc := 93) dX4_weigh_93 fl_X4_25 r_156_0 ?_
          refine tz_fR (pc := 96) dX4_weigh_96 fl_X4_72 r_6_2 ?_
          refine tz_iload_n (pc := 99) dX4_weigh_99 rfl rfl ?_
          refine tz_aL (pc := 100) (z := t) (v := (J 8 t)) dX4_weigh_100 a_8 rfl (by omega) (Eq.trans (congrFun (fr 8 rfl) t) rfl) (fun r_100 => ?_)
          refine tz_icmp_ge (pc := 101) (tgt := 128) dX4_weigh_101 (by decide) (by omega) (by omega) (fun h_101 => ?_) (fun h_101 => ?_)
          · exact tz_vret (pc := 128) dX4_weigh_128 rfl (Nat.le_of_ble_eq_true rfl) (Nat.le_of_ble_eq_true rfl) ⟨Nat.le_refl _, Nat.le_add_right _ _⟩ ⟨rfl, (by first | exact ⟨fr, f3⟩ | exact ⟨zOf.up rfl (zOf.up rfl zOf.rf), rfl⟩)⟩
          · refine tz_aload_n (pc := 104) dX4_weigh_104 rfl rfl ?_
            refine tz_aload_n (pc := 105) dX4_weigh_105 rfl rfl ?_
            refine tz_fR (pc := 106) dX4_weigh_106 fl_X4_25 r_156_0 ?_
            refine tz_iload_n (pc := 109) dX4_weigh_109 rfl rfl ?_
            refine tz_iload (pc := 110) dX4_weigh_110 rfl ?_
            refine tz_cV (pc := 112) (c_arg hl n _ _ _ (by omega) (by omega) (by omega)) vl_X4_50 dX4_weigh_112 o_6 rfl rfl (Nat.le_of_ble_eq_true rfl) ⟨(Nat.le_of_ble_eq_true rfl), (Nat.le_of_ble_eq_true rfl)⟩ rfl rfl (Nat.le_of_ble_eq_true rfl) (Nat.le_of_ble_eq_true rfl) (fun r9 J_112 hq9 => ?_)
            obtain ⟨z_112, rfl, hz_112, rfl, rfl⟩ := hq9
            refine tz_iload_n (pc := 115) dX4_weigh_115 rfl rfl ?_
            refine tz_iload_n (pc := 116) dX4_weigh_116 rfl rfl ?_
            refine tz_iconst (pc := 117) dX4_weigh_117 ?_
            refine tz_iadd (pc := 118) (v := 6) dX4_weigh_118 (by decide) ?_
            have g1 := (C.arg (t := t) (i := i) (by omega) (by omega) (by omega) (by omega)).1
            rw [← e9] at g1
            refine tz_cV (pc := 119) (c_weigh6 hl n _ _ _ (by omega) (by omega) m (C.of (fun c hc => fr c (by simp [zbut]; omega))) (by omega)) vl_X4_59 dX4_weigh_119 o_156 rfl rfl (Nat.le_of_ble_eq_true rfl) ⟨(Nat.le_of_ble_eq_true rfl), (Nat.le_of_ble_eq_true rfl)⟩ rfl rfl (Nat.le_of_ble_eq_true rfl) (Nat.le_of_ble_eq_true rfl) (fun r9 J_119 hq9 => ?_)
            obtain ⟨rfl, f2, k2⟩ := hq9
            refine tz_iinc (pc := 122) (z := i + 1) (L2 := [_, _, _, _, _, _]) dX4_weigh_122 rfl (by omega) rfl ?_
            refine tz_goto (pc := 125) (tgt := 90) dX4_weigh_125 (by decide) ?_
            exact ih90 (i + 1) _ (by omega) (by omega) (f2.tr fr) (k2.trans f3)
      exact loop90 _ 0 _ (Nat.lt_succ_self _) (by omega) (zOf.up rfl zOf.rf) rfl
    refine tz_icmp_ne (pc := 59) (tgt := 69) dX4_weigh_59 (by decide) (by omega) (by omega) (fun h_59 => ?_) (fun h_59 => ?_)
    · refine tz_aload_n (pc := 69) dX4_weigh_69 rfl rfl ?_
      refine tz_fR (pc := 70) dX4_weigh_70 fl_X4_25 r_156_0 ?_
      refine tz_fR (pc := 73) dX4_weigh_73 fl_X4_63 r_6_0 ?_
      refine tz_fR (pc := 76) dX4_weigh_76 fl_X4_67 r_1_2 ?_
      refine tz_iload (pc := 79) dX4_weigh_79 rfl ?_
      refine tz_aL (pc := 81) (z := (J 7 t)) (v := (J 4 (J 7 t))) dX4_weigh_81 a_4 rfl (by omega) rfl (fun r_81 => ?_)
      exact join82 (J 4 (J 7 t)) (by omega) 
    · refine tz_aload_n (pc := 62) dX4_weigh_62 rfl rfl ?_
      refine tz_fI (pc := 63) (kz := 4) (v := (J 156 4)) dX4_weigh_63 fl_X4_22 i_156_4 rfl rfl (fun r_63 => ?_)
      refine tz_goto (pc := 66) (tgt := 82) dX4_weigh_66 (by decide) ?_
      exact join82 (J 156 4) (by omega) 
  · refine tz_aload_n (pc := 23) dX4_weigh_23 rfl rfl ?_
    refine tz_fR (pc := 24) dX4_weigh_24 fl_X4_9 r_156_1 ?_
    refine tz_iload (pc := 27) dX4_weigh_27 rfl ?_
    refine tz_iconst (pc := 29) dX4_weigh_29 ?_
    refine tz_ixor (pc := 30) (v := zxor (J 7 t) (-1)) dX4_weigh_30 rfl ?_
    refine tz_dup2 (pc := 31) dX4_weigh_31 rfl rfl ?_
    refine tz_aL (pc := 32) (z := (zxor (J 7 t) (-1))) (v := (J 157 (zxor (J 7 t) (-1)))) dX4_weigh_32 a_157 rfl (by rw [z_nn (by omega)]; omega) rfl (fun r_32 => ?_)
    refine tz_iload_n (pc := 33) dX4_weigh_33 rfl rfl ?_
    refine tz_iadd (pc := 34) (v := (J 157 (zxor (J 7 t) (-1))) + sg) dX4_weigh_34 rfl ?_
    refine tz_tw ?_
    have rw_35 := zw_rg ((J 157 (zxor (J 7 t) (-1))) + sg)
    refine tz_aS (pc := 35) (z := (zxor (J 7 t) (-1))) dX4_weigh_35 a_157 rfl (by rw [z_nn (by omega)]; omega) (zw_rg _) ?_
    refine tz_aload_n (pc := 36) dX4_weigh_36 rfl rfl ?_
    refine tz_dup (pc := 37) dX4_weigh_37 rfl ?_
    refine tz_fI (pc := 38) (kz := 2) (v := (J 156 2)) dX4_weigh_38 fl_X4_15 i_156_2 rfl rfl (fun r_38 => ?_)
    refine tz_iload_n (pc := 41) dX4_weigh_41 rfl rfl ?_
    refine tz_iadd (pc := 42) (v := (J 156 2) + sg) dX4_weigh_42 rfl ?_
    refine tz_tw ?_
    have rw_43 := zw_rg ((J 156 2) + sg)
    refine tz_pI (pc := 43) (kz := 2) dX4_weigh_43 fl_X4_15 i_156_2 rfl rfl (zw_rg _) ?_
    exact tz_vret (pc := 46) dX4_weigh_46 rfl (Nat.le_of_ble_eq_true rfl) (Nat.le_of_ble_eq_true rfl) ⟨Nat.le_refl _, Nat.le_add_right _ _⟩ ⟨rfl, (by first | exact ⟨fr, f3⟩ | exact ⟨zOf.up rfl (zOf.up rfl zOf.rf), rfl⟩)⟩

set_option maxHeartbeats 4000000 in
set_option maxRecDepth 100000 in
theorem c_weigh4 {l : Launch} {G : tb_G} (hl : l.stackTraces = false) (n : Nat) (J : zJ) (t : Int) (sg : Int) (hr_t : -2147483648 ≤ t ∧ t < 2147483648) (hr_sg : -2147483648 ≤ sg ∧ sg < 2147483648) (m : Int) (C : CT J m) (ht : 0 ≤ t ∧ t < m) : tz_Ok l G M_X4_weigh 3 0 0 [.ref 156, zi t, zi sg, zi 4] n J (zqv (fun J' => zOf (zbut [156, 157]) J' J ∧ J' 156 3 = J 156 3)) zN := by
  refine tz_Ok.of hl (by decide +kernel) rfl (tb_c1 rfl) (Nat.le_of_ble_eq_true rfl) ?_
  show tz_At l G M_X4_weigh (tb_rm 3 0 0) none (tb_ZM G 0 0 (zQ n 0 (zqv (fun J' => zOf (zbut [156, 157]) J' J ∧ J' 156 3 = J 156 3))) (zX n 0 zN)) 0 0 n J 0 [some (.ref 156), some (zi t), some (zi sg), some (zi 4), none, none] []
  have hm := C.told
  have ha := C.ar ht.1 ht.2
  refine tz_iload_n (pc := 0) dX4_weigh_0 rfl rfl ?_
  refine tz_bipush (pc := 1) dX4_weigh_1 (by decide) ?_
  refine tz_icmp_leT (pc := 3) (tgt := 7) (by decide) dX4_weigh_3 (by decide) (by decide) (by decide) ?_
  refine tz_aload_n (pc := 7) dX4_weigh_7 rfl rfl ?_
  refine tz_fR (pc := 8) dX4_weigh_8 fl_X4_25 r_156_0 ?_
  refine tz_fR (pc := 11) dX4_weigh_11 fl_X4_43 r_6_1 ?_
  refine tz_iload_n (pc := 14) dX4_weigh_14 rfl rfl ?_
  refine tz_aL (pc := 15) (z := t) (v := (J 7 t)) dX4_weigh_15 a_7 rfl (by omega) rfl (fun r_15 => ?_)
  refine tz_istore (pc := 16) (L2 := [_, _, _, _, _, _]) dX4_weigh_16 (by decide) rfl ?_
  refine tz_iload (pc := 18) dX4_weigh_18 rfl ?_
  refine tz_if_ge (pc := 20) (tgt := 47) dX4_weigh_20 (by decide) (by omega) (fun h_20 => ?_) (fun h_20 => ?_)
  · refine tz_aload_n (pc := 47) dX4_weigh_47 rfl rfl ?_
    refine tz_dup (pc := 48) dX4_weigh_48 rfl ?_
    refine tz_fI (pc := 49) (kz := 2) (v := (J 156 2)) dX4_weigh_49 fl_X4_15 i_156_2 rfl rfl (fun r_49 => ?_)
    refine tz_iload_n (pc := 52) dX4_weigh_52 rfl rfl ?_
    refine tz_iload (pc := 53) dX4_weigh_53 rfl ?_
    refine tz_aload_n (pc := 55) dX4_weigh_55 rfl rfl ?_
    refine tz_fI (pc := 56) (kz := 3) (v := (J 156 3)) dX4_weigh_56 fl_X4_19 i_156_3 rfl rfl (fun r_56 => ?_)
    have join82 : ∀ (w : Int), (-2147483648 ≤ w ∧ w < 2147483648) → tz_At l G M_X4_weigh (tb_rm 3 0 0) none (tb_ZM G 0 0 (zQ n 0 (zqv (fun J' => zOf (zbut [156, 157]) J' J ∧ J' 156 3 = J 156 3))) (zX n 0 zN)) 0 0 n J 82 [some (.ref 156), some (zi t), some (zi sg), some (zi 4), some (zi (J 7 t)), none] (zi w :: zi sg :: zi (J 156 2) :: .ref 156 :: []) := by
      intro w hr_w
      refine tz_imul (pc := 82) (v := sg * w) dX4_weigh_82 rfl ?_
      refine tz_tw ?_
      have rw_83 := zw_rg (sg * w)
      refine tz_iadd (pc := 83) (v := (J 156 2) + (zw (sg * w))) dX4_weigh_83 rfl ?_
      refine tz_tw ?_
      have rw_84 := zw_rg ((J 156 2) + (zw (sg * w)))
      refine tz_pI (pc := 84) (kz := 2) dX4_weigh_84 fl_X4_15 i_156_2 rfl rfl (zw_rg _) ?_
      refine tz_iconst (pc := 87) dX4_weigh_87 ?_
      refine tz_istore (pc := 88) (L2 := [_, _, _, _, _, _]) dX4_weigh_88 (by decide) rfl ?_
      have loop90 : ∀ (f9 : Nat) (i : Int) (J1 : zJ), ((3 - i).toNat) < f9 → (0 ≤ i ∧ i ≤ J 8 t) → (zOf (zbut [156, 157]) J1 J) → (J1 156 3 = J 156 3) → tz_At l G M_X4_weigh (tb_rm 3 0 0) none (tb_ZM G 0 0 (zQ n 0 (zqv (fun J' => zOf (zbut [156, 157]) J' J ∧ J' 156 3 = J 156 3))) (zX n 0 zN)) 0 0 n J1 90 [some (.ref 156), some (zi t), some (zi sg), some (zi 4), some (zi (J 7 t)), some (zi i)] [] := by
        intro f9
        induction f9 with
        | zero => intro i J1 hm9; exact absurd hm9 (Nat.not_lt_zero _)
        | succ f9 ih90 =>
          intro i J1 hm90 hi fr f3
          have e9 := fr 9 rfl
          refine tz_iload (pc := 90) dX4_weigh_90 rfl ?_
          refine tz_aload_n (pc := 92) dX4_weigh_92 rfl rfl ?_
          refine tz_fR (pc := 93) dX4_weigh_93 fl_X4_25 r_156_0 ?_
          refine tz_fR (pc := 96) dX4_weigh_96 fl_X4_72 r_6_2 ?_
          refine tz_iload_n (pc := 99) dX4_weigh_99 rfl rfl ?_
          refine tz_aL (pc := 100) (z := t) (v := (J 8 t)) dX4_weigh_100 a_8 rfl (by omega) (Eq.trans (congrFun (fr 8 rfl) t) rfl) (fun r_100 => ?_)
          refine tz_icmp_ge (pc := 101) (tgt := 128) dX4_weigh_101 (by decide) (by omega) (by omega) (fun h_101 => ?_) (fun h_101 => ?_)
          · exact tz_vret (pc := 128) dX4_weigh_128 rfl (Nat.le_of_ble_eq_true rfl) (Nat.le_of_ble_eq_true rfl) ⟨Nat.le_refl _, Nat.le_add_right _ _⟩ ⟨rfl, (by first | exact ⟨fr, f3⟩ | exact ⟨zOf.up rfl (zOf.up rfl zOf.rf), rfl⟩)⟩
          · refine tz_aload_n (pc := 104) dX4_weigh_104 rfl rfl ?_
            refine tz_aload_n (pc := 105) dX4_weigh_105 rfl rfl ?_
            refine tz_fR (pc := 106) dX4_weigh_106 fl_X4_25 r_156_0 ?_
            refine tz_iload_n (pc := 109) dX4_weigh_109 rfl rfl ?_
            refine tz_iload (pc := 110) dX4_weigh_110 rfl ?_
            refine tz_cV (pc := 112) (c_arg hl n _ _ _ (by omega) (by omega) (by omega)) vl_X4_50 dX4_weigh_112 o_6 rfl rfl (Nat.le_of_ble_eq_true rfl) ⟨(Nat.le_of_ble_eq_true rfl), (Nat.le_of_ble_eq_true rfl)⟩ rfl rfl (Nat.le_of_ble_eq_true rfl) (Nat.le_of_ble_eq_true rfl) (fun r9 J_112 hq9 => ?_)
            obtain ⟨z_112, rfl, hz_112, rfl, rfl⟩ := hq9
            refine tz_iload_n (pc := 115) dX4_weigh_115 rfl rfl ?_
            refine tz_iload_n (pc := 116) dX4_weigh_116 rfl rfl ?_
            refine tz_iconst (pc := 117) dX4_weigh_117 ?_
            refine tz_iadd (pc := 118) (v := 5) dX4_weigh_118 (by decide) ?_
            have g1 := (C.arg (t := t) (i := i) (by omega) (by omega) (by omega) (by omega)).1
            rw [← e9] at g1
            refine tz_cV (pc := 119) (c_weigh5 hl n _ _ _ (by omega) (by omega) m (C.of (fun c hc => fr c (by simp [zbut]; omega))) (by omega)) vl_X4_59 dX4_weigh_119 o_156 rfl rfl (Nat.le_of_ble_eq_true rfl) ⟨(Nat.le_of_ble_eq_true rfl), (Nat.le_of_ble_eq_true rfl)⟩ rfl rfl (Nat.le_of_ble_eq_true rfl) (Nat.le_of_ble_eq_true rfl) (fun r9 J_119 hq9 => ?_)
            obtain ⟨rfl, f2, k2⟩ := hq9
            refine tz_iinc (pc := 122) (z := i + 1) (L2 := [_, _, _, _, _, _]) dX4_weigh_122 rfl (by omega) rfl ?_
            refine tz_goto (pc := 125) (tgt := 90) dX4_weigh_125 (by decide) ?_
            exact ih90 (i + 1) _ (by omega) (by omega) (f2.tr fr) (k2.trans f3)
      exact loop90 _ 0 _ (Nat.lt_succ_self _) (by omega) (zOf.up rfl zOf.rf) rfl
    refine tz_icmp_ne (pc := 59) (tgt := 69) dX4_weigh_59 (by decide) (by omega) (by omega) (fun h_59 => ?_) (fun h_59 => ?_)
    · refine tz_aload_n (pc := 69) dX4_weigh_69 rfl rfl ?_
      refine tz_fR (pc := 70) dX4_weigh_70 fl_X4_25 r_156_0 ?_
      refine tz_fR (pc := 73) dX4_weigh_73 fl_X4_63 r_6_0 ?_
      refine tz_fR (pc := 76) dX4_weigh_76 fl_X4_67 r_1_2 ?_
      refine tz_iload (pc := 79) dX4_weigh_79 rfl ?_
      refine tz_aL (pc := 81) (z := (J 7 t)) (v := (J 4 (J 7 t))) dX4_weigh_81 a_4 rfl (by omega) rfl (fun r_81 => ?_)
      exact join82 (J 4 (J 7 t)) (by omega) 
    · refine tz_aload_n (pc := 62) dX4_weigh_62 rfl rfl ?_
      refine tz_fI (pc := 63) (kz := 4) (v := (J 156 4)) dX4_weigh_63 fl_X4_22 i_156_4 rfl rfl (fun r_63 => ?_)
      refine tz_goto (pc := 66) (tgt := 82) dX4_weigh_66 (by decide) ?_
      exact join82 (J 156 4) (by omega) 
  · refine tz_aload_n (pc := 23) dX4_weigh_23 rfl rfl ?_
    refine tz_fR (pc := 24) dX4_weigh_24 fl_X4_9 r_156_1 ?_
    refine tz_iload (pc := 27) dX4_weigh_27 rfl ?_
    refine tz_iconst (pc := 29) dX4_weigh_29 ?_
    refine tz_ixor (pc := 30) (v := zxor (J 7 t) (-1)) dX4_weigh_30 rfl ?_
    refine tz_dup2 (pc := 31) dX4_weigh_31 rfl rfl ?_
    refine tz_aL (pc := 32) (z := (zxor (J 7 t) (-1))) (v := (J 157 (zxor (J 7 t) (-1)))) dX4_weigh_32 a_157 rfl (by rw [z_nn (by omega)]; omega) rfl (fun r_32 => ?_)
    refine tz_iload_n (pc := 33) dX4_weigh_33 rfl rfl ?_
    refine tz_iadd (pc := 34) (v := (J 157 (zxor (J 7 t) (-1))) + sg) dX4_weigh_34 rfl ?_
    refine tz_tw ?_
    have rw_35 := zw_rg ((J 157 (zxor (J 7 t) (-1))) + sg)
    refine tz_aS (pc := 35) (z := (zxor (J 7 t) (-1))) dX4_weigh_35 a_157 rfl (by rw [z_nn (by omega)]; omega) (zw_rg _) ?_
    refine tz_aload_n (pc := 36) dX4_weigh_36 rfl rfl ?_
    refine tz_dup (pc := 37) dX4_weigh_37 rfl ?_
    refine tz_fI (pc := 38) (kz := 2) (v := (J 156 2)) dX4_weigh_38 fl_X4_15 i_156_2 rfl rfl (fun r_38 => ?_)
    refine tz_iload_n (pc := 41) dX4_weigh_41 rfl rfl ?_
    refine tz_iadd (pc := 42) (v := (J 156 2) + sg) dX4_weigh_42 rfl ?_
    refine tz_tw ?_
    have rw_43 := zw_rg ((J 156 2) + sg)
    refine tz_pI (pc := 43) (kz := 2) dX4_weigh_43 fl_X4_15 i_156_2 rfl rfl (zw_rg _) ?_
    exact tz_vret (pc := 46) dX4_weigh_46 rfl (Nat.le_of_ble_eq_true rfl) (Nat.le_of_ble_eq_true rfl) ⟨Nat.le_refl _, Nat.le_add_right _ _⟩ ⟨rfl, (by first | exact ⟨fr, f3⟩ | exact ⟨zOf.up rfl (zOf.up rfl zOf.rf), rfl⟩)⟩

set_option maxHeartbeats 4000000 in
set_option maxRecDepth 100000 in
theorem c_weigh3 {l : Launch} {G : tb_G} (hl : l.stackTraces = false) (n : Nat) (J : zJ) (t : Int) (sg : Int) (hr_t : -2147483648 ≤ t ∧ t < 2147483648) (hr_sg : -2147483648 ≤ sg ∧ sg < 2147483648) (m : Int) (C : CT J m) (ht : 0 ≤ t ∧ t < m) : tz_Ok l G M_X4_weigh 4 0 0 [.ref 156, zi t, zi sg, zi 3] n J (zqv (fun J' => zOf (zbut [156, 157]) J' J ∧ J' 156 3 = J 156 3)) zN := by
  refine tz_Ok.of hl (by decide +kernel) rfl (tb_c1 rfl) (Nat.le_of_ble_eq_true rfl) ?_
  show tz_At l G M_X4_weigh (tb_rm 4 0 0) none (tb_ZM G 0 0 (zQ n 0 (zqv (fun J' => zOf (zbut [156, 157]) J' J ∧ J' 156 3 = J 156 3))) (zX n 0 zN)) 0 0 n J 0 [some (.ref 156), some (zi t), some (zi sg), some (zi 3), none, none] []
  have hm := C.told
  have ha := C.ar ht.1 ht.2
  refine tz_iload_n (pc := 0) dX4_weigh_0 rfl rfl ?_
  refine tz_bipush (pc := 1) dX4_weigh_1 (by decide) ?_
  refine tz_icmp_leT (pc := 3) (tgt := 7) (by decide) dX4_weigh_3 (by decide) (by decide) (by decide) ?_
  refine tz_aload_n (pc := 7) dX4_weigh_7 rfl rfl ?_
  refine tz_fR (pc := 8) dX4_weigh_8 fl_X4_25 r_156_0 ?_
  refine tz_fR (pc := 11) dX4_weigh_11 fl_X4_43 r_6_1 ?_
  refine tz_iload_n (pc := 14) dX4_weigh_14 rfl rfl ?_
  refine tz_aL (pc := 15) (z := t) (v := (J 7 t)) dX4_weigh_15 a_7 rfl (by omega) rfl (fun r_15 => ?_)
  refine tz_istore (pc := 16) (L2 := [_, _, _, _, _, _]) dX4_weigh_16 (by decide) rfl ?_
  refine tz_iload (pc := 18) dX4_weigh_18 rfl ?_
  refine tz_if_ge (pc := 20) (tgt := 47) dX4_weigh_20 (by decide) (by omega) (fun h_20 => ?_) (fun h_20 => ?_)
  · refine tz_aload_n (pc := 47) dX4_weigh_47 rfl rfl ?_
    refine tz_dup (pc := 48) dX4_weigh_48 rfl ?_
    refine tz_fI (pc := 49) (kz := 2) (v := (J 156 2)) dX4_weigh_49 fl_X4_15 i_156_2 rfl rfl (fun r_49 => ?_)
    refine tz_iload_n (pc := 52) dX4_weigh_52 rfl rfl ?_
    refine tz_iload (pc := 53) dX4_weigh_53 rfl ?_
    refine tz_aload_n (pc := 55) dX4_weigh_55 rfl rfl ?_
    refine tz_fI (pc := 56) (kz := 3) (v := (J 156 3)) dX4_weigh_56 fl_X4_19 i_156_3 rfl rfl (fun r_56 => ?_)
    have join82 : ∀ (w : Int), (-2147483648 ≤ w ∧ w < 2147483648) → tz_At l G M_X4_weigh (tb_rm 4 0 0) none (tb_ZM G 0 0 (zQ n 0 (zqv (fun J' => zOf (zbut [156, 157]) J' J ∧ J' 156 3 = J 156 3))) (zX n 0 zN)) 0 0 n J 82 [some (.ref 156), some (zi t), some (zi sg), some (zi 3), some (zi (J 7 t)), none] (zi w :: zi sg :: zi (J 156 2) :: .ref 156 :: []) := by
      intro w hr_w
      refine tz_imul (pc := 82) (v := sg * w) dX4_weigh_82 rfl ?_
      refine tz_tw ?_
      have rw_83 := zw_rg (sg * w)
      refine tz_iadd (pc := 83) (v := (J 156 2) + (zw (sg * w))) dX4_weigh_83 rfl ?_
      refine tz_tw ?_
      have rw_84 := zw_rg ((J 156 2) + (zw (sg * w)))
      refine tz_pI (pc := 84) (kz := 2) dX4_weigh_84 fl_X4_15 i_156_2 rfl rfl (zw_rg _) ?_
      refine tz_iconst (pc := 87) dX4_weigh_87 ?_
      refine tz_istore (pc := 88) (L2 := [_, _, _, _, _, _]) dX4_weigh_88 (by decide) rfl ?_
      have loop90 : ∀ (f9 : Nat) (i : Int) (J1 : zJ), ((3 - i).toNat) < f9 → (0 ≤ i ∧ i ≤ J 8 t) → (zOf (zbut [156, 157]) J1 J) → (J1 156 3 = J 156 3) → tz_At l G M_X4_weigh (tb_rm 4 0 0) none (tb_ZM G 0 0 (zQ n 0 (zqv (fun J' => zOf (zbut [156, 157]) J' J ∧ J' 156 3 = J 156 3))) (zX n 0 zN)) 0 0 n J1 90 [some (.ref 156), some (zi t), some (zi sg), some (zi 3), some (zi (J 7 t)), some (zi i)] [] := by
        intro f9
        induction f9 with
        | zero => intro i J1 hm9; exact absurd hm9 (Nat.not_lt_zero _)
        | succ f9 ih90 =>
          intro i J1 hm90 hi fr f3
          have e9 := fr 9 rfl
          refine tz_iload (pc := 90) dX4_weigh_90 rfl ?_
          refine tz_aload_n (pc := 92) dX4_weigh_92 rfl rfl ?_
          refine tz_fR (pc := 93) dX4_weigh_93 fl_X4_25 r_156_0 ?_
          refine tz_fR (pc := 96) dX4_weigh_96 fl_X4_72 r_6_2 ?_
          refine tz_iload_n (pc := 99) dX4_weigh_99 rfl rfl ?_
          refine tz_aL (pc := 100) (z := t) (v := (J 8 t)) dX4_weigh_100 a_8 rfl (by omega) (Eq.trans (congrFun (fr 8 rfl) t) rfl) (fun r_100 => ?_)
          refine tz_icmp_ge (pc := 101) (tgt := 128) dX4_weigh_101 (by decide) (by omega) (by omega) (fun h_101 => ?_) (fun h_101 => ?_)
          · exact tz_vret (pc := 128) dX4_weigh_128 rfl (Nat.le_of_ble_eq_true rfl) (Nat.le_of_ble_eq_true rfl) ⟨Nat.le_refl _, Nat.le_add_right _ _⟩ ⟨rfl, (by first | exact ⟨fr, f3⟩ | exact ⟨zOf.up rfl (zOf.up rfl zOf.rf), rfl⟩)⟩
          · refine tz_aload_n (pc := 104) dX4_weigh_104 rfl rfl ?_
            refine tz_aload_n (pc := 105) dX4_weigh_105 rfl rfl ?_
            refine tz_fR (pc := 106) dX4_weigh_106 fl_X4_25 r_156_0 ?_
            refine tz_iload_n (pc := 109) dX4_weigh_109 rfl rfl ?_
            refine tz_iload (pc := 110) dX4_weigh_110 rfl ?_
            refine tz_cV (pc := 112) (c_arg hl n _ _ _ (by omega) (by omega) (by omega)) vl_X4_50 dX4_weigh_112 o_6 rfl rfl (Nat.le_of_ble_eq_true rfl) ⟨(Nat.le_of_ble_eq_true rfl), (Nat.le_of_ble_eq_true rfl)⟩ rfl rfl (Nat.le_of_ble_eq_true rfl) (Nat.le_of_ble_eq_true rfl) (fun r9 J_112 hq9 => ?_)
            obtain ⟨z_112, rfl, hz_112, rfl, rfl⟩ := hq9
            refine tz_iload_n (pc := 115) dX4_weigh_115 rfl rfl ?_
            refine tz_iload_n (pc := 116) dX4_weigh_116 rfl rfl ?_
            refine tz_iconst (pc := 117) dX4_weigh_117 ?_
            refine tz_iadd (pc := 118) (v := 4) dX4_weigh_118 (by decide) ?_
            have g1 := (C.arg (t := t) (i := i) (by omega) (by omega) (by omega) (by omega)).1
            rw [← e9] at g1
            refine tz_cV (pc := 119) (c_weigh4 hl n _ _ _ (by omega) (by omega) m (C.of (fun c hc => fr c (by simp [zbut]; omega))) (by omega)) vl_X4_59 dX4_weigh_119 o_156 rfl rfl (Nat.le_of_ble_eq_true rfl) ⟨(Nat.le_of_ble_eq_true rfl), (Nat.le_of_ble_eq_true rfl)⟩ rfl rfl (Nat.le_of_ble_eq_true rfl) (Nat.le_of_ble_eq_true rfl) (fun r9 J_119 hq9 => ?_)
            obtain ⟨rfl, f2, k2⟩ := hq9
            refine tz_iinc (pc := 122) (z := i + 1) (L2 := [_, _, _, _, _, _]) dX4_weigh_122 rfl (by omega) rfl ?_
            refine tz_goto (pc := 125) (tgt := 90) dX4_weigh_125 (by decide) ?_
            exact ih90 (i + 1) _ (by omega) (by omega) (f2.tr fr) (k2.trans f3)
      exact loop90 _ 0 _ (Nat.lt_succ_self _) (by omega) (zOf.up rfl zOf.rf) rfl
    refine tz_icmp_ne (pc := 59) (tgt := 69) dX4_weigh_59 (by decide) (by omega) (by omega) (fun h_59 => ?_) (fun h_59 => ?_)
    · refine tz_aload_n (pc := 69) dX4_weigh_69 rfl rfl ?_
      refine tz_fR (pc := 70) dX4_weigh_70 fl_X4_25 r_156_0 ?_
      refine tz_fR (pc := 73) dX4_weigh_73 fl_X4_63 r_6_0 ?_
      refine tz_fR (pc := 76) dX4_weigh_76 fl_X4_67 r_1_2 ?_
      refine tz_iload (pc := 79) dX4_weigh_79 rfl ?_
      refine tz_aL (pc := 81) (z := (J 7 t)) (v := (J 4 (J 7 t))) dX4_weigh_81 a_4 rfl (by omega) rfl (fun r_81 => ?_)
      exact join82 (J 4 (J 7 t)) (by omega) 
    · refine tz_aload_n (pc := 62) dX4_weigh_62 rfl rfl ?_
      refine tz_fI (pc := 63) (kz := 4) (v := (J 156 4)) dX4_weigh_63 fl_X4_22 i_156_4 rfl rfl (fun r_63 => ?_)
      refine tz_goto (pc := 66) (tgt := 82) dX4_weigh_66 (by decide) ?_
      exact join82 (J 156 4) (by omega) 
  · refine tz_aload_n (pc := 23) dX4_weigh_23 rfl rfl ?_
    refine tz_fR (pc := 24) dX4_weigh_24 fl_X4_9 r_156_1 ?_
    refine tz_iload (pc := 27) dX4_weigh_27 rfl ?_
    refine tz_iconst (pc := 29) dX4_weigh_29 ?_
    refine tz_ixor (pc := 30) (v := zxor (J 7 t) (-1)) dX4_weigh_30 rfl ?_
    refine tz_dup2 (pc := 31) dX4_weigh_31 rfl rfl ?_
    refine tz_aL (pc := 32) (z := (zxor (J 7 t) (-1))) (v := (J 157 (zxor (J 7 t) (-1)))) dX4_weigh_32 a_157 rfl (by rw [z_nn (by omega)]; omega) rfl (fun r_32 => ?_)
    refine tz_iload_n (pc := 33) dX4_weigh_33 rfl rfl ?_
    refine tz_iadd (pc := 34) (v := (J 157 (zxor (J 7 t) (-1))) + sg) dX4_weigh_34 rfl ?_
    refine tz_tw ?_
    have rw_35 := zw_rg ((J 157 (zxor (J 7 t) (-1))) + sg)
    refine tz_aS (pc := 35) (z := (zxor (J 7 t) (-1))) dX4_weigh_35 a_157 rfl (by rw [z_nn (by omega)]; omega) (zw_rg _) ?_
    refine tz_aload_n (pc := 36) dX4_weigh_36 rfl rfl ?_
    refine tz_dup (pc := 37) dX4_weigh_37 rfl ?_
    refine tz_fI (pc := 38) (kz := 2) (v := (J 156 2)) dX4_weigh_38 fl_X4_15 i_156_2 rfl rfl (fun r_38 => ?_)
    refine tz_iload_n (pc := 41) dX4_weigh_41 rfl rfl ?_
    refine tz_iadd (pc := 42) (v := (J 156 2) + sg) dX4_weigh_42 rfl ?_
    refine tz_tw ?_
    have rw_43 := zw_rg ((J 156 2) + sg)
    refine tz_pI (pc := 43) (kz := 2) dX4_weigh_43 fl_X4_15 i_156_2 rfl rfl (zw_rg _) ?_
    exact tz_vret (pc := 46) dX4_weigh_46 rfl (Nat.le_of_ble_eq_true rfl) (Nat.le_of_ble_eq_true rfl) ⟨Nat.le_refl _, Nat.le_add_right _ _⟩ ⟨rfl, (by first | exact ⟨fr, f3⟩ | exact ⟨zOf.up rfl (zOf.up rfl zOf.rf), rfl⟩)⟩

set_option maxHeartbeats 4000000 in
set_option maxRecDepth 100000 in
theorem c_weigh2 {l : Launch} {G : tb_G} (hl : l.stackTraces = false) (n : Nat) (J : zJ) (t : Int) (sg : Int) (hr_t : -2147483648 ≤ t ∧ t < 2147483648) (hr_sg : -2147483648 ≤ sg ∧ sg < 2147483648) (m : Int) (C : CT J m) (ht : 0 ≤ t ∧ t < m) : tz_Ok l G M_X4_weigh 5 0 0 [.ref 156, zi t, zi sg, zi 2] n J (zqv (fun J' => zOf (zbut [156, 157]) J' J ∧ J' 156 3 = J 156 3)) zN := by
  refine tz_Ok.of hl (by decide +kernel) rfl (tb_c1 rfl) (Nat.le_of_ble_eq_true rfl) ?_
  show tz_At l G M_X4_weigh (tb_rm 5 0 0) none (tb_ZM G 0 0 (zQ n 0 (zqv (fun J' => zOf (zbut [156, 157]) J' J ∧ J' 156 3 = J 156 3))) (zX n 0 zN)) 0 0 n J 0 [some (.ref 156), some (zi t), some (zi sg), some (zi 2), none, none] []
  have hm := C.told
  have ha := C.ar ht.1 ht.2
  refine tz_iload_n (pc := 0) dX4_weigh_0 rfl rfl ?_
  refine tz_bipush (pc := 1) dX4_weigh_1 (by decide) ?_
  refine tz_icmp_leT (pc := 3) (tgt := 7) (by decide) dX4_weigh_3 (by decide) (by decide) (by decide) ?_
  refine tz_aload_n (pc := 7) dX4_weigh_7 rfl rfl ?_
  refine tz_fR (pc := 8) dX4_weigh_8 fl_X4_25 r_156_0 ?_
  refine tz_fR (pc := 11) dX4_weigh_11 fl_X4_43 r_6_1 ?_
  refine tz_iload_n (pc := 14) dX4_weigh_14 rfl rfl ?_
  refine tz_aL (pc := 15) (z := t) (v := (J 7 t)) dX4_weigh_15 a_7 rfl (by omega) rfl (fun r_15 => ?_)
  refine tz_istore (pc := 16) (L2 := [_, _, _, _, _, _]) dX4_weigh_16 (by decide) rfl ?_
  refine tz_iload (pc := 18) dX4_weigh_18 rfl ?_
  refine tz_if_ge (pc := 20) (tgt := 47) dX4_weigh_20 (by decide) (by omega) (fun h_20 => ?_) (fun h_20 => ?_)
  · refine tz_aload_n (pc := 47) dX4_weigh_47 rfl rfl ?_
    refine tz_dup (pc := 48) dX4_weigh_48 rfl ?_
    refine tz_fI (pc := 49) (kz := 2) (v := (J 156 2)) dX4_weigh_49 fl_X4_15 i_156_2 rfl rfl (fun r_49 => ?_)
    refine tz_iload_n (pc := 52) dX4_weigh_52 rfl rfl ?_
    refine tz_iload (pc := 53) dX4_weigh_53 rfl ?_
    refine tz_aload_n (pc := 55) dX4_weigh_55 rfl rfl ?_
    refine tz_fI (pc := 56) (kz := 3) (v := (J 156 3)) dX4_weigh_56 fl_X4_19 i_156_3 rfl rfl (fun r_56 => ?_)
    have join82 : ∀ (w : Int), (-2147483648 ≤ w ∧ w < 2147483648) → tz_At l G M_X4_weigh (tb_rm 5 0 0) none (tb_ZM G 0 0 (zQ n 0 (zqv (fun J' => zOf (zbut [156, 157]) J' J ∧ J' 156 3 = J 156 3))) (zX n 0 zN)) 0 0 n J 82 [some (.ref 156), some (zi t), some (zi sg), some (zi 2), some (zi (J 7 t)), none] (zi w :: zi sg :: zi (J 156 2) :: .ref 156 :: []) := by
      intro w hr_w
      refine tz_imul (pc := 82) (v := sg * w) dX4_weigh_82 rfl ?_
      refine tz_tw ?_
      have rw_83 := zw_rg (sg * w)
      refine tz_iadd (pc := 83) (v := (J 156 2) + (zw (sg * w))) dX4_weigh_83 rfl ?_
      refine tz_tw ?_
      have rw_84 := zw_rg ((J 156 2) + (zw (sg * w)))
      refine tz_pI (pc := 84) (kz := 2) dX4_weigh_84 fl_X4_15 i_156_2 rfl rfl (zw_rg _) ?_
      refine tz_iconst (pc := 87) dX4_weigh_87 ?_
      refine tz_istore (pc := 88) (L2 := [_, _, _, _, _, _]) dX4_weigh_88 (by decide) rfl ?_
      have loop90 : ∀ (f9 : Nat) (i : Int) (J1 : zJ), ((3 - i).toNat) < f9 → (0 ≤ i ∧ i ≤ J 8 t) → (zOf (zbut [156, 157]) J1 J) → (J1 156 3 = J 156 3) → tz_At l G M_X4_weigh (tb_rm 5 0 0) none (tb_ZM G 0 0 (zQ n 0 (zqv (fun J' => zOf (zbut [156, 157]) J' J ∧ J' 156 3 = J 156 3))) (zX n 0 zN)) 0 0 n J1 90 [some (.ref 156), some (zi t), some (zi sg), some (zi 2), some (zi (J 7 t)), some (zi i)] [] := by
        intro f9
        induction f9 with
        | zero => intro i J1 hm9; exact absurd hm9 (Nat.not_lt_zero _)
        | succ f9 ih90 =>
          intro i J1 hm90 hi fr f3
          have e9 := fr 9 rfl
          refine tz_iload (pc := 90) dX4_weigh_90 rfl ?_
          refine tz_aload_n (pc := 92) dX4_weigh_92 rfl rfl ?_
          refine tz_fR (pc := 93) dX4_weigh_93 fl_X4_25 r_156_0 ?_
          refine tz_fR (pc := 96) dX4_weigh_96 fl_X4_72 r_6_2 ?_
          refine tz_iload_n (pc := 99) dX4_weigh_99 rfl rfl ?_
          refine tz_aL (pc := 100) (z := t) (v := (J 8 t)) dX4_weigh_100 a_8 rfl (by omega) (Eq.trans (congrFun (fr 8 rfl) t) rfl) (fun r_100 => ?_)
          refine tz_icmp_ge (pc := 101) (tgt := 128) dX4_weigh_101 (by decide) (by omega) (by omega) (fun h_101 => ?_) (fun h_101 => ?_)
          · exact tz_vret (pc := 128) dX4_weigh_128 rfl (Nat.le_of_ble_eq_true rfl) (Nat.le_of_ble_eq_true rfl) ⟨Nat.le_refl _, Nat.le_add_right _ _⟩ ⟨rfl, (by first | exact ⟨fr, f3⟩ | exact ⟨zOf.up rfl (zOf.up rfl zOf.rf), rfl⟩)⟩
          · refine tz_aload_n (pc := 104) dX4_weigh_104 rfl rfl ?_
            refine tz_aload_n (pc := 105) dX4_weigh_105 rfl rfl ?_
            refine tz_fR (pc := 106) dX4_weigh_106 fl_X4_25 r_156_0 ?_
            refine tz_iload_n (pc := 109) dX4_weigh_109 rfl rfl ?_
            refine tz_iload (pc := 110) dX4_weigh_110 rfl ?_
            refine tz_cV (pc := 112) (c_arg hl n _ _ _ (by omega) (by omega) (by omega)) vl_X4_50 dX4_weigh_112 o_6 rfl rfl (Nat.le_of_ble_eq_true rfl) ⟨(Nat.le_of_ble_eq_true rfl), (Nat.le_of_ble_eq_true rfl)⟩ rfl rfl (Nat.le_of_ble_eq_true rfl) (Nat.le_of_ble_eq_true rfl) (fun r9 J_112 hq9 => ?_)
            obtain ⟨z_112, rfl, hz_112, rfl, rfl⟩ := hq9
            refine tz_iload_n (pc := 115) dX4_weigh_115 rfl rfl ?_
            refine tz_iload_n (pc := 116) dX4_weigh_116 rfl rfl ?_
            refine tz_iconst (pc := 117) dX4_weigh_117 ?_
            refine tz_iadd (pc := 118) (v := 3) dX4_weigh_118 (by decide) ?_
            have g1 := (C.arg (t := t) (i := i) (by omega) (by omega) (by omega) (by omega)).1
            rw [← e9] at g1
            refine tz_cV (pc := 119) (c_weigh3 hl n _ _ _ (by omega) (by omega) m (C.of (fun c hc => fr c (by simp [zbut]; omega))) (by omega)) vl_X4_59 dX4_weigh_119 o_156 rfl rfl (Nat.le_of_ble_eq_true rfl) ⟨(Nat.le_of_ble_eq_true rfl), (Nat.le_of_ble_eq_true rfl)⟩ rfl rfl (Nat.le_of_ble_eq_true rfl) (Nat.le_of_ble_eq_true rfl) (fun r9 J_119 hq9 => ?_)
            obtain ⟨rfl, f2, k2⟩ := hq9
            refine tz_iinc (pc := 122) (z := i + 1) (L2 := [_, _, _, _, _, _]) dX4_weigh_122 rfl (by omega) rfl ?_
            refine tz_goto (pc := 125) (tgt := 90) dX4_weigh_125 (by decide) ?_
            exact ih90 (i + 1) _ (by omega) (by omega) (f2.tr fr) (k2.trans f3)
      exact loop90 _ 0 _ (Nat.lt_succ_self _) (by omega) (zOf.up rfl zOf.rf) rfl
    refine tz_icmp_ne (pc := 59) (tgt := 69) dX4_weigh_59 (by decide) (by omega) (by omega) (fun h_59 => ?_) (fun h_59 => ?_)
    · refine tz_aload_n (pc := 69) dX4_weigh_69 rfl rfl ?_
      refine tz_fR (pc := 70) dX4_weigh_70 fl_X4_25 r_156_0 ?_
      refine tz_fR (pc := 73) dX4_weigh_73 fl_X4_63 r_6_0 ?_
      refine tz_fR (pc := 76) dX4_weigh_76 fl_X4_67 r_1_2 ?_
      refine tz_iload (pc := 79) dX4_weigh_79 rfl ?_
      refine tz_aL (pc := 81) (z := (J 7 t)) (v := (J 4 (J 7 t))) dX4_weigh_81 a_4 rfl (by omega) rfl (fun r_81 => ?_)
      exact join82 (J 4 (J 7 t)) (by omega) 
    · refine tz_aload_n (pc := 62) dX4_weigh_62 rfl rfl ?_
      refine tz_fI (pc := 63) (kz := 4) (v := (J 156 4)) dX4_weigh_63 fl_X4_22 i_156_4 rfl rfl (fun r_63 => ?_)
      refine tz_goto (pc := 66) (tgt := 82) dX4_weigh_66 (by decide) ?_
      exact join82 (J 156 4) (by omega) 
  · refine tz_aload_n (pc := 23) dX4_weigh_23 rfl rfl ?_
    refine tz_fR (pc := 24) dX4_weigh_24 fl_X4_9 r_156_1 ?_
    refine tz_iload (pc := 27) dX4_weigh_27 rfl ?_
    refine tz_iconst (pc := 29) dX4_weigh_29 ?_
    refine tz_ixor (pc := 30) (v := zxor (J 7 t) (-1)) dX4_weigh_30 rfl ?_
    refine tz_dup2 (pc := 31) dX4_weigh_31 rfl rfl ?_
    refine tz_aL (pc := 32) (z := (zxor (J 7 t) (-1))) (v := (J 157 (zxor (J 7 t) (-1)))) dX4_weigh_32 a_157 rfl (by rw [z_nn (by omega)]; omega) rfl (fun r_32 => ?_)
    refine tz_iload_n (pc := 33) dX4_weigh_33 rfl rfl ?_
    refine tz_iadd (pc := 34) (v := (J 157 (zxor (J 7 t) (-1))) + sg) dX4_weigh_34 rfl ?_
    refine tz_tw ?_
    have rw_35 := zw_rg ((J 157 (zxor (J 7 t) (-1))) + sg)
    refine tz_aS (pc := 35) (z := (zxor (J 7 t) (-1))) dX4_weigh_35 a_157 rfl (by rw [z_nn (by omega)]; omega) (zw_rg _) ?_
    refine tz_aload_n (pc := 36) dX4_weigh_36 rfl rfl ?_
    refine tz_dup (pc := 37) dX4_weigh_37 rfl ?_
    refine tz_fI (pc := 38) (kz := 2) (v := (J 156 2)) dX4_weigh_38 fl_X4_15 i_156_2 rfl rfl (fun r_38 => ?_)
    refine tz_iload_n (pc := 41) dX4_weigh_41 rfl rfl ?_
    refine tz_iadd (pc := 42) (v := (J 156 2) + sg) dX4_weigh_42 rfl ?_
    refine tz_tw ?_
    have rw_43 := zw_rg ((J 156 2) + sg)
    refine tz_pI (pc := 43) (kz := 2) dX4_weigh_43 fl_X4_15 i_156_2 rfl rfl (zw_rg _) ?_
    exact tz_vret (pc := 46) dX4_weigh_46 rfl (Nat.le_of_ble_eq_true rfl) (Nat.le_of_ble_eq_true rfl) ⟨Nat.le_refl _, Nat.le_add_right _ _⟩ ⟨rfl, (by first | exact ⟨fr, f3⟩ | exact ⟨zOf.up rfl (zOf.up rfl zOf.rf), rfl⟩)⟩

set_option maxHeartbeats 4000000 in
set_option maxRecDepth 100000 in
theorem c_weigh1 {l : Launch} {G : tb_G} (hl : l.stackTraces = false) (n : Nat) (J : zJ) (t : Int) (sg : Int) (hr_t : -2147483648 ≤ t ∧ t < 2147483648) (hr_sg : -2147483648 ≤ sg ∧ sg < 2147483648) (m : Int) (C : CT J m) (ht : 0 ≤ t ∧ t < m) : tz_Ok l G M_X4_weigh 6 0 0 [.ref 156, zi t, zi sg, zi 1] n J (zqv (fun J' => zOf (zbut [156, 157]) J' J ∧ J' 156 3 = J 156 3)) zN := by
  refine tz_Ok.of hl (by decide +kernel) rfl (tb_c1 rfl) (Nat.le_of_ble_eq_true rfl) ?_
  show tz_At l G M_X4_weigh (tb_rm 6 0 0) none (tb_ZM G 0 0 (zQ n 0 (zqv (fun J' => zOf (zbut [156, 157]) J' J ∧ J' 156 3 = J 156 3))) (zX n 0 zN)) 0 0 n J 0 [some (.ref 156), some (zi t), some (zi sg), some (zi 1), none, none] []
  have hm := C.told
  have ha := C.ar ht.1 ht.2
  refine tz_iload_n (pc := 0) dX4_weigh_0 rfl rfl ?_
  refine tz_bipush (pc := 1) dX4_weigh_1 (by decide) ?_
  refine tz_icmp_leT (pc := 3) (tgt := 7) (by decide) dX4_weigh_3 (by decide) (by decide) (by decide) ?_
  refine tz_aload_n (pc := 7) dX4_weigh_7 rfl rfl ?_
  refine tz_fR (pc := 8) dX4_weigh_8 fl_X4_25 r_156_0 ?_
  refine tz_fR (pc := 11) dX4_weigh_11 fl_X4_43 r_6_1 ?_
  refine tz_iload_n (pc := 14) dX4_weigh_14 rfl rfl ?_
  refine tz_aL (pc := 15) (z := t) (v := (J 7 t)) dX4_weigh_15 a_7 rfl (by omega) rfl (fun r_15 => ?_)
  refine tz_istore (pc := 16) (L2 := [_, _, _, _, _, _]) dX4_weigh_16 (by decide) rfl ?_
  refine tz_iload (pc := 18) dX4_weigh_18 rfl ?_
  refine tz_if_ge (pc := 20) (tgt := 47) dX4_weigh_20 (by decide) (by omega) (fun h_20 => ?_) (fun h_20 => ?_)
  · refine tz_aload_n (pc := 47) dX4_weigh_47 rfl rfl ?_
    refine tz_dup (pc := 48) dX4_weigh_48 rfl ?_
    refine tz_fI (pc := 49) (kz := 2) (v := (J 156 2)) dX4_weigh_49 fl_X4_15 i_156_2 rfl rfl (fun r_49 => ?_)
    refine tz_iload_n (pc := 52) dX4_weigh_52 rfl rfl ?_
    refine tz_iload (pc := 53) dX4_weigh_53 rfl ?_
    refine tz_aload_n (pc := 55) dX4_weigh_55 rfl rfl ?_
    refine tz_fI (pc := 56) (kz := 3) (v := (J 156 3)) dX4_weigh_56 fl_X4_19 i_156_3 rfl rfl (fun r_56 => ?_)
    have join82 : ∀ (w : Int), (-2147483648 ≤ w ∧ w < 2147483648) → tz_At l G M_X4_weigh (tb_rm 6 0 0) none (tb_ZM G 0 0 (zQ n 0 (zqv (fun J' => zOf (zbut [156, 157]) J' J ∧ J' 156 3 = J 156 3))) (zX n 0 zN)) 0 0 n J 82 [some (.ref 156), some (zi t), some (zi sg), some (zi 1), some (zi (J 7 t)), none] (zi w :: zi sg :: zi (J 156 2) :: .ref 156 :: []) := by
      intro w hr_w
      refine tz_imul (pc := 82) (v := sg * w) dX4_weigh_82 rfl ?_
      refine tz_tw ?_
      have rw_83 := zw_rg (sg * w)
      refine tz_iadd (pc := 83) (v := (J 156 2) + (zw (sg * w))) dX4_weigh_83 rfl ?_
      refine tz_tw ?_
      have rw_84 := zw_rg ((J 156 2) + (zw (sg * w)))
      refine tz_pI (pc := 84) (kz := 2) dX4_weigh_84 fl_X4_15 i_156_2 rfl rfl (zw_rg _) ?_
      refine tz_iconst (pc := 87) dX4_weigh_87 ?_
      refine tz_istore (pc := 88) (L2 := [_, _, _, _, _, _]) dX4_weigh_88 (by decide) rfl ?_
      have loop90 : ∀ (f9 : Nat) (i : Int) (J1 : zJ), ((3 - i).toNat) < f9 → (0 ≤ i ∧ i ≤ J 8 t) → (zOf (zbut [156, 157]) J1 J) → (J1 156 3 = J 156 3) → tz_At l G M_X4_weigh (tb_rm 6 0 0) none (tb_ZM G 0 0 (zQ n 0 (zqv (fun J' => zOf (zbut [156, 157]) J' J ∧ J' 156 3 = J 156 3))) (zX n 0 zN)) 0 0 n J1 90 [some (.ref 156), some (zi t), some (zi sg), some (zi 1), some (zi (J 7 t)), some (zi i)] [] := by
        intro f9
        induction f9 with
        | zero => intro i J1 hm9; exact absurd hm9 (Nat.not_lt_zero _)
        | succ f9 ih90 =>
          intro i J1 hm90 hi fr f3
          have e9 := fr 9 rfl
          refine tz_iload (pc := 90) dX4_weigh_90 rfl ?_
          refine tz_aload_n (pc := 92) dX4_weigh_92 rfl rfl ?_
          refine tz_fR (pc := 93) dX4_weigh_93 fl_X4_25 r_156_0 ?_
          refine tz_fR (pc := 96) dX4_weigh_96 fl_X4_72 r_6_2 ?_
          refine tz_iload_n (pc := 99) dX4_weigh_99 rfl rfl ?_
          refine tz_aL (pc := 100) (z := t) (v := (J 8 t)) dX4_weigh_100 a_8 rfl (by omega) (Eq.trans (congrFun (fr 8 rfl) t) rfl) (fun r_100 => ?_)
          refine tz_icmp_ge (pc := 101) (tgt := 128) dX4_weigh_101 (by decide) (by omega) (by omega) (fun h_101 => ?_) (fun h_101 => ?_)
          · exact tz_vret (pc := 128) dX4_weigh_128 rfl (Nat.le_of_ble_eq_true rfl) (Nat.le_of_ble_eq_true rfl) ⟨Nat.le_refl _, Nat.le_add_right _ _⟩ ⟨rfl, (by first | exact ⟨fr, f3⟩ | exact ⟨zOf.up rfl (zOf.up rfl zOf.rf), rfl⟩)⟩
          · refine tz_aload_n (pc := 104) dX4_weigh_104 rfl rfl ?_
            refine tz_aload_n (pc := 105) dX4_weigh_105 rfl rfl ?_
            refine tz_fR (pc := 106) dX4_weigh_106 fl_X4_25 r_156_0 ?_
            refine tz_iload_n (pc := 109) dX4_weigh_109 rfl rfl ?_
            refine tz_iload (pc := 110) dX4_weigh_110 rfl ?_
            refine tz_cV (pc := 112) (c_arg hl n _ _ _ (by omega) (by omega) (by omega)) vl_X4_50 dX4_weigh_112 o_6 rfl rfl (Nat.le_of_ble_eq_true rfl) ⟨(Nat.le_of_ble_eq_true rfl), (Nat.le_of_ble_eq_true rfl)⟩ rfl rfl (Nat.le_of_ble_eq_true rfl) (Nat.le_of_ble_eq_true rfl) (fun r9 J_112 hq9 => ?_)
            obtain ⟨z_112, rfl, hz_112, rfl, rfl⟩ := hq9
            refine tz_iload_n (pc := 115) dX4_weigh_115 rfl rfl ?_
            refine tz_iload_n (pc := 116) dX4_weigh_116 rfl rfl ?_
            refine tz_iconst (pc := 117) dX4_weigh_117 ?_
            refine tz_iadd (pc := 118) (v := 2) dX4_weigh_118 (by decide) ?_
            have g1 := (C.arg (t := t) (i := i) (by omega) (by omega) (by omega) (by omega)).1
            rw [← e9] at g1
            refine tz_cV (pc := 119) (c_weigh2 hl n _ _ _ (by omega) (by omega) m (C.of (fun c hc => fr c (by simp [zbut]; omega))) (by omega)) vl_X4_59 dX4_weigh_119 o_156 rfl rfl (Nat.le_of_ble_eq_true rfl) ⟨(Nat.le_of_ble_eq_true rfl), (Nat.le_of_ble_eq_true rfl)⟩ rfl rfl (Nat.le_of_ble_eq_true rfl) (Nat.le_of_ble_eq_true rfl) (fun r9 J_119 hq9 => ?_)
            obtain ⟨rfl, f2, k2⟩ := hq9
            refine tz_iinc (pc := 122) (z := i + 1) (L2 := [_, _, _, _, _, _]) dX4_weigh_122 rfl (by omega) rfl ?_
            refine tz_goto (pc := 125) (tgt := 90) dX4_weigh_125 (by decide) ?_
            exact ih90 (i + 1) _ (by omega) (by omega) (f2.tr fr) (k2.trans f3)
      exact loop90 _ 0 _ (Nat.lt_succ_self _) (by omega) (zOf.up rfl zOf.rf) rfl
    refine tz_icmp_ne (pc := 59) (tgt := 69) dX4_weigh_59 (by decide) (by omega) (by omega) (fun h_59 => ?_) (fun h_59 => ?_)
    · refine tz_aload_n (pc := 69) dX4_weigh_69 rfl rfl ?_
      refine tz_fR (pc := 70) dX4_weigh_70 fl_X4_25 r_156_0 ?_
      refine tz_fR (pc := 73) dX4_weigh_73 fl_X4_63 r_6_0 ?_
      refine tz_fR (pc := 76) dX4_weigh_76 fl_X4_67 r_1_2 ?_
      refine tz_iload (pc := 79) dX4_weigh_79 rfl ?_
      refine tz_aL (pc := 81) (z := (J 7 t)) (v := (J 4 (J 7 t))) dX4_weigh_81 a_4 rfl (by omega) rfl (fun r_81 => ?_)
      exact join82 (J 4 (J 7 t)) (by omega) 
    · refine tz_aload_n (pc := 62) dX4_weigh_62 rfl rfl ?_
      refine tz_fI (pc := 63) (kz := 4) (v := (J 156 4)) dX4_weigh_63 fl_X4_22 i_156_4 rfl rfl (fun r_63 => ?_)
      refine tz_goto (pc := 66) (tgt := 82) dX4_weigh_66 (by decide) ?_
      exact join82 (J 156 4) (by omega) 
  · refine tz_aload_n (pc := 23) dX4_weigh_23 rfl rfl ?_
    refine tz_fR (pc := 24) dX4_weigh_24 fl_X4_9 r_156_1 ?_
    refine tz_iload (pc := 27) dX4_weigh_27 rfl ?_
    refine tz_iconst (pc := 29) dX4_weigh_29 ?_
    refine tz_ixor (pc := 30) (v := zxor (J 7 t) (-1)) dX4_weigh_30 rfl ?_
    refine tz_dup2 (pc := 31) dX4_weigh_31 rfl rfl ?_
    refine tz_aL (pc := 32) (z := (zxor (J 7 t) (-1))) (v := (J 157 (zxor (J 7 t) (-1)))) dX4_weigh_32 a_157 rfl (by rw [z_nn (by omega)]; omega) rfl (fun r_32 => ?_)
    refine tz_iload_n (pc := 33) dX4_weigh_33 rfl rfl ?_
    refine tz_iadd (pc := 34) (v := (J 157 (zxor (J 7 t) (-1))) + sg) dX4_weigh_34 rfl ?_
    refine tz_tw ?_
    have rw_35 := zw_rg ((J 157 (zxor (J 7 t) (-1))) + sg)
    refine tz_aS (pc := 35) (z := (zxor (J 7 t) (-1))) dX4_weigh_35 a_157 rfl (by rw [z_nn (by omega)]; omega) (zw_rg _) ?_
    refine tz_aload_n (pc := 36) dX4_weigh_36 rfl rfl ?_
    refine tz_dup (pc := 37) dX4_weigh_37 rfl ?_
    refine tz_fI (pc := 38) (kz := 2) (v := (J 156 2)) dX4_weigh_38 fl_X4_15 i_156_2 rfl rfl (fun r_38 => ?_)
    refine tz_iload_n (pc := 41) dX4_weigh_41 rfl rfl ?_
    refine tz_iadd (pc := 42) (v := (J 156 2) + sg) dX4_weigh_42 rfl ?_
    refine tz_tw ?_
    have rw_43 := zw_rg ((J 156 2) + sg)
    refine tz_pI (pc := 43) (kz := 2) dX4_weigh_43 fl_X4_15 i_156_2 rfl rfl (zw_rg _) ?_
    exact tz_vret (pc := 46) dX4_weigh_46 rfl (Nat.le_of_ble_eq_true rfl) (Nat.le_of_ble_eq_true rfl) ⟨Nat.le_refl _, Nat.le_add_right _ _⟩ ⟨rfl, (by first | exact ⟨fr, f3⟩ | exact ⟨zOf.up rfl (zOf.up rfl zOf.rf), rfl⟩)⟩

set_option maxHeartbeats 4000000 in
set_option maxRecDepth 100000 in
theorem c_weighBoth {l : Launch} {G : tb_G} (hl : l.stackTraces = false) (n : Nat) (J : zJ) (s : Int) (t : Int) (hr_s : -2147483648 ≤ s ∧ s < 2147483648) (hr_t : -2147483648 ≤ t ∧ t < 2147483648) (m : Int) (C : CT J m) (hs : 0 ≤ s ∧ s < m) (ht : 0 ≤ t ∧ t < m) : tz_Ok l G M_X4_weighBoth 7 0 0 [.ref 156, zi s, zi t] n J (zqv (fun J' => zOf (zbut [156, 157]) J' J ∧ J' 156 3 = J 156 3)) zN := by
  refine tz_Ok.of hl (by decide +kernel) rfl (tb_c1 rfl) (Nat.le_of_ble_eq_true rfl) ?_
  show tz_At l G M_X4_weighBoth (tb_rm 7 0 0) none (tb_ZM G 0 0 (zQ n 0 (zqv (fun J' => zOf (zbut [156, 157]) J' J ∧ J' 156 3 = J 156 3))) (zX n 0 zN)) 0 0 n J 0 [some (.ref 156), some (zi s), some (zi t)] []
  refine tz_aload_n (pc := 0) dX4_weighBoth_0 rfl rfl ?_
  refine tz_fR (pc := 1) dX4_weighBoth_1 fl_X4_9 r_156_1 ?_
  refine tz_iconst (pc := 4) dX4_weighBoth_4 ?_
  refine tz_cS (pc := 5) (zJ_fill hl n _ 157 _ 8 0 (by decide) a_157 rfl) sl_X4_53 dX4_weighBoth_5 rfl rfl (Nat.le_of_ble_eq_true rfl) ⟨(Nat.le_of_ble_eq_true rfl), (Nat.le_of_ble_eq_true rfl)⟩ rfl rfl (Nat.le_of_ble_eq_true rfl) (Nat.le_of_ble_eq_true rfl) (fun r9 J_5 hq9 => ?_)
  obtain ⟨rfl, rfl⟩ := hq9
  refine tz_aload_n (pc := 8) dX4_weighBoth_8 rfl rfl ?_
  refine tz_iconst (pc := 9) dX4_weighBoth_9 ?_
  refine tz_pI (pc := 10) (kz := 2) dX4_weighBoth_10 fl_X4_15 i_156_2 rfl rfl (by decide) ?_
  refine tz_aload_n (pc := 13) dX4_weighBoth_13 rfl rfl ?_
  refine tz_iload_n (pc := 14) dX4_weighBoth_14 rfl rfl ?_
  refine tz_iconst (pc := 15) dX4_weighBoth_15 ?_
  refine tz_iconst (pc := 16) dX4_weighBoth_16 ?_
  refine tz_cV (pc := 17) (c_weigh1 hl n _ _ _ (by omega) (by decide) m (C.of (fun c hc => (zup_nc (by omega)).trans (zfl_nc (by omega)))) hs) vl_X4_59 dX4_weighBoth_17 o_156 rfl rfl (Nat.le_of_ble_eq_true rfl) ⟨(Nat.le_of_ble_eq_true rfl), (Nat.le_of_ble_eq_true rfl)⟩ rfl rfl (Nat.le_of_ble_eq_true rfl) (Nat.le_of_ble_eq_true rfl) (fun r9 J_17 hq9 => ?_)
  obtain ⟨rfl, f1, k1⟩ := hq9
  refine tz_aload_n (pc := 20) dX4_weighBoth_20 rfl rfl ?_
  refine tz_iload_n (pc := 21) dX4_weighBoth_21 rfl rfl ?_
  refine tz_iconst (pc := 22) dX4_weighBoth_22 ?_
  refine tz_iconst (pc := 23) dX4_weighBoth_23 ?_
  refine tz_cV (pc := 24) (c_weigh1 hl n _ _ _ (by omega) (by decide) m (C.of (fun c hc => (f1 c (by simp [zbut]; omega)).trans ((zup_nc (by omega)).trans (zfl_nc (by omega))))) ht) vl_X4_59 dX4_weighBoth_24 o_156 rfl rfl (Nat.le_of_ble_eq_true rfl) ⟨(Nat.le_of_ble_eq_true rfl), (Nat.le_of_ble_eq_true rfl)⟩ rfl rfl (Nat.le_of_ble_eq_true rfl) (Nat.le_of_ble_eq_true rfl) (fun r9 J_24 hq9 => ?_)
  obtain ⟨rfl, f2, k2⟩ := hq9
  exact tz_vret (pc := 27) dX4_weighBoth_27 rfl (Nat.le_of_ble_eq_true rfl) (Nat.le_of_ble_eq_true rfl) ⟨Nat.le_refl _, Nat.le_add_right _ _⟩ ⟨rfl, ⟨f2.tr (f1.tr (zOf.up rfl (zOf.fl rfl zOf.rf))), k2.trans (k1.trans rfl)⟩⟩

set_option maxHeartbeats 4000000 in
set_option maxRecDepth 100000 in
theorem c_lacks {l : Launch} {G : tb_G} (hl : l.stackTraces = false) (n : Nat) (J : zJ)     : tz_Ok l G M_X4_lacksVariable 0 0 0 [.ref 156] n J (zqi (fun z J' => J = J' ∧ (z = 0 ∨ z = 1))) zN := by
  refine tz_Ok.of hl (by decide +kernel) rfl (tb_c1 rfl) (Nat.le_of_ble_eq_true rfl) ?_
  show tz_At l G M_X4_lacksVariable (tb_rm 0 0 0) none (tb_ZM G 0 0 (zQ n 0 (zqi (fun z J' => J = J' ∧ (z = 0 ∨ z = 1)))) (zX n 0 zN)) 0 0 n J 0 [some (.ref 156), none] []
  refine tz_iconst (pc := 0) dX4_lacksVariable_0 ?_
  refine tz_istore_n (pc := 1) (L2 := [_, _]) dX4_lacksVariable_1 rfl (by decide) rfl ?_
  have loop2 : ∀ (f9 : Nat) (i : Int), ((8 - i).toNat) < f9 → (0 ≤ i ∧ i ≤ 8) → tz_At l G M_X4_lacksVariable (tb_rm 0 0 0) none (tb_ZM G 0 0 (zQ n 0 (zqi (fun z J' => J = J' ∧ (z = 0 ∨ z = 1)))) (zX n 0 zN)) 0 0 n J 2 [some (.ref 156), some (zi i)] [] := by
    intro f9
    induction f9 with
    | zero => intro i hm9; exact absurd hm9 (Nat.not_lt_zero _)
    | succ f9 ih2 =>
      intro i hm2 hi
      refine tz_iload_n (pc := 2) dX4_lacksVariable_2 rfl rfl ?_
      refine tz_bipush (pc := 3) dX4_lacksVariable_3 (by decide) ?_
      refine tz_icmp_ge (pc := 5) (tgt := 25) dX4_lacksVariable_5 (by decide) (by omega) (by decide) (fun h_5 => ?_) (fun h_5 => ?_)
      · refine tz_iconst (pc := 25) dX4_lacksVariable_25 ?_
        exact tz_zret (pc := 26) (z := 0) dX4_lacksVariable_26 rfl (Or.inl rfl) (Nat.le_of_ble_eq_true rfl) (Nat.le_of_ble_eq_true rfl) ⟨Nat.le_refl _, Nat.le_add_right _ _⟩ ⟨_, rfl, (by decide), ⟨rfl, by omega⟩⟩
      · refine tz_aload_n (pc := 8) dX4_lacksVariable_8 rfl rfl ?_
        refine tz_fR (pc := 9) dX4_lacksVariable_9 fl_X4_9 r_156_1 ?_
        refine tz_iload_n (pc := 12) dX4_lacksVariable_12 rfl rfl ?_
        refine tz_aL (pc := 13) (z := i) (v := (J 157 i)) dX4_lacksVariable_13 a_157 rfl (by omega) rfl (fun r_13 => ?_)
        refine tz_if_ge (pc := 14) (tgt := 19) dX4_lacksVariable_14 (by decide) (by omega) (fun h_14 => ?_) (fun h_14 => ?_)
        · refine tz_iinc (pc := 19) (z := i + 1) (L2 := [_, _]) dX4_lacksVariable_19 rfl (by omega) rfl ?_
          refine tz_goto (pc := 22) (tgt := 2) dX4_lacksVariable_22 (by decide) ?_
          exact ih2 (i + 1) (by omega) (by omega)
        · refine tz_iconst (pc := 17) dX4_lacksVariable_17 ?_
          exact tz_zret (pc := 18) (z := 1) dX4_lacksVariable_18 rfl (Or.inr rfl) (Nat.le_of_ble_eq_true rfl) (Nat.le_of_ble_eq_true rfl) ⟨Nat.le_refl _, Nat.le_add_right _ _⟩ ⟨_, rfl, (by decide), ⟨rfl, by omega⟩⟩
  exact loop2 _ 0 (Nat.lt_succ_self _) (by omega)

set_option maxHeartbeats 4000000 in
set_option maxRecDepth 100000 in
theorem c_unlikeArg {l : Launch} {G : tb_G} (hl : l.stackTraces = false) (n : Nat) (J : zJ) (s : Int) (t : Int) (hr_s : -2147483648 ≤ s ∧ s < 2147483648) (hr_t : -2147483648 ≤ t ∧ t < 2147483648) (m : Int) (C : CT J m) (hs : 0 ≤ s ∧ s < m) (ht : 0 ≤ t ∧ t < m) (h8 : 0 < J 8 s) : tz_Ok l G M_X4_firstUnlike 1 0 0 [.ref 156, zi s, zi t] n J (zqi (fun z J' => J = J' ∧ 0 ≤ z ∧ z < J 8 s)) zN := by
  refine tz_Ok.of hl (by decide +kernel) rfl (tb_c1 rfl) (Nat.le_of_ble_eq_true rfl) ?_
  show tz_At l G M_X4_firstUnlike (tb_rm 1 0 0) none (tb_ZM G 0 0 (zQ n 0 (zqi (fun z J' => J = J' ∧ 0 ≤ z ∧ z < J 8 s))) (zX n 0 zN)) 0 0 n J 0 [some (.ref 156), some (zi s), some (zi t), none, none] []
  have hm := C.told
  have ha := C.ar hs.1 hs.2
  refine tz_aload_n (pc := 0) dX4_firstUnlike_0 rfl rfl ?_
  refine tz_fR (pc := 1) dX4_firstUnlike_1 fl_X4_25 r_156_0 ?_
  refine tz_fR (pc := 4) dX4_firstUnlike_4 fl_X4_72 r_6_2 ?_
  refine tz_iload_n (pc := 7) dX4_firstUnlike_7 rfl rfl ?_
  refine tz_aL (pc := 8) (z := s) (v := (J 8 s)) dX4_firstUnlike_8 a_8 rfl (by omega) rfl (fun r_8 => ?_)
  refine tz_iconst (pc := 9) dX4_firstUnlike_9 ?_
  refine tz_isub (pc := 10) (v := (J 8 s) - 1) dX4_firstUnlike_10 rfl ?_
  refine tz_istore_n (pc := 11) (L2 := [_, _, _, _, _]) dX4_firstUnlike_11 rfl (by decide) rfl ?_
  refine tz_iconst (pc := 12) dX4_firstUnlike_12 ?_
  refine tz_istore (pc := 13) (L2 := [_, _, _, _, _]) dX4_firstUnlike_13 (by decide) rfl ?_
  have loop15 : ∀ (f9 : Nat) (i : Int), ((3 - i).toNat) < f9 → (0 ≤ i ∧ i ≤ J 8 s - 1) → tz_At l G M_X4_firstUnlike (tb_rm 1 0 0) none (tb_ZM G 0 0 (zQ n 0 (zqi (fun z J' => J = J' ∧ 0 ≤ z ∧ z < J 8 s))) (zX n 0 zN)) 0 0 n J 15 [some (.ref 156), some (zi s), some (zi t), some (zi ((J 8 s) - 1)), some (zi i)] [] := by
    intro f9
    induction f9 with
    | zero => intro i hm9; exact absurd hm9 (Nat.not_lt_zero _)
    | succ f9 ih15 =>
      intro i hm15 hi
      refine tz_iload (pc := 15) dX4_firstUnlike_15 rfl ?_
      refine tz_iload_n (pc := 17) dX4_firstUnlike_17 rfl rfl ?_
      refine tz_icmp_ge (pc := 18) (tgt := 53) dX4_firstUnlike_18 (by decide) (by omega) (by omega) (fun h_18 => ?_) (fun h_18 => ?_)
      · refine tz_iload_n (pc := 53) dX4_firstUnlike_53 rfl rfl ?_
        refine tz_iconst (pc := 54) dX4_firstUnlike_54 ?_
        refine tz_mx (pc := 55) (v := J 8 s - 1) dX4_firstUnlike_55 ml_X4_75 (Nat.le_of_ble_eq_true rfl) (Nat.le_of_ble_eq_true rfl) (Nat.le_of_ble_eq_true rfl) (Nat.le_of_ble_eq_true rfl) (by omega) (by decide) (by split <;> omega) ?_
        exact tz_iret (pc := 58) (z := (J 8 s - 1)) dX4_firstUnlike_58 rfl (Nat.le_of_ble_eq_true rfl) (Nat.le_of_ble_eq_true rfl) ⟨Nat.le_refl _, Nat.le_add_right _ _⟩ ⟨_, rfl, (by omega), ⟨rfl, by omega, by omega⟩⟩
      · refine tz_aload_n (pc := 21) dX4_firstUnlike_21 rfl rfl ?_
        refine tz_fR (pc := 22) dX4_firstUnlike_22 fl_X4_25 r_156_0 ?_
        refine tz_iload_n (pc := 25) dX4_firstUnlike_25 rfl rfl ?_
        refine tz_iload (pc := 26) dX4_firstUnlike_26 rfl ?_
        refine tz_cV (pc := 28) (c_arg hl n _ _ _ (by omega) (by omega) (by omega)) vl_X4_50 dX4_firstUnlike_28 o_6 rfl rfl (Nat.le_of_ble_eq_true rfl) ⟨(Nat.le_of_ble_eq_true rfl), (Nat.le_of_ble_eq_true rfl)⟩ rfl rfl (Nat.le_of_ble_eq_true rfl) (Nat.le_of_ble_eq_true rfl) (fun r9 J_28 hq9 => ?_)
        obtain ⟨z_28, rfl, hz_28, rfl, rfl⟩ := hq9
        refine tz_aload_n (pc := 31) dX4_firstUnlike_31 rfl rfl ?_
        refine tz_fR (pc := 32) dX4_firstUnlike_32 fl_X4_25 r_156_0 ?_
        refine tz_iload_n (pc := 35) dX4_firstUnlike_35 rfl rfl ?_
        refine tz_iload (pc := 36) dX4_firstUnlike_36 rfl ?_
        refine tz_cV (pc := 38) (c_arg hl n _ _ _ (by omega) (by omega) (by omega)) vl_X4_50 dX4_firstUnlike_38 o_6 rfl rfl (Nat.le_of_ble_eq_true rfl) ⟨(Nat.le_of_ble_eq_true rfl), (Nat.le_of_ble_eq_true rfl)⟩ rfl rfl (Nat.le_of_ble_eq_true rfl) (Nat.le_of_ble_eq_true rfl) (fun r9 J_38 hq9 => ?_)
        obtain ⟨z_38, rfl, hz_38, rfl, rfl⟩ := hq9
        refine tz_icmp_eq (pc := 41) (tgt := 47) dX4_firstUnlike_41 (by decide) (by omega) (by omega) (fun h_41 => ?_) (fun h_41 => ?_)
        · refine tz_iinc (pc := 47) (z := i + 1) (L2 := [_, _, _, _, _]) dX4_firstUnlike_47 rfl (by omega) rfl ?_
          refine tz_goto (pc := 50) (tgt := 15) dX4_firstUnlike_50 (by decide) ?_
          exact ih15 (i + 1) (by omega) (by omega)
        · refine tz_iload (pc := 44) dX4_firstUnlike_44 rfl ?_
          exact tz_iret (pc := 46) (z := i) dX4_firstUnlike_46 rfl (Nat.le_of_ble_eq_true rfl) (Nat.le_of_ble_eq_true rfl) ⟨Nat.le_refl _, Nat.le_add_right _ _⟩ ⟨_, rfl, (by omega), ⟨rfl, by omega, by omega⟩⟩
  exact loop15 _ 0 (Nat.lt_succ_self _) (by omega)

end
section
set_option maxHeartbeats 4000000 in
set_option maxRecDepth 100000 in
theorem c_greater {l : Launch} {G : tb_G} (hl : l.stackTraces = false) (n : Nat) (J : zJ) (s : Int) (t : Int) (hr_s : -2147483648 ≤ s ∧ s < 2147483648) (hr_t : -2147483648 ≤ t ∧ t < 2147483648) (m : Int) (C : CT J m) (hs : 0 ≤ s ∧ s < m) (ht : 0 ≤ t ∧ t < m) : tz_Ok l G M_X4_isGreater 8 0 0 [.ref 156, zi s, zi t] n J (zqi (fun z J' => (z = 0 ∨ z = 1) ∧ zOf (zbut [156, 157]) J' J ∧ J' 156 3 = J 156 3)) zN := by
  refine tz_Ok.of hl (by decide +kernel) rfl (tb_c1 rfl) (Nat.le_of_ble_eq_true rfl) ?_
  show tz_At l G M_X4_isGreater (tb_rm 8 0 0) none (tb_ZM G 0 0 (zQ n 0 (zqi (fun z J' => (z = 0 ∨ z = 1) ∧ zOf (zbut [156, 157]) J' J ∧ J' 156 3 = J 156 3))) (zX n 0 zN)) 0 0 n J 0 [some (.ref 156), some (zi s), some (zi t), none, none, none, none] []
  have hm := C.told
  refine tz_iload_n (pc := 0) dX4_isGreater_0 rfl rfl ?_
  refine tz_istore_n (pc := 1) (L2 := [_, _, _, _, _, _, _]) dX4_isGreater_1 rfl (by decide) rfl ?_
  refine tz_iload_n (pc := 2) dX4_isGreater_2 rfl rfl ?_
  refine tz_istore (pc := 3) (L2 := [_, _, _, _, _, _, _]) dX4_isGreater_3 (by decide) rfl ?_
  refine tz_iconst (pc := 5) dX4_isGreater_5 ?_
  refine tz_istore (pc := 6) (L2 := [_, _, _, _, _, _, _]) dX4_isGreater_6 (by decide) rfl ?_
  have loop8 : ∀ (f9 : Nat) (a : Int) (b : Int) (k : Int) (d6 : Option Value) (J1 : zJ), ((6 - k).toNat) < f9 → (0 ≤ k ∧ k ≤ 6) → (0 ≤ a ∧ a < m) → (0 ≤ b ∧ b < m) → (zOf (zbut [156, 157]) J1 J) → (J1 156 3 = J 156 3) → tz_At l G M_X4_isGreater (tb_rm 8 0 0) none (tb_ZM G 0 0 (zQ n 0 (zqi (fun z J' => (z = 0 ∨ z = 1) ∧ zOf (zbut [156, 157]) J' J ∧ J' 156 3 = J 156 3))) (zX n 0 zN)) 0 0 n J1 8 [some (.ref 156), some (zi s), some (zi t), some (zi a), some (zi b), some (zi k), d6] [] := by
    intro f9
    induction f9 with
    | zero => intro a b k d6 J1 hm9; exact absurd hm9 (Nat.not_lt_zero _)
    | succ f9 ih8 =>
      intro a b k d6 J1 hm8 hk ha hb fr f3
      refine tz_iload (pc := 8) dX4_isGreater_8 rfl ?_
      refine tz_bipush (pc := 10) dX4_isGreater_10 (by decide) ?_
      refine tz_icmp_ge (pc := 12) (tgt := 167) dX4_isGreater_12 (by decide) (by omega) (by decide) (fun h_12 => ?_) (fun h_12 => ?_)
      · refine tz_iconst (pc := 167) dX4_isGreater_167 ?_
        exact tz_zret (pc := 168) (z := 0) dX4_isGreater_168 rfl (Or.inl rfl) (Nat.le_of_ble_eq_true rfl) (Nat.le_of_ble_eq_true rfl) ⟨Nat.le_refl _, Nat.le_add_right _ _⟩ ⟨_, rfl, (by decide), (by first | exact ⟨by omega, f2.tr fr, k2.trans f3⟩ | exact ⟨by omega, fr, f3⟩)⟩
      · refine tz_iload_n (pc := 15) dX4_isGreater_15 rfl rfl ?_
        refine tz_iload (pc := 16) dX4_isGreater_16 rfl ?_
        refine tz_icmp_eq (pc := 18) (tgt := 167) dX4_isGreater_18 (by decide) (by omega) (by omega) (fun h_18 => ?_) (fun h_18 => ?_)
        · refine tz_iconst (pc := 167) dX4_isGreater_167 ?_
          exact tz_zret (pc := 168) (z := 0) dX4_isGreater_168 rfl (Or.inl rfl) (Nat.le_of_ble_eq_true rfl) (Nat.le_of_ble_eq_true rfl) ⟨Nat.le_refl _, Nat.le_add_right _ _⟩ ⟨_, rfl, (by decide), (by first | exact ⟨by omega, f2.tr fr, k2.trans f3⟩ | exact ⟨by omega, fr, f3⟩)⟩
        · refine tz_aload_n (pc := 21) dX4_isGreater_21 rfl rfl ?_
          refine tz_iload_n (pc := 22) dX4_isGreater_22 rfl rfl ?_
          refine tz_iload (pc := 23) dX4_isGreater_23 rfl ?_
          refine tz_cV (pc := 25) (c_weighBoth hl n _ _ _ (by omega) (by omega) m (C.of (fun c hc => fr c (by simp [zbut]; omega))) ha hb) vl_X4_29 dX4_isGreater_25 o_156 rfl rfl (Nat.le_of_ble_eq_true rfl) ⟨(Nat.le_of_ble_eq_true rfl), (Nat.le_of_ble_eq_true rfl)⟩ rfl rfl (Nat.le_of_ble_eq_true rfl) (Nat.le_of_ble_eq_true rfl) (fun r9 J_25 hq9 => ?_)
          obtain ⟨rfl, f2, k2⟩ := hq9
          refine tz_aload_n (pc := 28) dX4_isGreater_28 rfl rfl ?_
          refine tz_cV (pc := 29) (c_lacks hl n _) vl_X4_33 dX4_isGreater_29 o_156 rfl rfl (Nat.le_of_ble_eq_true rfl) ⟨(Nat.le_of_ble_eq_true rfl), (Nat.le_of_ble_eq_true rfl)⟩ rfl rfl (Nat.le_of_ble_eq_true rfl) (Nat.le_of_ble_eq_true rfl) (fun r9 J_29 hq9 => ?_)
          obtain ⟨z_29, rfl, hz_29, rfl, hz⟩ := hq9
          refine tz_if_ne (pc := 32) (tgt := 42) dX4_isGreater_32 (by decide) (by omega) (fun h_32 => ?_) (fun h_32 => ?_)
          · refine tz_iconst (pc := 42) dX4_isGreater_42 ?_
            exact tz_zret (pc := 43) (z := 0) dX4_isGreater_43 rfl (Or.inl rfl) (Nat.le_of_ble_eq_true rfl) (Nat.le_of_ble_eq_true rfl) ⟨Nat.le_refl _, Nat.le_add_right _ _⟩ ⟨_, rfl, (by decide), (by first | exact ⟨by omega, f2.tr fr, k2.trans f3⟩ | exact ⟨by omega, fr, f3⟩)⟩
          · refine tz_aload_n (pc := 35) dX4_isGreater_35 rfl rfl ?_
            refine tz_fI (pc := 36) (kz := 2) (v := (J_25 156 2)) dX4_isGreater_36 fl_X4_15 i_156_2 rfl rfl (fun r_36 => ?_)
            refine tz_if_ge (pc := 39) (tgt := 44) dX4_isGreater_39 (by decide) (by omega) (fun h_39 => ?_) (fun h_39 => ?_)
            · refine tz_aload_n (pc := 44) dX4_isGreater_44 rfl rfl ?_
              refine tz_fI (pc := 45) (kz := 2) (v := (J_25 156 2)) dX4_isGreater_45 fl_X4_15 i_156_2 rfl rfl (fun r_45 => ?_)
              refine tz_if_gt (pc := 48) (tgt := 63) dX4_isGreater_48 (by decide) (by omega) (fun h_48 => ?_) (fun h_48 => ?_)
              · refine tz_iconst (pc := 63) dX4_isGreater_63 ?_
                exact tz_zret (pc := 64) (z := 1) dX4_isGreater_64 rfl (Or.inr rfl) (Nat.le_of_ble_eq_true rfl) (Nat.le_of_ble_eq_true rfl) ⟨Nat.le_refl _, Nat.le_add_right _ _⟩ ⟨_, rfl, (by decide), (by first | exact ⟨by omega, f2.tr fr, k2.trans f3⟩ | exact ⟨by omega, fr, f3⟩)⟩
              · refine tz_aload_n (pc := 51) dX4_isGreater_51 rfl rfl ?_
                refine tz_fR (pc := 52) dX4_isGreater_52 fl_X4_25 r_156_0 ?_
                refine tz_iload (pc := 55) dX4_isGreater_55 rfl ?_
                refine tz_cV (pc := 57) (c_isVar hl n _ _ (by omega) (by omega)) vl_X4_37 dX4_isGreater_57 o_6 rfl rfl (Nat.le_of_ble_eq_true rfl) ⟨(Nat.le_of_ble_eq_true rfl), (Nat.le_of_ble_eq_true rfl)⟩ rfl rfl (Nat.le_of_ble_eq_true rfl) (Nat.le_of_ble_eq_true rfl) (fun r9 J_57 hq9 => ?_)
                obtain ⟨z_57, rfl, hz_57, rfl, rfl⟩ := hq9
                by_cases hw_60 : J_25 7 b < 0
                · rw [show (if J_25 7 b < 0 then 1 else 0 : Int) = 1 from if_pos hw_60]
                  refine tz_if_eqF (pc := 60) (tgt := 65) (by decide) dX4_isGreater_60 (by decide) (by decide) ?_
                  refine tz_iconst (pc := 63) dX4_isGreater_63 ?_
                  exact tz_zret (pc := 64) (z := 1) dX4_isGreater_64 rfl (Or.inr rfl) (Nat.le_of_ble_eq_true rfl) (Nat.le_of_ble_eq_true rfl) ⟨Nat.le_refl _, Nat.le_add_right _ _⟩ ⟨_, rfl, (by decide), (by first | exact ⟨by omega, f2.tr fr, k2.trans f3⟩ | exact ⟨by omega, fr, f3⟩)⟩
                · rw [show (if J_25 7 b < 0 then 1 else 0 : Int) = 0 from if_neg hw_60]
                  refine tz_if_eqT (pc := 60) (tgt := 65) (by decide) dX4_isGreater_60 (by decide) (by decide) ?_
                  refine tz_aload_n (pc := 65) dX4_isGreater_65 rfl rfl ?_
                  refine tz_fR (pc := 66) dX4_isGreater_66 fl_X4_25 r_156_0 ?_
                  refine tz_iload_n (pc := 69) dX4_isGreater_69 rfl rfl ?_
                  refine tz_cV (pc := 70) (c_isVar hl n _ _ (by omega) (by omega)) vl_X4_37 dX4_isGreater_70 o_6 rfl rfl (Nat.le_of_ble_eq_true rfl) ⟨(Nat.le_of_ble_eq_true rfl), (Nat.le_of_ble_eq_true rfl)⟩ rfl rfl (Nat.le_of_ble_eq_true rfl) (Nat.le_of_ble_eq_true rfl) (fun r9 J_70 hq9 => ?_)
                  obtain ⟨z_70, rfl, hz_70, rfl, rfl⟩ := hq9
                  by_cases hw_73 : J_25 7 a < 0
                  · rw [show (if J_25 7 a < 0 then 1 else 0 : Int) = 1 from if_pos hw_73]
                    refine tz_if_eqF (pc := 73) (tgt := 78) (by decide) dX4_isGreater_73 (by decide) (by decide) ?_
                    refine tz_iconst (pc := 76) dX4_isGreater_76 ?_
                    exact tz_zret (pc := 77) (z := 0) dX4_isGreater_77 rfl (Or.inl rfl) (Nat.le_of_ble_eq_true rfl) (Nat.le_of_ble_eq_true rfl) ⟨Nat.le_refl _, Nat.le_add_right _ _⟩ ⟨_, rfl, (by decide), (by first | exact ⟨by omega, f2.tr fr, k2.trans f3⟩ | exact ⟨by omega, fr, f3⟩)⟩
                  · rw [show (if J_25 7 a < 0 then 1 else 0 : Int) = 0 from if_neg hw_73]
                    refine tz_if_eqT (pc := 73) (tgt := 78) (by decide) dX4_isGreater_73 (by decide) (by decide) ?_
                    refine tz_aload_n (pc := 78) dX4_isGreater_78 rfl rfl ?_
                    refine tz_fR (pc := 79) dX4_isGreater_79 fl_X4_25 r_156_0 ?_
                    refine tz_fR (pc := 82) dX4_isGreater_82 fl_X4_43 r_6_1 ?_
                    refine tz_iload_n (pc := 85) dX4_isGreater_85 rfl rfl ?_
                    refine tz_aL (pc := 86) (z := a) (v := (J 7 a)) dX4_isGreater_86 a_7 rfl (by omega) (Eq.trans (congrFun (f2 7 rfl) a) (Eq.trans (congrFun (fr 7 rfl) a) rfl)) (fun r_86 => ?_)
                    refine tz_aload_n (pc := 87) dX4_isGreater_87 rfl rfl ?_
                    refine tz_fR (pc := 88) dX4_isGreater_88 fl_X4_25 r_156_0 ?_
                    refine tz_fR (pc := 91) dX4_isGreater_91 fl_X4_43 r_6_1 ?_
                    refine tz_iload (pc := 94) dX4_isGreater_94 rfl ?_
                    refine tz_aL (pc := 96) (z := b) (v := (J 7 b)) dX4_isGreater_96 a_7 rfl (by omega) (Eq.trans (congrFun (f2 7 rfl) b) (Eq.trans (congrFun (fr 7 rfl) b) rfl)) (fun r_96 => ?_)
                    refine tz_icmp_eq (pc := 97) (tgt := 128) dX4_isGreater_97 (by decide) (by omega) (by omega) (fun h_97 => ?_) (fun h_97 => ?_)
                    · refine tz_aload_n (pc := 128) dX4_isGreater_128 rfl rfl ?_
                      refine tz_iload_n (pc := 129) dX4_isGreater_129 rfl rfl ?_
                      refine tz_iload (pc := 130) dX4_isGreater_130 rfl ?_
                      have C2 : CT J_25 m := C.of (fun c hc => (f2 c (by simp [zbut]; omega)).trans (fr c (by simp [zbut]; omega)))
                      have e7 : J_25 7 = J 7 := (f2 7 rfl).trans (fr 7 rfl)
                      have hq := C2.pos ha hb (by rw [e7]; omega) (by omega)
                      have e8 := C2.arh ha hb (by rw [e7]; omega)
                      have ha8 := (C2.ar ha.1 ha.2).1
                      refine tz_cV (pc := 132) (c_unlikeArg hl n _ _ _ (by omega) (by omega) m C2 ha hb hq) vl_X4_46 dX4_isGreater_132 o_156 rfl rfl (Nat.le_of_ble_eq_true rfl) ⟨(Nat.le_of_ble_eq_true rfl), (Nat.le_of_ble_eq_true rfl)⟩ rfl rfl (Nat.le_of_ble_eq_true rfl) (Nat.le_of_ble_eq_true rfl) (fun r9 J_132 hq9 => ?_)
                      obtain ⟨z_132, rfl, hz_132, rfl, hz1, hz2⟩ := hq9
                      have g1 := (C2.arg (t := a) (i := z_132) (by omega) (by omega) (by omega) (by omega)).1
                      have g2 := (C2.arg (t := b) (i := z_132) (by omega) (by omega) (by omega) (by omega)).1
                      refine tz_istore (pc := 135) (L2 := [_, _, _, _, _, _, _]) dX4_isGreater_135 (by decide) rfl ?_
                      refine tz_aload_n (pc := 137) dX4_isGreater_137 rfl rfl ?_
                      refine tz_fR (pc := 138) dX4_isGreater_138 fl_X4_25 r_156_0 ?_
                      refine tz_iload_n (pc := 141) dX4_isGreater_141 rfl rfl ?_
                      refine tz_iload (pc := 142) dX4_isGreater_142 rfl ?_
                      refine tz_cV (pc := 144) (c_arg hl n _ _ _ (by omega) (by omega) (by omega)) vl_X4_50 dX4_isGreater_144 o_6 rfl rfl (Nat.le_of_ble_eq_true rfl) ⟨(Nat.le_of_ble_eq_true rfl), (Nat.le_of_ble_eq_true rfl)⟩ rfl rfl (Nat.le_of_ble_eq_true rfl) (Nat.le_of_ble_eq_true rfl) (fun r9 J_144 hq9 => ?_)
                      obtain ⟨z_144, rfl, hz_144, rfl, rfl⟩ := hq9
                      refine tz_istore_n (pc := 147) (L2 := [_, _, _, _, _, _, _]) dX4_isGreater_147 rfl (by decide) rfl ?_
                      refine tz_aload_n (pc := 148) dX4_isGreater_148 rfl rfl ?_
                      refine tz_fR (pc := 149) dX4_isGreater_149 fl_X4_25 r_156_0 ?_
                      refine tz_iload (pc := 152) dX4_isGreater_152 rfl ?_
                      refine tz_iload (pc := 154) dX4_isGreater_154 rfl ?_
                      refine tz_cV (pc := 156) (c_arg hl n _ _ _ (by omega) (by omega) (by omega)) vl_X4_50 dX4_isGreater_156 o_6 rfl rfl (Nat.le_of_ble_eq_true rfl) ⟨(Nat.le_of_ble_eq_true rfl), (Nat.le_of_ble_eq_true rfl)⟩ rfl rfl (Nat.le_of_ble_eq_true rfl) (Nat.le_of_ble_eq_true rfl) (fun r9 J_156 hq9 => ?_)
                      obtain ⟨z_156, rfl, hz_156, rfl, rfl⟩ := hq9
                      refine tz_istore (pc := 159) (L2 := [_, _, _, _, _, _, _]) dX4_isGreater_159 (by decide) rfl ?_
                      refine tz_iinc (pc := 161) (z := k + 1) (L2 := [_, _, _, _, _, _, _]) dX4_isGreater_161 rfl (by omega) rfl ?_
                      refine tz_goto (pc := 164) (tgt := 8) dX4_isGreater_164 (by decide) ?_
                      exact ih8 _ _ (k + 1) _ _ (by omega) (by omega) (by omega) (by omega) (f2.tr fr) (k2.trans f3)
                    · refine tz_aload_n (pc := 100) dX4_isGreater_100 rfl rfl ?_
                      refine tz_fR (pc := 101) dX4_isGreater_101 fl_X4_25 r_156_0 ?_
                      refine tz_fR (pc := 104) dX4_isGreater_104 fl_X4_43 r_6_1 ?_
                      refine tz_iload_n (pc := 107) dX4_isGreater_107 rfl rfl ?_
                      refine tz_aL (pc := 108) (z := a) (v := (J 7 a)) dX4_isGreater_108 a_7 rfl (by omega) (Eq.trans (congrFun (f2 7 rfl) a) (Eq.trans (congrFun (fr 7 rfl) a) rfl)) (fun r_108 => ?_)
                      refine tz_aload_n (pc := 109) dX4_isGreater_109 rfl rfl ?_
                      refine tz_fR (pc := 110) dX4_isGreater_110 fl_X4_25 r_156_0 ?_
                      refine tz_fR (pc := 113) dX4_isGreater_113 fl_X4_43 r_6_1 ?_
                      refine tz_iload (pc := 116) dX4_isGreater_116 rfl ?_
                      refine tz_aL (pc := 118) (z := b) (v := (J 7 b)) dX4_isGreater_118 a_7 rfl (by omega) (Eq.trans (congrFun (f2 7 rfl) b) (Eq.trans (congrFun (fr 7 rfl) b) rfl)) (fun r_118 => ?_)
                      refine tz_icmp_le (pc := 119) (tgt := 126) dX4_isGreater_119 (by decide) (by omega) (by omega) (fun h_119 => ?_) (fun h_119 => ?_)
                      · refine tz_iconst (pc := 126) dX4_isGreater_126 ?_
                        exact tz_zret (pc := 127) (z := 0) dX4_isGreater_127 rfl (Or.inl rfl) (Nat.le_of_ble_eq_true rfl) (Nat.le_of_ble_eq_true rfl) ⟨Nat.le_refl _, Nat.le_add_right _ _⟩ ⟨_, rfl, (by decide), (by first | exact ⟨by omega, f2.tr fr, k2.trans f3⟩ | exact ⟨by omega, fr, f3⟩)⟩
                      · refine tz_iconst (pc := 122) dX4_isGreater_122 ?_
                        refine tz_goto (pc := 123) (tgt := 127) dX4_isGreater_123 (by decide) ?_
                        exact tz_zret (pc := 127) (z := 1) dX4_isGreater_127 rfl (Or.inr rfl) (Nat.le_of_ble_eq_true rfl) (Nat.le_of_ble_eq_true rfl) ⟨Nat.le_refl _, Nat.le_add_right _ _⟩ ⟨_, rfl, (by decide), (by first | exact ⟨by omega, f2.tr fr, k2.trans f3⟩ | exact ⟨by omega, fr, f3⟩)⟩
            · refine tz_iconst (pc := 42) dX4_isGreater_42 ?_
              exact tz_zret (pc := 43) (z := 0) dX4_isGreater_43 rfl (Or.inl rfl) (Nat.le_of_ble_eq_true rfl) (Nat.le_of_ble_eq_true rfl) ⟨Nat.le_refl _, Nat.le_add_right _ _⟩ ⟨_, rfl, (by decide), (by first | exact ⟨by omega, f2.tr fr, k2.trans f3⟩ | exact ⟨by omega, fr, f3⟩)⟩
  exact loop8 _ _ _ 0 none _ (Nat.lt_succ_self _) (by omega) hs ht zOf.rf rfl

end
