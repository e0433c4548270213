set_option maxHeartbeats 4000000 in
set_option maxRecDepth 100000 in
theorem c_rollBack {l : Launch} {G : tb_G} (hl : l.stackTraces = false) (n : Nat) (J : zJ)   (m : Int) (C : CT J m) (hm : J 6 12 = m) (hx : 0 ≤ J 61 0 ∧ J 61 0 ≤ m) : tz_Ok l G M_X0_rollBack 4 0 0 [.ref 5] n J (zqv (fun J' => zOf (zbut [6, 16, 19]) J' J ∧ J' 19 = zcp J 61 19 0 0 61 19 ∧ J' 6 12 = J 61 0 ∧ CT J' (J 61 0))) zN := by
  refine tz_Ok.of hl (by decide +kernel) rfl (tb_c1 rfl) (Nat.le_of_ble_eq_true rfl) ?_
  show tz_At l G M_X0_rollBack (tb_rm 4 0 0) none (tb_ZM G 0 0 (zQ n 0 (zqv (fun J' => zOf (zbut [6, 16, 19]) J' J ∧ J' 19 = zcp J 61 19 0 0 61 19 ∧ J' 6 12 = J 61 0 ∧ CT J' (J 61 0)))) (zX n 0 zN)) 0 0 n J 0 [some (.ref 5)] []
  refine tz_aload_n (pc := 0) dX0_rollBack_0 rfl rfl ?_
  refine tz_aload_n (pc := 1) dX0_rollBack_1 rfl rfl ?_
  refine tz_fR (pc := 2) dX0_rollBack_2 fl_X0_18 r_5_3 ?_
  refine tz_cV (pc := 5) (c_takeBack hl n _ 61 m a_61 (by decide) C hm hx) vl_X0_54 dX0_rollBack_5 o_5 rfl rfl (Nat.le_of_ble_eq_true rfl) ⟨(Nat.le_of_ble_eq_true rfl), (Nat.le_of_ble_eq_true rfl)⟩ rfl rfl (Nat.le_of_ble_eq_true rfl) (Nat.le_of_ble_eq_true rfl) (fun r9 J_5 hq9 => ?_)
  obtain ⟨rfl, f1⟩ := hq9
  exact tz_vret (pc := 8) dX0_rollBack_8 rfl (Nat.le_of_ble_eq_true rfl) (Nat.le_of_ble_eq_true rfl) ⟨Nat.le_refl _, Nat.le_add_right _ _⟩ ⟨rfl, f1⟩

set_option maxHeartbeats 4000000 in
set_option maxRecDepth 100000 in
theorem c_undoN {l : Launch} {G : tb_G} (hl : l.stackTraces = false) (n : Nat) (J : zJ)   (m : Int) (h6 : 0 < J 5 6 ∧ J 5 6 ≤ 40) (h5 : 0 ≤ J 5 5 ∧ J 5 5 < 40) (C : CT J m) (hm : J 6 12 = m) (hx : 0 ≤ J (zU ((J 5 5 + (J 5 6 - 1)) % 40)) 0 ∧ J (zU ((J 5 5 + (J 5 6 - 1)) % 40)) 0 ≤ m) : tz_Ok l G M_X0_undoLast 4 0 0 [.ref 5] n J (zqi (fun z J' => J 5 6 - 1 = z ∧ zOf (zbut [6, 16, 19]) J' (zup J 5 6 (J 5 6 - 1)) ∧ J' 19 = zcp (zup J 5 6 (J 5 6 - 1)) (zU ((J 5 5 + (J 5 6 - 1)) % 40)) 19 0 0 61 19 ∧ J' 6 12 = (zup J 5 6 (J 5 6 - 1)) (zU ((J 5 5 + (J 5 6 - 1)) % 40)) 0 ∧ CT J' ((zup J 5 6 (J 5 6 - 1)) (zU ((J 5 5 + (J 5 6 - 1)) % 40)) 0))) zN := by
  refine tz_Ok.of hl (by decide +kernel) rfl (tb_c1 rfl) (Nat.le_of_ble_eq_true rfl) ?_
  show tz_At l G M_X0_undoLast (tb_rm 4 0 0) none (tb_ZM G 0 0 (zQ n 0 (zqi (fun z J' => J 5 6 - 1 = z ∧ zOf (zbut [6, 16, 19]) J' (zup J 5 6 (J 5 6 - 1)) ∧ J' 19 = zcp (zup J 5 6 (J 5 6 - 1)) (zU ((J 5 5 + (J 5 6 - 1)) % 40)) 19 0 0 61 19 ∧ J' 6 12 = (zup J 5 6 (J 5 6 - 1)) (zU ((J 5 5 + (J 5 6 - 1)) % 40)) 0 ∧ CT J' ((zup J 5 6 (J 5 6 - 1)) (zU ((J 5 5 + (J 5 6 - 1)) % 40)) 0)))) (zX n 0 zN)) 0 0 n J 0 [some (.ref 5)] []
  have hu := zU_r (i := (J 5 5 + (J 5 6 - 1)) % 40) (by omega)
  refine tz_aload_n (pc := 0) dX0_undoLast_0 rfl rfl ?_
  refine tz_fI (pc := 1) (kz := 6) (v := (J 5 6)) dX0_undoLast_1 fl_X0_29 i_5_6 rfl rfl (fun r_1 => ?_)
  refine tz_if_neT (pc := 4) (tgt := 9) (by omega) dX0_undoLast_4 (by decide) (by omega) ?_
  refine tz_aload_n (pc := 9) dX0_undoLast_9 rfl rfl ?_
  refine tz_dup (pc := 10) dX0_undoLast_10 rfl ?_
  refine tz_fI (pc := 11) (kz := 6) (v := (J 5 6)) dX0_undoLast_11 fl_X0_29 i_5_6 rfl rfl (fun r_11 => ?_)
  refine tz_iconst (pc := 14) dX0_undoLast_14 ?_
  refine tz_isub (pc := 15) (v := (J 5 6) - 1) dX0_undoLast_15 rfl ?_
  refine tz_pI (pc := 16) (kz := 6) dX0_undoLast_16 fl_X0_29 i_5_6 rfl rfl (by omega) ?_
  refine tz_aload_n (pc := 19) dX0_undoLast_19 rfl rfl ?_
  refine tz_aload_n (pc := 20) dX0_undoLast_20 rfl rfl ?_
  refine tz_fR (pc := 21) dX0_undoLast_21 fl_X0_13 r_5_2 ?_
  refine tz_aload_n (pc := 24) dX0_undoLast_24 rfl rfl ?_
  refine tz_fI (pc := 25) (kz := 5) (v := (J 5 5)) dX0_undoLast_25 fl_X0_25 i_5_5 rfl rfl (fun r_25 => ?_)
  refine tz_aload_n (pc := 28) dX0_undoLast_28 rfl rfl ?_
  refine tz_fI (pc := 29) (kz := 6) (v := ((J 5 6) - 1)) dX0_undoLast_29 fl_X0_29 i_5_6 rfl rfl (fun r_29 => ?_)
  refine tz_iadd (pc := 32) (v := (J 5 5) + ((J 5 6) - 1)) dX0_undoLast_32 rfl ?_
  refine tz_bipush (pc := 33) dX0_undoLast_33 (by decide) ?_
  refine tz_irem (pc := 35) (a := ((J 5 5) + ((J 5 6) - 1))) (b := 40) (v := (((J 5 5) + ((J 5 6) - 1)) % 40)) dX0_undoLast_35 (by omega) (by omega) rfl ?_
  refine tz_aR (pc := 36) (z := (((J 5 5) + ((J 5 6) - 1)) % 40)) (r := zU ((J 5 5 + (J 5 6 - 1)) % 40)) dX0_undoLast_36 (zU_b (by omega)) rfl (by omega) ?_
  refine tz_cV (pc := 37) (c_takeBack hl n _ (zU ((J 5 5 + (J 5 6 - 1)) % 40)) m (zU_a (by omega)) (by omega) (C.of (fun c hc => zup_nc (by omega))) hm (by rw [zup_nc (by omega)]; exact hx)) vl_X0_54 dX0_undoLast_37 o_5 rfl rfl (Nat.le_of_ble_eq_true rfl) ⟨(Nat.le_of_ble_eq_true rfl), (Nat.le_of_ble_eq_true rfl)⟩ rfl rfl (Nat.le_of_ble_eq_true rfl) (Nat.le_of_ble_eq_true rfl) (fun r9 J_37 hq9 => ?_)
  obtain ⟨rfl, f1⟩ := hq9
  refine tz_aload_n (pc := 40) dX0_undoLast_40 rfl rfl ?_
  refine tz_fI (pc := 41) (kz := 6) (v := (J 5 6 - 1)) dX0_undoLast_41 fl_X0_29 i_5_6 rfl ((congrFun (f1.1 5 rfl) 6).trans zup_at) (fun r_41 => ?_)
  exact tz_iret (pc := 44) (z := (J 5 6 - 1)) dX0_undoLast_44 rfl (Nat.le_of_ble_eq_true rfl) (Nat.le_of_ble_eq_true rfl) ⟨Nat.le_refl _, Nat.le_add_right _ _⟩ ⟨_, rfl, (by omega), ⟨rfl, f1⟩⟩

set_option maxHeartbeats 4000000 in
set_option maxRecDepth 100000 in
theorem c_syTake121 {l : Launch} {G : tb_G} (hl : l.stackTraces = false) (n : Nat) (J : zJ)     : tz_Ok l G M_X8_takeFrom 1 0 0 [.ref 121, .ref 1] n J (zqv (fun J' => zup (zcp (zcp (zcp (J) 2 122 0 0 10) 3 123 0 0 10) 4 124 0 0 10) 121 3 (J 1 3) = J')) zN := by
  refine tz_Ok.of hl (by decide +kernel) rfl (tb_c1 rfl) (Nat.le_of_ble_eq_true rfl) ?_
  show tz_At l G M_X8_takeFrom (tb_rm 1 0 0) none (tb_ZM G 0 0 (zQ n 0 (zqv (fun J' => zup (zcp (zcp (zcp (J) 2 122 0 0 10) 3 123 0 0 10) 4 124 0 0 10) 121 3 (J 1 3) = J'))) (zX n 0 zN)) 0 0 n J 0 [some (.ref 121), some (.ref 1)] []
  refine tz_aload_n (pc := 0) dX8_takeFrom_0 rfl rfl ?_
  refine tz_fR (pc := 1) dX8_takeFrom_1 fl_X8_9 r_1_0 ?_
  refine tz_iconst (pc := 4) dX8_takeFrom_4 ?_
  refine tz_aload_n (pc := 5) dX8_takeFrom_5 rfl rfl ?_
  refine tz_fR (pc := 6) dX8_takeFrom_6 fl_X8_9 r_121_0 ?_
  refine tz_iconst (pc := 9) dX8_takeFrom_9 ?_
  refine tz_bipush (pc := 10) dX8_takeFrom_10 (by decide) ?_
  refine tz_cp (pc := 12) (sp := 0) (dp := 0) (ln := 10) dX8_takeFrom_12 ml_X8_25 a_2 a_122 rfl rfl (by decide) (Nat.le_of_ble_eq_true rfl) (by decide +kernel) ?_
  refine tz_aload_n (pc := 15) dX8_takeFrom_15 rfl rfl ?_
  refine tz_fR (pc := 16) dX8_takeFrom_16 fl_X8_15 r_1_1 ?_
  refine tz_iconst (pc := 19) dX8_takeFrom_19 ?_
  refine tz_aload_n (pc := 20) dX8_takeFrom_20 rfl rfl ?_
  refine tz_fR (pc := 21) dX8_takeFrom_21 fl_X8_15 r_121_1 ?_
  refine tz_iconst (pc := 24) dX8_takeFrom_24 ?_
  refine tz_bipush (pc := 25) dX8_takeFrom_25 (by decide) ?_
  refine tz_cp (pc := 27) (sp := 0) (dp := 0) (ln := 10) dX8_takeFrom_27 ml_X8_25 a_3 a_123 rfl rfl (by decide) (Nat.le_of_ble_eq_true rfl) (by decide +kernel) ?_
  refine tz_aload_n (pc := 30) dX8_takeFrom_30 rfl rfl ?_
  refine tz_fR (pc := 31) dX8_takeFrom_31 fl_X8_18 r_1_2 ?_
  refine tz_iconst (pc := 34) dX8_takeFrom_34 ?_
  refine tz_aload_n (pc := 35) dX8_takeFrom_35 rfl rfl ?_
  refine tz_fR (pc := 36) dX8_takeFrom_36 fl_X8_18 r_121_2 ?_
  refine tz_iconst (pc := 39) dX8_takeFrom_39 ?_
  refine tz_bipush (pc := 40) dX8_takeFrom_40 (by decide) ?_
  refine tz_cp (pc := 42) (sp := 0) (dp := 0) (ln := 10) dX8_takeFrom_42 ml_X8_25 a_4 a_124 rfl rfl (by decide) (Nat.le_of_ble_eq_true rfl) (by decide +kernel) ?_
  refine tz_aload_n (pc := 45) dX8_takeFrom_45 rfl rfl ?_
  refine tz_aload_n (pc := 46) dX8_takeFrom_46 rfl rfl ?_
  refine tz_fI (pc := 47) (kz := 3) (v := (J 1 3)) dX8_takeFrom_47 fl_X8_21 i_1_3 rfl rfl (fun r_47 => ?_)
  refine tz_pI (pc := 50) (kz := 3) dX8_takeFrom_50 fl_X8_21 i_121_3 rfl rfl (by omega) ?_
  exact tz_vret (pc := 53) dX8_takeFrom_53 rfl (Nat.le_of_ble_eq_true rfl) (Nat.le_of_ble_eq_true rfl) ⟨Nat.le_refl _, Nat.le_add_right _ _⟩ ⟨rfl, rfl⟩

set_option maxHeartbeats 4000000 in
set_option maxRecDepth 100000 in
theorem c_syTake1 {l : Launch} {G : tb_G} (hl : l.stackTraces = false) (n : Nat) (J : zJ)     : tz_Ok l G M_X8_takeFrom 1 0 0 [.ref 1, .ref 121] n J (zqv (fun J' => zup (zcp (zcp (zcp (J) 122 2 0 0 10) 123 3 0 0 10) 124 4 0 0 10) 1 3 (J 121 3) = J')) zN := by
  refine tz_Ok.of hl (by decide +kernel) rfl (tb_c1 rfl) (Nat.le_of_ble_eq_true rfl) ?_
  show tz_At l G M_X8_takeFrom (tb_rm 1 0 0) none (tb_ZM G 0 0 (zQ n 0 (zqv (fun J' => zup (zcp (zcp (zcp (J) 122 2 0 0 10) 123 3 0 0 10) 124 4 0 0 10) 1 3 (J 121 3) = J'))) (zX n 0 zN)) 0 0 n J 0 [some (.ref 1), some (.ref 121)] []
  refine tz_aload_n (pc := 0) dX8_takeFrom_0 rfl rfl ?_
  refine tz_fR (pc := 1) dX8_takeFrom_1 fl_X8_9 r_121_0 ?_
  refine tz_iconst (pc := 4) dX8_takeFrom_4 ?_
  refine tz_aload_n (pc := 5) dX8_takeFrom_5 rfl rfl ?_
  refine tz_fR (pc := 6) dX8_takeFrom_6 fl_X8_9 r_1_0 ?_
  refine tz_iconst (pc := 9) dX8_takeFrom_9 ?_
  refine tz_bipush (pc := 10) dX8_takeFrom_10 (by decide) ?_
  refine tz_cp (pc := 12) (sp := 0) (dp := 0) (ln := 10) dX8_takeFrom_12 ml_X8_25 a_122 a_2 rfl rfl (by decide) (Nat.le_of_ble_eq_true rfl) (by decide +kernel) ?_
  refine tz_aload_n (pc := 15) dX8_takeFrom_15 rfl rfl ?_
  refine tz_fR (pc := 16) dX8_takeFrom_16 fl_X8_15 r_121_1 ?_
  refine tz_iconst (pc := 19) dX8_takeFrom_19 ?_
  refine tz_aload_n (pc := 20) dX8_takeFrom_20 rfl rfl ?_
  refine tz_fR (pc := 21) dX8_takeFrom_21 fl_X8_15 r_1_1 ?_
  refine tz_iconst (pc := 24) dX8_takeFrom_24 ?_
  refine tz_bipush (pc := 25) dX8_takeFrom_25 (by decide) ?_
  refine tz_cp (pc := 27) (sp := 0) (dp := 0) (ln := 10) dX8_takeFrom_27 ml_X8_25 a_123 a_3 rfl rfl (by decide) (Nat.le_of_ble_eq_true rfl) (by decide +kernel) ?_
  refine tz_aload_n (pc := 30) dX8_takeFrom_30 rfl rfl ?_
  refine tz_fR (pc := 31) dX8_takeFrom_31 fl_X8_18 r_121_2 ?_
  refine tz_iconst (pc := 34) dX8_takeFrom_34 ?_
  refine tz_aload_n (pc := 35) dX8_takeFrom_35 rfl rfl ?_
  refine tz_fR (pc := 36) dX8_takeFrom_36 fl_X8_18 r_1_2 ?_
  refine tz_iconst (pc := 39) dX8_takeFrom_39 ?_
  refine tz_bipush (pc := 40) dX8_takeFrom_40 (by decide) ?_
  refine tz_cp (pc := 42) (sp := 0) (dp := 0) (ln := 10) dX8_takeFrom_42 ml_X8_25 a_124 a_4 rfl rfl (by decide) (Nat.le_of_ble_eq_true rfl) (by decide +kernel) ?_
  refine tz_aload_n (pc := 45) dX8_takeFrom_45 rfl rfl ?_
  refine tz_aload_n (pc := 46) dX8_takeFrom_46 rfl rfl ?_
  refine tz_fI (pc := 47) (kz := 3) (v := (J 121 3)) dX8_takeFrom_47 fl_X8_21 i_121_3 rfl rfl (fun r_47 => ?_)
  refine tz_pI (pc := 50) (kz := 3) dX8_takeFrom_50 fl_X8_21 i_1_3 rfl rfl (by omega) ?_
  exact tz_vret (pc := 53) dX8_takeFrom_53 rfl (Nat.le_of_ble_eq_true rfl) (Nat.le_of_ble_eq_true rfl) ⟨Nat.le_refl _, Nat.le_add_right _ _⟩ ⟨rfl, rfl⟩

set_option maxHeartbeats 4000000 in
set_option maxRecDepth 100000 in
theorem c_leTake76_18 {l : Launch} {G : tb_G} (hl : l.stackTraces = false) (n : Nat) (J : zJ)     : tz_Ok l G M_X1_takeFrom 1 0 0 [.ref 76, .ref 18] n J (zqv (fun J' => zcp J 19 77 0 0 61 = J')) zN := by
  refine tz_Ok.of hl (by decide +kernel) rfl (tb_c1 rfl) (Nat.le_of_ble_eq_true rfl) ?_
  show tz_At l G M_X1_takeFrom (tb_rm 1 0 0) none (tb_ZM G 0 0 (zQ n 0 (zqv (fun J' => zcp J 19 77 0 0 61 = J'))) (zX n 0 zN)) 0 0 n J 0 [some (.ref 76), some (.ref 18)] []
  refine tz_aload_n (pc := 0) dX1_takeFrom_0 rfl rfl ?_
  refine tz_fR (pc := 1) dX1_takeFrom_1 fl_X1_11 r_18_0 ?_
  refine tz_iconst (pc := 4) dX1_takeFrom_4 ?_
  refine tz_aload_n (pc := 5) dX1_takeFrom_5 rfl rfl ?_
  refine tz_fR (pc := 6) dX1_takeFrom_6 fl_X1_11 r_76_0 ?_
  refine tz_iconst (pc := 9) dX1_takeFrom_9 ?_
  refine tz_bipush (pc := 10) dX1_takeFrom_10 (by decide) ?_
  refine tz_cp (pc := 12) (sp := 0) (dp := 0) (ln := 61) dX1_takeFrom_12 ml_X1_25 a_19 a_77 rfl rfl (by decide) (Nat.le_of_ble_eq_true rfl) (by decide +kernel) ?_
  exact tz_vret (pc := 15) dX1_takeFrom_15 rfl (Nat.le_of_ble_eq_true rfl) (Nat.le_of_ble_eq_true rfl) ⟨Nat.le_refl _, Nat.le_add_right _ _⟩ ⟨rfl, rfl⟩

set_option maxHeartbeats 4000000 in
set_option maxRecDepth 100000 in
theorem c_leTake18_76 {l : Launch} {G : tb_G} (hl : l.stackTraces = false) (n : Nat) (J : zJ)     : tz_Ok l G M_X1_takeFrom 1 0 0 [.ref 18, .ref 76] n J (zqv (fun J' => zcp J 77 19 0 0 61 = J')) zN := by
  refine tz_Ok.of hl (by decide +kernel) rfl (tb_c1 rfl) (Nat.le_of_ble_eq_true rfl) ?_
  show tz_At l G M_X1_takeFrom (tb_rm 1 0 0) none (tb_ZM G 0 0 (zQ n 0 (zqv (fun J' => zcp J 77 19 0 0 61 = J'))) (zX n 0 zN)) 0 0 n J 0 [some (.ref 18), some (.ref 76)] []
  refine tz_aload_n (pc := 0) dX1_takeFrom_0 rfl rfl ?_
  refine tz_fR (pc := 1) dX1_takeFrom_1 fl_X1_11 r_76_0 ?_
  refine tz_iconst (pc := 4) dX1_takeFrom_4 ?_
  refine tz_aload_n (pc := 5) dX1_takeFrom_5 rfl rfl ?_
  refine tz_fR (pc := 6) dX1_takeFrom_6 fl_X1_11 r_18_0 ?_
  refine tz_iconst (pc := 9) dX1_takeFrom_9 ?_
  refine tz_bipush (pc := 10) dX1_takeFrom_10 (by decide) ?_
  refine tz_cp (pc := 12) (sp := 0) (dp := 0) (ln := 61) dX1_takeFrom_12 ml_X1_25 a_77 a_19 rfl rfl (by decide) (Nat.le_of_ble_eq_true rfl) (by decide +kernel) ?_
  exact tz_vret (pc := 15) dX1_takeFrom_15 rfl (Nat.le_of_ble_eq_true rfl) (Nat.le_of_ble_eq_true rfl) ⟨Nat.le_refl _, Nat.le_add_right _ _⟩ ⟨rfl, rfl⟩

set_option maxHeartbeats 4000000 in
set_option maxRecDepth 100000 in
theorem c_leTake137_18 {l : Launch} {G : tb_G} (hl : l.stackTraces = false) (n : Nat) (J : zJ)     : tz_Ok l G M_X1_takeFrom 1 0 0 [.ref 137, .ref 18] n J (zqv (fun J' => zcp J 19 138 0 0 61 = J')) zN := by
  refine tz_Ok.of hl (by decide +kernel) rfl (tb_c1 rfl) (Nat.le_of_ble_eq_true rfl) ?_
  show tz_At l G M_X1_takeFrom (tb_rm 1 0 0) none (tb_ZM G 0 0 (zQ n 0 (zqv (fun J' => zcp J 19 138 0 0 61 = J'))) (zX n 0 zN)) 0 0 n J 0 [some (.ref 137), some (.ref 18)] []
  refine tz_aload_n (pc := 0) dX1_takeFrom_0 rfl rfl ?_
  refine tz_fR (pc := 1) dX1_takeFrom_1 fl_X1_11 r_18_0 ?_
  refine tz_iconst (pc := 4) dX1_takeFrom_4 ?_
  refine tz_aload_n (pc := 5) dX1_takeFrom_5 rfl rfl ?_
  refine tz_fR (pc := 6) dX1_takeFrom_6 fl_X1_11 r_137_0 ?_
  refine tz_iconst (pc := 9) dX1_takeFrom_9 ?_
  refine tz_bipush (pc := 10) dX1_takeFrom_10 (by decide) ?_
  refine tz_cp (pc := 12) (sp := 0) (dp := 0) (ln := 61) dX1_takeFrom_12 ml_X1_25 a_19 a_138 rfl rfl (by decide) (Nat.le_of_ble_eq_true rfl) (by decide +kernel) ?_
  exact tz_vret (pc := 15) dX1_takeFrom_15 rfl (Nat.le_of_ble_eq_true rfl) (Nat.le_of_ble_eq_true rfl) ⟨Nat.le_refl _, Nat.le_add_right _ _⟩ ⟨rfl, rfl⟩

set_option maxHeartbeats 4000000 in
set_option maxRecDepth 100000 in
theorem c_leTake18_137 {l : Launch} {G : tb_G} (hl : l.stackTraces = false) (n : Nat) (J : zJ)     : tz_Ok l G M_X1_takeFrom 1 0 0 [.ref 18, .ref 137] n J (zqv (fun J' => zcp J 138 19 0 0 61 = J')) zN := by
  refine tz_Ok.of hl (by decide +kernel) rfl (tb_c1 rfl) (Nat.le_of_ble_eq_true rfl) ?_
  show tz_At l G M_X1_takeFrom (tb_rm 1 0 0) none (tb_ZM G 0 0 (zQ n 0 (zqv (fun J' => zcp J 138 19 0 0 61 = J'))) (zX n 0 zN)) 0 0 n J 0 [some (.ref 18), some (.ref 137)] []
  refine tz_aload_n (pc := 0) dX1_takeFrom_0 rfl rfl ?_
  refine tz_fR (pc := 1) dX1_takeFrom_1 fl_X1_11 r_137_0 ?_
  refine tz_iconst (pc := 4) dX1_takeFrom_4 ?_
  refine tz_aload_n (pc := 5) dX1_takeFrom_5 rfl rfl ?_
  refine tz_fR (pc := 6) dX1_takeFrom_6 fl_X1_11 r_18_0 ?_
  refine tz_iconst (pc := 9) dX1_takeFrom_9 ?_
  refine tz_bipush (pc := 10) dX1_takeFrom_10 (by decide) ?_
  refine tz_cp (pc := 12) (sp := 0) (dp := 0) (ln := 61) dX1_takeFrom_12 ml_X1_25 a_138 a_19 rfl rfl (by decide) (Nat.le_of_ble_eq_true rfl) (by decide +kernel) ?_
  exact tz_vret (pc := 15) dX1_takeFrom_15 rfl (Nat.le_of_ble_eq_true rfl) (Nat.le_of_ble_eq_true rfl) ⟨Nat.le_refl _, Nat.le_add_right _ _⟩ ⟨rfl, rfl⟩

set_option maxHeartbeats 4000000 in
set_option maxRecDepth 100000 in
theorem c_teTake64_6 {l : Launch} {G : tb_G} (hl : l.stackTraces = false) (n : Nat) (J : zJ)    (h0 : 0 ≤ J 6 12 ∧ J 6 12 ≤ 400) : tz_Ok l G M_X9_takeFrom 1 0 0 [.ref 64, .ref 6] n J (zqv (fun J' => zcp (zcp (zcp (zcp (zcp (zcp (zcp (zcp (zcp (zcp (zup J 64 12 (J 6 12)) 7 65 0 0 (J 6 12)) 8 66 0 0 (J 6 12)) 9 67 0 0 (J 6 12 * 3)) 10 68 0 0 (J 6 12)) 11 69 0 0 (J 6 12)) 12 70 0 0 (J 6 12)) 13 71 0 0 (J 6 12)) 14 72 0 0 (J 6 12)) 15 73 0 0 (J 6 12)) 16 74 0 0 256 = J')) zN := by
  refine tz_Ok.of hl (by decide +kernel) rfl (tb_c1 rfl) (Nat.le_of_ble_eq_true rfl) ?_
  show tz_At l G M_X9_takeFrom (tb_rm 1 0 0) none (tb_ZM G 0 0 (zQ n 0 (zqv (fun J' => zcp (zcp (zcp (zcp (zcp (zcp (zcp (zcp (zcp (zcp (zup J 64 12 (J 6 12)) 7 65 0 0 (J 6 12)) 8 66 0 0 (J 6 12)) 9 67 0 0 (J 6 12 * 3)) 10 68 0 0 (J 6 12)) 11 69 0 0 (J 6 12)) 12 70 0 0 (J 6 12)) 13 71 0 0 (J 6 12)) 14 72 0 0 (J 6 12)) 15 73 0 0 (J 6 12)) 16 74 0 0 256 = J'))) (zX n 0 zN)) 0 0 n J 0 [some (.ref 64), some (.ref 6)] []
  refine tz_aload_n (pc := 0) dX9_takeFrom_0 rfl rfl ?_
  refine tz_aload_n (pc := 1) dX9_takeFrom_1 rfl rfl ?_
  refine tz_fI (pc := 2) (kz := 12) (v := (J 6 12)) dX9_takeFrom_2 fl_X9_45 i_6_12 rfl rfl (fun r_2 => ?_)
  refine tz_pI (pc := 5) (kz := 12) dX9_takeFrom_5 fl_X9_45 i_64_12 rfl rfl (by omega) ?_
  refine tz_aload_n (pc := 8) dX9_takeFrom_8 rfl rfl ?_
  refine tz_fR (pc := 9) dX9_takeFrom_9 fl_X9_11 r_6_1 ?_
  refine tz_iconst (pc := 12) dX9_takeFrom_12 ?_
  refine tz_aload_n (pc := 13) dX9_takeFrom_13 rfl rfl ?_
  refine tz_fR (pc := 14) dX9_takeFrom_14 fl_X9_11 r_64_1 ?_
  refine tz_iconst (pc := 17) dX9_takeFrom_17 ?_
  refine tz_aload_n (pc := 18) dX9_takeFrom_18 rfl rfl ?_
  refine tz_fI (pc := 19) (kz := 12) (v := (J 6 12)) dX9_takeFrom_19 fl_X9_45 i_64_12 rfl rfl (fun r_19 => ?_)
  refine tz_cp (pc := 22) (sp := 0) (dp := 0) (ln := (J 6 12)) dX9_takeFrom_22 ml_X9_105 a_7 a_65 rfl rfl (by omega) (Nat.le_of_ble_eq_true rfl) (by decide +kernel) ?_
  refine tz_aload_n (pc := 25) dX9_takeFrom_25 rfl rfl ?_
  refine tz_fR (pc := 26) dX9_takeFrom_26 fl_X9_15 r_6_2 ?_
  refine tz_iconst (pc := 29) dX9_takeFrom_29 ?_
  refine tz_aload_n (pc := 30) dX9_takeFrom_30 rfl rfl ?_
  refine tz_fR (pc := 31) dX9_takeFrom_31 fl_X9_15 r_64_2 ?_
  refine tz_iconst (pc := 34) dX9_takeFrom_34 ?_
  refine tz_aload_n (pc := 35) dX9_takeFrom_35 rfl rfl ?_
  refine tz_fI (pc := 36) (kz := 12) (v := (J 6 12)) dX9_takeFrom_36 fl_X9_45 i_64_12 rfl rfl (fun r_36 => ?_)
  refine tz_cp (pc := 39) (sp := 0) (dp := 0) (ln := (J 6 12)) dX9_takeFrom_39 ml_X9_105 a_8 a_66 rfl rfl (by omega) (Nat.le_of_ble_eq_true rfl) (by decide +kernel) ?_
  refine tz_aload_n (pc := 42) dX9_takeFrom_42 rfl rfl ?_
  refine tz_fR (pc := 43) dX9_takeFrom_43 fl_X9_18 r_6_3 ?_
  refine tz_iconst (pc := 46) dX9_takeFrom_46 ?_
  refine tz_aload_n (pc := 47) dX9_takeFrom_47 rfl rfl ?_
  refine tz_fR (pc := 48) dX9_takeFrom_48 fl_X9_18 r_64_3 ?_
  refine tz_iconst (pc := 51) dX9_takeFrom_51 ?_
  refine tz_aload_n (pc := 52) dX9_takeFrom_52 rfl rfl ?_
  refine tz_fI (pc := 53) (kz := 12) (v := (J 6 12)) dX9_takeFrom_53 fl_X9_45 i_64_12 rfl rfl (fun r_53 => ?_)
  refine tz_iconst (pc := 56) dX9_takeFrom_56 ?_
  refine tz_imul (pc := 57) (v := (J 6 12) * 3) dX9_takeFrom_57 rfl ?_
  refine tz_cp (pc := 58) (sp := 0) (dp := 0) (ln := ((J 6 12) * 3)) dX9_takeFrom_58 ml_X9_105 a_9 a_67 rfl rfl (by omega) (Nat.le_of_ble_eq_true rfl) (by decide +kernel) ?_
  refine tz_aload_n (pc := 61) dX9_takeFrom_61 rfl rfl ?_
  refine tz_fR (pc := 62) dX9_takeFrom_62 fl_X9_21 r_6_4 ?_
  refine tz_iconst (pc := 65) dX9_takeFrom_65 ?_
  refine tz_aload_n (pc := 66) dX9_takeFrom_66 rfl rfl ?_
  refine tz_fR (pc := 67) dX9_takeFrom_67 fl_X9_21 r_64_4 ?_
  refine tz_iconst (pc := 70) dX9_takeFrom_70 ?_
  refine tz_aload_n (pc := 71) dX9_takeFrom_71 rfl rfl ?_
  refine tz_fI (pc := 72) (kz := 12) (v := (J 6 12)) dX9_takeFrom_72 fl_X9_45 i_64_12 rfl rfl (fun r_72 => ?_)
  refine tz_cp (pc := 75) (sp := 0) (dp := 0) (ln := (J 6 12)) dX9_takeFrom_75 ml_X9_105 a_10 a_68 rfl rfl (by omega) (Nat.le_of_ble_eq_true rfl) (by decide +kernel) ?_
  refine tz_aload_n (pc := 78) dX9_takeFrom_78 rfl rfl ?_
  refine tz_fR (pc := 79) dX9_takeFrom_79 fl_X9_24 r_6_5 ?_
  refine tz_iconst (pc := 82) dX9_takeFrom_82 ?_
  refine tz_aload_n (pc := 83) dX9_takeFrom_83 rfl rfl ?_
  refine tz_fR (pc := 84) dX9_takeFrom_84 fl_X9_24 r_64_5 ?_
  refine tz_iconst (pc := 87) dX9_takeFrom_87 ?_
  refine tz_aload_n (pc := 88) dX9_takeFrom_88 rfl rfl ?_
  refine tz_fI (pc := 89) (kz := 12) (v := (J 6 12)) dX9_takeFrom_89 fl_X9_45 i_64_12 rfl rfl (fun r_89 => ?_)
  refine tz_cp (pc := 92) (sp := 0) (dp := 0) (ln := (J 6 12)) dX9_takeFrom_92 ml_X9_105 a_11 a_69 rfl rfl (by omega) (Nat.le_of_ble_eq_true rfl) (by decide +kernel) ?_
  refine tz_aload_n (pc := 95) dX9_takeFrom_95 rfl rfl ?_
  refine tz_fR (pc := 96) dX9_takeFrom_96 fl_X9_27 r_6_6 ?_
  refine tz_iconst (pc := 99) dX9_takeFrom_99 ?_
  refine tz_aload_n (pc := 100) dX9_takeFrom_100 rfl rfl ?_
  refine tz_fR (pc := 101) dX9_takeFrom_101 fl_X9_27 r_64_6 ?_
  refine tz_iconst (pc := 104) dX9_takeFrom_104 ?_
  refine tz_aload_n (pc := 105) dX9_takeFrom_105 rfl rfl ?_
  refine tz_fI (pc := 106) (kz := 12) (v := (J 6 12)) dX9_takeFrom_106 fl_X9_45 i_64_12 rfl rfl (fun r_106 => ?_)
  refine tz_cp (pc := 109) (sp := 0) (dp := 0) (ln := (J 6 12)) dX9_takeFrom_109 ml_X9_105 a_12 a_70 rfl rfl (by omega) (Nat.le_of_ble_eq_true rfl) (by decide +kernel) ?_
  refine tz_aload_n (pc := 112) dX9_takeFrom_112 rfl rfl ?_
  refine tz_fR (pc := 113) dX9_takeFrom_113 fl_X9_30 r_6_7 ?_
  refine tz_iconst (pc := 116) dX9_takeFrom_116 ?_
  refine tz_aload_n (pc := 117) dX9_takeFrom_117 rfl rfl ?_
  refine tz_fR (pc := 118) dX9_takeFrom_118 fl_X9_30 r_64_7 ?_
  refine tz_iconst (pc := 121) dX9_takeFrom_121 ?_
  refine tz_aload_n (pc := 122) dX9_takeFrom_122 rfl rfl ?_
  refine tz_fI (pc := 123) (kz := 12) (v := (J 6 12)) dX9_takeFrom_123 fl_X9_45 i_64_12 rfl rfl (fun r_123 => ?_)
  refine tz_cp (pc := 126) (sp := 0) (dp := 0) (ln := (J 6 12)) dX9_takeFrom_126 ml_X9_105 a_13 a_71 rfl rfl (by omega) (Nat.le_of_ble_eq_true rfl) (by decide +kernel) ?_
  refine tz_aload_n (pc := 129) dX9_takeFrom_129 rfl rfl ?_
  refine tz_fR (pc := 130) dX9_takeFrom_130 fl_X9_33 r_6_8 ?_
  refine tz_iconst (pc := 133) dX9_takeFrom_133 ?_
  refine tz_aload_n (pc := 134) dX9_takeFrom_134 rfl rfl ?_
  refine tz_fR (pc := 135) dX9_takeFrom_135 fl_X9_33 r_64_8 ?_
  refine tz_iconst (pc := 138) dX9_takeFrom_138 ?_
  refine tz_aload_n (pc := 139) dX9_takeFrom_139 rfl rfl ?_
  refine tz_fI (pc := 140) (kz := 12) (v := (J 6 12)) dX9_takeFrom_140 fl_X9_45 i_64_12 rfl rfl (fun r_140 => ?_)
  refine tz_cp (pc := 143) (sp := 0) (dp := 0) (ln := (J 6 12)) dX9_takeFrom_143 ml_X9_105 a_14 a_72 rfl rfl (by omega) (Nat.le_of_ble_eq_true rfl) (by decide +kernel) ?_
  refine tz_aload_n (pc := 146) dX9_takeFrom_146 rfl rfl ?_
  refine tz_fR (pc := 147) dX9_takeFrom_147 fl_X9_36 r_6_9 ?_
  refine tz_iconst (pc := 150) dX9_takeFrom_150 ?_
  refine tz_aload_n (pc := 151) dX9_takeFrom_151 rfl rfl ?_
  refine tz_fR (pc := 152) dX9_takeFrom_152 fl_X9_36 r_64_9 ?_
  refine tz_iconst (pc := 155) dX9_takeFrom_155 ?_
  refine tz_aload_n (pc := 156) dX9_takeFrom_156 rfl rfl ?_
  refine tz_fI (pc := 157) (kz := 12) (v := (J 6 12)) dX9_takeFrom_157 fl_X9_45 i_64_12 rfl rfl (fun r_157 => ?_)
  refine tz_cp (pc := 160) (sp := 0) (dp := 0) (ln := (J 6 12)) dX9_takeFrom_160 ml_X9_105 a_15 a_73 rfl rfl (by omega) (Nat.le_of_ble_eq_true rfl) (by decide +kernel) ?_
  refine tz_aload_n (pc := 163) dX9_takeFrom_163 rfl rfl ?_
  refine tz_fR (pc := 164) dX9_takeFrom_164 fl_X9_39 r_6_10 ?_
  refine tz_iconst (pc := 167) dX9_takeFrom_167 ?_
  refine tz_aload_n (pc := 168) dX9_takeFrom_168 rfl rfl ?_
  refine tz_fR (pc := 169) dX9_takeFrom_169 fl_X9_39 r_64_10 ?_
  refine tz_iconst (pc := 172) dX9_takeFrom_172 ?_
  refine tz_sipush (pc := 173) dX9_takeFrom_173 (by decide) ?_
  refine tz_cp (pc := 176) (sp := 0) (dp := 0) (ln := 256) dX9_takeFrom_176 ml_X9_105 a_16 a_74 rfl rfl (by decide) (Nat.le_of_ble_eq_true rfl) (by decide +kernel) ?_
  exact tz_vret (pc := 179) dX9_takeFrom_179 rfl (Nat.le_of_ble_eq_true rfl) (Nat.le_of_ble_eq_true rfl) ⟨Nat.le_refl _, Nat.le_add_right _ _⟩ ⟨rfl, rfl⟩

set_option maxHeartbeats 4000000 in
set_option maxRecDepth 100000 in
theorem c_teTake6_64 {l : Launch} {G : tb_G} (hl : l.stackTraces = false) (n : Nat) (J : zJ)    (h0 : 0 ≤ J 64 12 ∧ J 64 12 ≤ 400) : tz_Ok l G M_X9_takeFrom 1 0 0 [.ref 6, .ref 64] n J (zqv (fun J' => zcp (zcp (zcp (zcp (zcp (zcp (zcp (zcp (zcp (zcp (zup J 6 12 (J 64 12)) 65 7 0 0 (J 64 12)) 66 8 0 0 (J 64 12)) 67 9 0 0 (J 64 12 * 3)) 68 10 0 0 (J 64 12)) 69 11 0 0 (J 64 12)) 70 12 0 0 (J 64 12)) 71 13 0 0 (J 64 12)) 72 14 0 0 (J 64 12)) 73 15 0 0 (J 64 12)) 74 16 0 0 256 = J')) zN := by
  refine tz_Ok.of hl (by decide +kernel) rfl (tb_c1 rfl) (Nat.le_of_ble_eq_true rfl) ?_
  show tz_At l G M_X9_takeFrom (tb_rm 1 0 0) none (tb_ZM G 0 0 (zQ n 0 (zqv (fun J' => zcp (zcp (zcp (zcp (zcp (zcp (zcp (zcp (zcp (zcp (zup J 6 12 (J 64 12)) 65 7 0 0 (J 64 12)) 66 8 0 0 (J 64 12)) 67 9 0 0 (J 64 12 * 3)) 68 10 0 0 (J 64 12)) 69 11 0 0 (J 64 12)) 70 12 0 0 (J 64 12)) 71 13 0 0 (J 64 12)) 72 14 0 0 (J 64 12)) 73 15 0 0 (J 64 12)) 74 16 0 0 256 = J'))) (zX n 0 zN)) 0 0 n J 0 [some (.ref 6), some (.ref 64)] []
  refine tz_aload_n (pc := 0) dX9_takeFrom_0 rfl rfl ?_
  refine tz_aload_n (pc := 1) dX9_takeFrom_1 rfl rfl ?_
  refine tz_fI (pc := 2) (kz := 12) (v := (J 64 12)) dX9_takeFrom_2 fl_X9_45 i_64_12 rfl rfl (fun r_2 => ?_)
  refine tz_pI (pc := 5) (kz := 12) dX9_takeFrom_5 fl_X9_45 i_6_12 rfl rfl (by omega) ?_
  refine tz_aload_n (pc := 8) dX9_takeFrom_8 rfl rfl ?_
  refine tz_fR (pc := 9) dX9_takeFrom_9 fl_X9_11 r_64_1 ?_
  refine tz_iconst (pc := 12) dX9_takeFrom_12 ?_
  refine tz_aload_n (pc := 13) dX9_takeFrom_13 rfl rfl ?_
  refine tz_fR (pc := 14) dX9_takeFrom_14 fl_X9_11 r_6_1 ?_
  refine tz_iconst (pc := 17) dX9_takeFrom_17 ?_
  refine tz_aload_n (pc := 18) dX9_takeFrom_18 rfl rfl ?_
  refine tz_fI (pc := 19) (kz := 12) (v := (J 64 12)) dX9_takeFrom_19 fl_X9_45 i_6_12 rfl rfl (fun r_19 => ?_)
  refine tz_cp (pc := 22) (sp := 0) (dp := 0) (ln := (J 64 12)) dX9_takeFrom_22 ml_X9_105 a_65 a_7 rfl rfl (by omega) (Nat.le_of_ble_eq_true rfl) (by decide +kernel) ?_
  refine tz_aload_n (pc := 25) dX9_takeFrom_25 rfl rfl ?_
  refine tz_fR (pc := 26) dX9_takeFrom_26 fl_X9_15 r_64_2 ?_
  refine tz_iconst (pc := 29) dX9_takeFrom_29 ?_
  refine tz_aload_n (pc := 30) dX9_takeFrom_30 rfl rfl ?_
  refine tz_fR (pc := 31) dX9_takeFrom_31 fl_X9_15 r_6_2 ?_
  refine tz_iconst (pc := 34) dX9_takeFrom_34 ?_
  refine tz_aload_n (pc := 35) dX9_takeFrom_35 rfl rfl ?_
  refine tz_fI (pc := 36) (kz := 12) (v := (J 64 12)) dX9_takeFrom_36 fl_X9_45 i_6_12 rfl rfl (fun r_36 => ?_)
  refine tz_cp (pc := 39) (sp := 0) (dp := 0) (ln := (J 64 12)) dX9_takeFrom_39 ml_X9_105 a_66 a_8 rfl rfl (by omega) (Nat.le_of_ble_eq_true rfl) (by decide +kernel) ?_
  refine tz_aload_n (pc := 42) dX9_takeFrom_42 rfl rfl ?_
  refine tz_fR (pc := 43) dX9_takeFrom_43 fl_X9_18 r_64_3 ?_
  refine tz_iconst (pc := 46) dX9_takeFrom_46 ?_
  refine tz_aload_n (pc := 47) dX9_takeFrom_47 rfl rfl ?_
  refine tz_fR (pc := 48) dX9_takeFrom_48 fl_X9_18 r_6_3 ?_
  refine tz_iconst (pc := 51) dX9_takeFrom_51 ?_
  refine tz_aload_n (pc := 52) dX9_takeFrom_52 rfl rfl ?_
  refine tz_fI (pc := 53) (kz := 12) (v := (J 64 12)) dX9_takeFrom_53 fl_X9_45 i_6_12 rfl rfl (fun r_53 => ?_)
  refine tz_iconst (pc := 56) dX9_takeFrom_56 ?_
  refine tz_imul (pc := 57) (v := (J 64 12) * 3) dX9_takeFrom_57 rfl ?_
  refine tz_cp (pc := 58) (sp := 0) (dp := 0) (ln := ((J 64 12) * 3)) dX9_takeFrom_58 ml_X9_105 a_67 a_9 rfl rfl (by omega) (Nat.le_of_ble_eq_true rfl) (by decide +kernel) ?_
  refine tz_aload_n (pc := 61) dX9_takeFrom_61 rfl rfl ?_
  refine tz_fR (pc := 62) dX9_takeFrom_62 fl_X9_21 r_64_4 ?_
  refine tz_iconst (pc := 65) dX9_takeFrom_65 ?_
  refine tz_aload_n (pc := 66) dX9_takeFrom_66 rfl rfl ?_
  refine tz_fR (pc := 67) dX9_takeFrom_67 fl_X9_21 r_6_4 ?_
  refine tz_iconst (pc := 70) dX9_takeFrom_70 ?_
  refine tz_aload_n (pc := 71) dX9_takeFrom_71 rfl rfl ?_
  refine tz_fI (pc := 72) (kz := 12) (v := (J 64 12)) dX9_takeFrom_72 fl_X9_45 i_6_12 rfl rfl (fun r_72 => ?_)
  refine tz_cp (pc := 75) (sp := 0) (dp := 0) (ln := (J 64 12)) dX9_takeFrom_75 ml_X9_105 a_68 a_10 rfl rfl (by omega) (Nat.le_of_ble_eq_true rfl) (by decide +kernel) ?_
  refine tz_aload_n (pc := 78) dX9_takeFrom_78 rfl rfl ?_
  refine tz_fR (pc := 79) dX9_takeFrom_79 fl_X9_24 r_64_5 ?_
  refine tz_iconst (pc := 82) dX9_takeFrom_82 ?_
  refine tz_aload_n (pc := 83) dX9_takeFrom_83 rfl rfl ?_
  refine tz_fR (pc := 84) dX9_takeFrom_84 fl_X9_24 r_6_5 ?_
  refine tz_iconst (pc := 87) dX9_takeFrom_87 ?_
  refine tz_aload_n (pc := 88) dX9_takeFrom_88 rfl rfl ?_
  refine tz_fI (pc := 89) (kz := 12) (v := (J 64 12)) dX9_takeFrom_89 fl_X9_45 i_6_12 rfl rfl (fun r_89 => ?_)
  refine tz_cp (pc := 92) (sp := 0) (dp := 0) (ln := (J 64 12)) dX9_takeFrom_92 ml_X9_105 a_69 a_11 rfl rfl (by omega) (Nat.le_of_ble_eq_true rfl) (by decide +kernel) ?_
  refine tz_aload_n (pc := 95) dX9_takeFrom_95 rfl rfl ?_
  refine tz_fR (pc := 96) dX9_takeFrom_96 fl_X9_27 r_64_6 ?_
  refine tz_iconst (pc := 99) dX9_takeFrom_99 ?_
  refine tz_aload_n (pc := 100) dX9_takeFrom_100 rfl rfl ?_
  refine tz_fR (pc := 101) dX9_takeFrom_101 fl_X9_27 r_6_6 ?_
  refine tz_iconst (pc := 104) dX9_takeFrom_104 ?_
  refine tz_aload_n (pc := 105) dX9_takeFrom_105 rfl rfl ?_
  refine tz_fI (pc := 106) (kz := 12) (v := (J 64 12)) dX9_takeFrom_106 fl_X9_45 i_6_12 rfl rfl (fun r_106 => ?_)
  refine tz_cp (pc := 109) (sp := 0) (dp := 0) (ln := (J 64 12)) dX9_takeFrom_109 ml_X9_105 a_70 a_12 rfl rfl (by omega) (Nat.le_of_ble_eq_true rfl) (by decide +kernel) ?_
  refine tz_aload_n (pc := 112) dX9_takeFrom_112 rfl rfl ?_
  refine tz_fR (pc := 113) dX9_takeFrom_113 fl_X9_30 r_64_7 ?_
  refine tz_iconst (pc := 116) dX9_takeFrom_116 ?_
  refine tz_aload_n (pc := 117) dX9_takeFrom_117 rfl rfl ?_
  refine tz_fR (pc := 118) dX9_takeFrom_118 fl_X9_30 r_6_7 ?_
  refine tz_iconst (pc := 121) dX9_takeFrom_121 ?_
  refine tz_aload_n (pc := 122) dX9_takeFrom_122 rfl rfl ?_
  refine tz_fI (pc := 123) (kz := 12) (v := (J 64 12)) dX9_takeFrom_123 fl_X9_45 i_6_12 rfl rfl (fun r_123 => ?_)
  refine tz_cp (pc := 126) (sp := 0) (dp := 0) (ln := (J 64 12)) dX9_takeFrom_126 ml_X9_105 a_71 a_13 rfl rfl (by omega) (Nat.le_of_ble_eq_true rfl) (by decide +kernel) ?_
  refine tz_aload_n (pc := 129) dX9_takeFrom_129 rfl rfl ?_
  refine tz_fR (pc := 130) dX9_takeFrom_130 fl_X9_33 r_64_8 ?_
  refine tz_iconst (pc := 133) dX9_takeFrom_133 ?_
  refine tz_aload_n (pc := 134) dX9_takeFrom_134 rfl rfl ?_
  refine tz_fR (pc := 135) dX9_takeFrom_135 fl_X9_33 r_6_8 ?_
  refine tz_iconst (pc := 138) dX9_takeFrom_138 ?_
  refine tz_aload_n (pc := 139) dX9_takeFrom_139 rfl rfl ?_
  refine tz_fI (pc := 140) (kz := 12) (v := (J 64 12)) dX9_takeFrom_140 fl_X9_45 i_6_12 rfl rfl (fun r_140 => ?_)
  refine tz_cp (pc := 143) (sp := 0) (dp := 0) (ln := (J 64 12)) dX9_takeFrom_143 ml_X9_105 a_72 a_14 rfl rfl (by omega) (Nat.le_of_ble_eq_true rfl) (by decide +kernel) ?_
  refine tz_aload_n (pc := 146) dX9_takeFrom_146 rfl rfl ?_
  refine tz_fR (pc := 147) dX9_takeFrom_147 fl_X9_36 r_64_9 ?_
  refine tz_iconst (pc := 150) dX9_takeFrom_150 ?_
  refine tz_aload_n (pc := 151) dX9_takeFrom_151 rfl rfl ?_
  refine tz_fR (pc := 152) dX9_takeFrom_152 fl_X9_36 r_6_9 ?_
  refine tz_iconst (pc := 155) dX9_takeFrom_155 ?_
  refine tz_aload_n (pc := 156) dX9_takeFrom_156 rfl rfl ?_
  refine tz_fI (pc := 157) (kz := 12) (v := (J 64 12)) dX9_takeFrom_157 fl_X9_45 i_6_12 rfl rfl (fun r_157 => ?_)
  refine tz_cp (pc := 160) (sp := 0) (dp := 0) (ln := (J 64 12)) dX9_takeFrom_160 ml_X9_105 a_73 a_15 rfl rfl (by omega) (Nat.le_of_ble_eq_true rfl) (by decide +kernel) ?_
  refine tz_aload_n (pc := 163) dX9_takeFrom_163 rfl rfl ?_
  refine tz_fR (pc := 164) dX9_takeFrom_164 fl_X9_39 r_64_10 ?_
  refine tz_iconst (pc := 167) dX9_takeFrom_167 ?_
  refine tz_aload_n (pc := 168) dX9_takeFrom_168 rfl rfl ?_
  refine tz_fR (pc := 169) dX9_takeFrom_169 fl_X9_39 r_6_10 ?_
  refine tz_iconst (pc := 172) dX9_takeFrom_172 ?_
  refine tz_sipush (pc := 173) dX9_takeFrom_173 (by decide) ?_
  refine tz_cp (pc := 176) (sp := 0) (dp := 0) (ln := 256) dX9_takeFrom_176 ml_X9_105 a_74 a_16 rfl rfl (by decide) (Nat.le_of_ble_eq_true rfl) (by decide +kernel) ?_
  exact tz_vret (pc := 179) dX9_takeFrom_179 rfl (Nat.le_of_ble_eq_true rfl) (Nat.le_of_ble_eq_true rfl) ⟨Nat.le_refl _, Nat.le_add_right _ _⟩ ⟨rfl, rfl⟩

set_option maxHeartbeats 4000000 in
set_option maxRecDepth 100000 in
theorem c_teTake125_6 {l : Launch} {G : tb_G} (hl : l.stackTraces = false) (n : Nat) (J : zJ)    (h0 : 0 ≤ J 6 12 ∧ J 6 12 ≤ 400) : tz_Ok l G M_X9_takeFrom 1 0 0 [.ref 125, .ref 6] n J (zqv (fun J' => zcp (zcp (zcp (zcp (zcp (zcp (zcp (zcp (zcp (zcp (zup J 125 12 (J 6 12)) 7 126 0 0 (J 6 12)) 8 127 0 0 (J 6 12)) 9 128 0 0 (J 6 12 * 3)) 10 129 0 0 (J 6 12)) 11 130 0 0 (J 6 12)) 12 131 0 0 (J 6 12)) 13 132 0 0 (J 6 12)) 14 133 0 0 (J 6 12)) 15 134 0 0 (J 6 12)) 16 135 0 0 256 = J')) zN := by
  refine tz_Ok.of hl (by decide +kernel) rfl (tb_c1 rfl) (Nat.le_of_ble_eq_true rfl) ?_
  show tz_At l G M_X9_takeFrom (tb_rm 1 0 0) none (tb_ZM G 0 0 (zQ n 0 (zqv (fun J' => zcp (zcp (zcp (zcp (zcp (zcp (zcp (zcp (zcp (zcp (zup J 125 12 (J 6 12)) 7 126 0 0 (J 6 12)) 8 127 0 0 (J 6 12)) 9 128 0 0 (J 6 12 * 3)) 10 129 0 0 (J 6 12)) 11 130 0 0 (J 6 12)) 12 131 0 0 (J 6 12)) 13 132 0 0 (J 6 12)) 14 133 0 0 (J 6 12)) 15 134 0 0 (J 6 12)) 16 135 0 0 256 = J'))) (zX n 0 zN)) 0 0 n J 0 [some (.ref 125), some (.ref 6)] []
  refine tz_aload_n (pc := 0) dX9_takeFrom_0 rfl rfl ?_
  refine tz_aload_n (pc := 1) dX9_takeFrom_1 rfl rfl ?_
  refine tz_fI (pc := 2) (kz := 12) (v := (J 6 12)) dX9_takeFrom_2 fl_X9_45 i_6_12 rfl rfl (fun r_2 => ?_)
  refine tz_pI (pc := 5) (kz := 12) dX9_takeFrom_5 fl_X9_45 i_125_12 rfl rfl (by omega) ?_
  refine tz_aload_n (pc := 8) dX9_takeFrom_8 rfl rfl ?_
  refine tz_fR (pc := 9) dX9_takeFrom_9 fl_X9_11 r_6_1 ?_
  refine tz_iconst (pc := 12) dX9_takeFrom_12 ?_
  refine tz_aload_n (pc := 13) dX9_takeFrom_13 rfl rfl ?_
  refine tz_fR (pc := 14) dX9_takeFrom_14 fl_X9_11 r_125_1 ?_
  refine tz_iconst (pc := 17) dX9_takeFrom_17 ?_
  refine tz_aload_n (pc := 18) dX9_takeFrom_18 rfl rfl ?_
  refine tz_fI (pc := 19) (kz := 12) (v := (J 6 12)) dX9_takeFrom_19 fl_X9_45 i_125_12 rfl rfl (fun r_19 => ?_)
  refine tz_cp (pc := 22) (sp := 0) (dp := 0) (ln := (J 6 12)) dX9_takeFrom_22 ml_X9_105 a_7 a_126 rfl rfl (by omega) (Nat.le_of_ble_eq_true rfl) (by decide +kernel) ?_
  refine tz_aload_n (pc := 25) dX9_takeFrom_25 rfl rfl ?_
  refine tz_fR (pc := 26) dX9_takeFrom_26 fl_X9_15 r_6_2 ?_
  refine tz_iconst (pc := 29) dX9_takeFrom_29 ?_
  refine tz_aload_n (pc := 30) dX9_takeFrom_30 rfl rfl ?_
  refine tz_fR (pc := 31) dX9_takeFrom_31 fl_X9_15 r_125_2 ?_
  refine tz_iconst (pc := 34) dX9_takeFrom_34 ?_
  refine tz_aload_n (pc := 35) dX9_takeFrom_35 rfl rfl ?_
  refine tz_fI (pc := 36) (kz := 12) (v := (J 6 12)) dX9_takeFrom_36 fl_X9_45 i_125_12 rfl rfl (fun r_36 => ?_)
  refine tz_cp (pc := 39) (sp := 0) (dp := 0) (ln := (J 6 12)) dX9_takeFrom_39 ml_X9_105 a_8 a_127 rfl rfl (by omega) (Nat.le_of_ble_eq_true rfl) (by decide +kernel) ?_
  refine tz_aload_n (pc := 42) dX9_takeFrom_42 rfl rfl ?_
  refine tz_fR (pc := 43) dX9_takeFrom_43 fl_X9_18 r_6_3 ?_
  refine tz_iconst (pc := 46) dX9_takeFrom_46 ?_
  refine tz_aload_n (pc := 47) dX9_takeFrom_47 rfl rfl ?_
  refine tz_fR (pc := 48) dX9_takeFrom_48 fl_X9_18 r_125_3 ?_
  refine tz_iconst (pc := 51) dX9_takeFrom_51 ?_
  refine tz_aload_n (pc := 52) dX9_takeFrom_52 rfl rfl ?_
  refine tz_fI (pc := 53) (kz := 12) (v := (J 6 12)) dX9_takeFrom_53 fl_X9_45 i_125_12 rfl rfl (fun r_53 => ?_)
  refine tz_iconst (pc := 56) dX9_takeFrom_56 ?_
  refine tz_imul (pc := 57) (v := (J 6 12) * 3) dX9_takeFrom_57 rfl ?_
  refine tz_cp (pc := 58) (sp := 0) (dp := 0) (ln := ((J 6 12) * 3)) dX9_takeFrom_58 ml_X9_105 a_9 a_128 rfl rfl (by omega) (Nat.le_of_ble_eq_true rfl) (by decide +kernel) ?_
  refine tz_aload_n (pc := 61) dX9_takeFrom_61 rfl rfl ?_
  refine tz_fR (pc := 62) dX9_takeFrom_62 fl_X9_21 r_6_4 ?_
  refine tz_iconst (pc := 65) dX9_takeFrom_65 ?_
  refine tz_aload_n (pc := 66) dX9_takeFrom_66 rfl rfl ?_
  refine tz_fR (pc := 67) dX9_takeFrom_67 fl_X9_21 r_125_4 ?_
  refine tz_iconst (pc := 70) dX9_takeFrom_70 ?_
  refine tz_aload_n (pc := 71) dX9_takeFrom_71 rfl rfl ?_
  refine tz_fI (pc := 72) (kz := 12) (v := (J 6 12)) dX9_takeFrom_72 fl_X9_45 i_125_12 rfl rfl (fun r_72 => ?_)
  refine tz_cp (pc := 75) (sp := 0) (dp := 0) (ln := (J 6 12)) dX9_takeFrom_75 ml_X9_105 a_10 a_129 rfl rfl (by omega) (Nat.le_of_ble_eq_true rfl) (by decide +kernel) ?_
  refine tz_aload_n (pc := 78) dX9_takeFrom_78 rfl rfl ?_
  refine tz_fR (pc := 79) dX9_takeFrom_79 fl_X9_24 r_6_5 ?_
  refine tz_iconst (pc := 82) dX9_takeFrom_82 ?_
  refine tz_aload_n (pc := 83) dX9_takeFrom_83 rfl rfl ?_
  refine tz_fR (pc := 84) dX9_takeFrom_84 fl_X9_24 r_125_5 ?_
  refine tz_iconst (pc := 87) dX9_takeFrom_87 ?_
  refine tz_aload_n (pc := 88) dX9_takeFrom_88 rfl rfl ?_
  refine tz_fI (pc := 89) (kz := 12) (v := (J 6 12)) dX9_takeFrom_89 fl_X9_45 i_125_12 rfl rfl (fun r_89 => ?_)
  refine tz_cp (pc := 92) (sp := 0) (dp := 0) (ln := (J 6 12)) dX9_takeFrom_92 ml_X9_105 a_11 a_130 rfl rfl (by omega) (Nat.le_of_ble_eq_true rfl) (by decide +kernel) ?_
  refine tz_aload_n (pc := 95) dX9_takeFrom_95 rfl rfl ?_
  refine tz_fR (pc := 96) dX9_takeFrom_96 fl_X9_27 r_6_6 ?_
  refine tz_iconst (pc := 99) dX9_takeFrom_99 ?_
  refine tz_aload_n (pc := 100) dX9_takeFrom_100 rfl rfl ?_
  refine tz_fR (pc := 101) dX9_takeFrom_101 fl_X9_27 r_125_6 ?_
  refine tz_iconst (pc := 104) dX9_takeFrom_104 ?_
  refine tz_aload_n (pc := 105) dX9_takeFrom_105 rfl rfl ?_
  refine tz_fI (pc := 106) (kz := 12) (v := (J 6 12)) dX9_takeFrom_106 fl_X9_45 i_125_12 rfl rfl (fun r_106 => ?_)
  refine tz_cp (pc := 109) (sp := 0) (dp := 0) (ln := (J 6 12)) dX9_takeFrom_109 ml_X9_105 a_12 a_131 rfl rfl (by omega) (Nat.le_of_ble_eq_true rfl) (by decide +kernel) ?_
  refine tz_aload_n (pc := 112) dX9_takeFrom_112 rfl rfl ?_
  refine tz_fR (pc := 113) dX9_takeFrom_113 fl_X9_30 r_6_7 ?_
  refine tz_iconst (pc := 116) dX9_takeFrom_116 ?_
  refine tz_aload_n (pc := 117) dX9_takeFrom_117 rfl rfl ?_
  refine tz_fR (pc := 118) dX9_takeFrom_118 fl_X9_30 r_125_7 ?_
  refine tz_iconst (pc := 121) dX9_takeFrom_121 ?_
  refine tz_aload_n (pc := 122) dX9_takeFrom_122 rfl rfl ?_
  refine tz_fI (pc := 123) (kz := 12) (v := (J 6 12)) dX9_takeFrom_123 fl_X9_45 i_125_12 rfl rfl (fun r_123 => ?_)
  refine tz_cp (pc := 126) (sp := 0) (dp := 0) (ln := (J 6 12)) dX9_takeFrom_126 ml_X9_105 a_13 a_132 rfl rfl (by omega) (Nat.le_of_ble_eq_true rfl) (by decide +kernel) ?_
  refine tz_aload_n (pc := 129) dX9_takeFrom_129 rfl rfl ?_
  refine tz_fR (pc := 130) dX9_takeFrom_130 fl_X9_33 r_6_8 ?_
  refine tz_iconst (pc := 133) dX9_takeFrom_133 ?_
  refine tz_aload_n (pc := 134) dX9_takeFrom_134 rfl rfl ?_
  refine tz_fR (pc := 135) dX9_takeFrom_135 fl_X9_33 r_125_8 ?_
  refine tz_iconst (pc := 138) dX9_takeFrom_138 ?_
  refine tz_aload_n (pc := 139) dX9_takeFrom_139 rfl rfl ?_
  refine tz_fI (pc := 140) (kz := 12) (v := (J 6 12)) dX9_takeFrom_140 fl_X9_45 i_125_12 rfl rfl (fun r_140 => ?_)
  refine tz_cp (pc := 143) (sp := 0) (dp := 0) (ln := (J 6 12)) dX9_takeFrom_143 ml_X9_105 a_14 a_133 rfl rfl (by omega) (Nat.le_of_ble_eq_true rfl) (by decide +kernel) ?_
  refine tz_aload_n (pc := 146) dX9_takeFrom_146 rfl rfl ?_
  refine tz_fR (pc := 147) dX9_takeFrom_147 fl_X9_36 r_6_9 ?_
  refine tz_iconst (pc := 150) dX9_takeFrom_150 ?_
  refine tz_aload_n (pc := 151) dX9_takeFrom_151 rfl rfl ?_
  refine tz_fR (pc := 152) dX9_takeFrom_152 fl_X9_36 r_125_9 ?_
  refine tz_iconst (pc := 155) dX9_takeFrom_155 ?_
  refine tz_aload_n (pc := 156) dX9_takeFrom_156 rfl rfl ?_
  refine tz_fI (pc := 157) (kz := 12) (v := (J 6 12)) dX9_takeFrom_157 fl_X9_45 i_125_12 rfl rfl (fun r_157 => ?_)
  refine tz_cp (pc := 160) (sp := 0) (dp := 0) (ln := (J 6 12)) dX9_takeFrom_160 ml_X9_105 a_15 a_134 rfl rfl (by omega) (Nat.le_of_ble_eq_true rfl) (by decide +kernel) ?_
  refine tz_aload_n (pc := 163) dX9_takeFrom_163 rfl rfl ?_
  refine tz_fR (pc := 164) dX9_takeFrom_164 fl_X9_39 r_6_10 ?_
  refine tz_iconst (pc := 167) dX9_takeFrom_167 ?_
  refine tz_aload_n (pc := 168) dX9_takeFrom_168 rfl rfl ?_
  refine tz_fR (pc := 169) dX9_takeFrom_169 fl_X9_39 r_125_10 ?_
  refine tz_iconst (pc := 172) dX9_takeFrom_172 ?_
  refine tz_sipush (pc := 173) dX9_takeFrom_173 (by decide) ?_
  refine tz_cp (pc := 176) (sp := 0) (dp := 0) (ln := 256) dX9_takeFrom_176 ml_X9_105 a_16 a_135 rfl rfl (by decide) (Nat.le_of_ble_eq_true rfl) (by decide +kernel) ?_
  exact tz_vret (pc := 179) dX9_takeFrom_179 rfl (Nat.le_of_ble_eq_true rfl) (Nat.le_of_ble_eq_true rfl) ⟨Nat.le_refl _, Nat.le_add_right _ _⟩ ⟨rfl, rfl⟩

set_option maxHeartbeats 4000000 in
set_option maxRecDepth 100000 in
theorem c_teTake6_125 {l : Launch} {G : tb_G} (hl : l.stackTraces = false) (n : Nat) (J : zJ)    (h0 : 0 ≤ J 125 12 ∧ J 125 12 ≤ 400) : tz_Ok l G M_X9_takeFrom 1 0 0 [.ref 6, .ref 125] n J (zqv (fun J' => zcp (zcp (zcp (zcp (zcp (zcp (zcp (zcp (zcp (zcp (zup J 6 12 (J 125 12)) 126 7 0 0 (J 125 12)) 127 8 0 0 (J 125 12)) 128 9 0 0 (J 125 12 * 3)) 129 10 0 0 (J 125 12)) 130 11 0 0 (J 125 12)) 131 12 0 0 (J 125 12)) 132 13 0 0 (J 125 12)) 133 14 0 0 (J 125 12)) 134 15 0 0 (J 125 12)) 135 16 0 0 256 = J')) zN := by
  refine tz_Ok.of hl (by decide +kernel) rfl (tb_c1 rfl) (Nat.le_of_ble_eq_true rfl) ?_
  show tz_At l G M_X9_takeFrom (tb_rm 1 0 0) none (tb_ZM G 0 0 (zQ n 0 (zqv (fun J' => zcp (zcp (zcp (zcp (zcp (zcp (zcp (zcp (zcp (zcp (zup J 6 12 (J 125 12)) 126 7 0 0 (J 125 12)) 127 8 0 0 (J 125 12)) 128 9 0 0 (J 125 12 * 3)) 129 10 0 0 (J 125 12)) 130 11 0 0 (J 125 12)) 131 12 0 0 (J 125 12)) 132 13 0 0 (J 125 12)) 133 14 0 0 (J 125 12)) 134 15 0 0 (J 125 12)) 135 16 0 0 256 = J'))) (zX n 0 zN)) 0 0 n J 0 [some (.ref 6), some (.ref 125)] []
  refine tz_aload_n (pc := 0) dX9_takeFrom_0 rfl rfl ?_
  refine tz_aload_n (pc := 1) dX9_takeFrom_1 rfl rfl ?_
  refine tz_fI (pc := 2) (kz := 12) (v := (J 125 12)) dX9_takeFrom_2 fl_X9_45 i_125_12 rfl rfl (fun r_2 => ?_)
  refine tz_pI (pc := 5) (kz := 12) dX9_takeFrom_5 fl_X9_45 i_6_12 rfl rfl (by omega) ?_
  refine tz_aload_n (pc := 8) dX9_takeFrom_8 rfl rfl ?_
  refine tz_fR (pc := 9) dX9_takeFrom_9 fl_X9_11 r_125_1 ?_
  refine tz_iconst (pc := 12) dX9_takeFrom_12 ?_
  refine tz_aload_n (pc := 13) dX9_takeFrom_13 rfl rfl ?_
  refine tz_fR (pc := 14) dX9_takeFrom_14 fl_X9_11 r_6_1 ?_
  refine tz_iconst (pc := 17) dX9_takeFrom_17 ?_
  refine tz_aload_n (pc := 18) dX9_takeFrom_18 rfl rfl ?_
  refine tz_fI (pc := 19) (kz := 12) (v := (J 125 12)) dX9_takeFrom_19 fl_X9_45 i_6_12 rfl rfl (fun r_19 => ?_)
  refine tz_cp (pc := 22) (sp := 0) (dp := 0) (ln := (J 125 12)) dX9_takeFrom_22 ml_X9_105 a_126 a_7 rfl rfl (by omega) (Nat.le_of_ble_eq_true rfl) (by decide +kernel) ?_
  refine tz_aload_n (pc := 25) dX9_takeFrom_25 rfl rfl ?_
  refine tz_fR (pc := 26) dX9_takeFrom_26 fl_X9_15 r_125_2 ?_
  refine tz_iconst (pc := 29) dX9_takeFrom_29 ?_
  refine tz_aload_n (pc := 30) dX9_takeFrom_30 rfl rfl ?_
  refine tz_fR (pc := 31) dX9_takeFrom_31 fl_X9_15 r_6_2 ?_
  refine tz_iconst (pc := 34) dX9_takeFrom_34 ?_
  refine tz_aload_n (pc := 35) dX9_takeFrom_35 rfl rfl ?_
  refine tz_fI (pc := 36) (kz := 12) (v := (J 125 12)) dX9_takeFrom_36 fl_X9_45 i_6_12 rfl rfl (fun r_36 => ?_)
  refine tz_cp (pc := 39) (sp := 0) (dp := 0) (ln := (J 125 12)) dX9_takeFrom_39 ml_X9_105 a_127 a_8 rfl rfl (by omega) (Nat.le_of_ble_eq_true rfl) (by decide +kernel) ?_
  refine tz_aload_n (pc := 42) dX9_takeFrom_42 rfl rfl ?_
  refine tz_fR (pc := 43) dX9_takeFrom_43 fl_X9_18 r_125_3 ?_
  refine tz_iconst (pc := 46) dX9_takeFrom_46 ?_
  refine tz_aload_n (pc := 47) dX9_takeFrom_47 rfl rfl ?_
  refine tz_fR (pc := 48) dX9_takeFrom_48 fl_X9_18 r_6_3 ?_
  refine tz_iconst (pc := 51) dX9_takeFrom_51 ?_
  refine tz_aload_n (pc := 52) dX9_takeFrom_52 rfl rfl ?_
  refine tz_fI (pc := 53) (kz := 12) (v := (J 125 12)) dX9_takeFrom_53 fl_X9_45 i_6_12 rfl rfl (fun r_53 => ?_)
  refine tz_iconst (pc := 56) dX9_takeFrom_56 ?_
  refine tz_imul (pc := 57) (v := (J 125 12) * 3) dX9_takeFrom_57 rfl ?_
  refine tz_cp (pc := 58) (sp := 0) (dp := 0) (ln := ((J 125 12) * 3)) dX9_takeFrom_58 ml_X9_105 a_128 a_9 rfl rfl (by omega) (Nat.le_of_ble_eq_true rfl) (by decide +kernel) ?_
  refine tz_aload_n (pc := 61) dX9_takeFrom_61 rfl rfl ?_
  refine tz_fR (pc := 62) dX9_takeFrom_62 fl_X9_21 r_125_4 ?_
  refine tz_iconst (pc := 65) dX9_takeFrom_65 ?_
  refine tz_aload_n (pc := 66) dX9_takeFrom_66 rfl rfl ?_
  refine tz_fR (pc := 67) dX9_takeFrom_67 fl_X9_21 r_6_4 ?_
  refine tz_iconst (pc := 70) dX9_takeFrom_70 ?_
  refine tz_aload_n (pc := 71) dX9_takeFrom_71 rfl rfl ?_
  refine tz_fI (pc := 72) (kz := 12) (v := (J 125 12)) dX9_takeFrom_72 fl_X9_45 i_6_12 rfl rfl (fun r_72 => ?_)
  refine tz_cp (pc := 75) (sp := 0) (dp := 0) (ln := (J 125 12)) dX9_takeFrom_75 ml_X9_105 a_129 a_10 rfl rfl (by omega) (Nat.le_of_ble_eq_true rfl) (by decide +kernel) ?_
  refine tz_aload_n (pc := 78) dX9_takeFrom_78 rfl rfl ?_
  refine tz_fR (pc := 79) dX9_takeFrom_79 fl_X9_24 r_125_5 ?_
  refine tz_iconst (pc := 82) dX9_takeFrom_82 ?_
  refine tz_aload_n (pc := 83) dX9_takeFrom_83 rfl rfl ?_
  refine tz_fR (pc := 84) dX9_takeFrom_84 fl_X9_24 r_6_5 ?_
  refine tz_iconst (pc := 87) dX9_takeFrom_87 ?_
  refine tz_aload_n (pc := 88) dX9_takeFrom_88 rfl rfl ?_
  refine tz_fI (pc := 89) (kz := 12) (v := (J 125 12)) dX9_takeFrom_89 fl_X9_45 i_6_12 rfl rfl (fun r_89 => ?_)
  refine tz_cp (pc := 92) (sp := 0) (dp := 0) (ln := (J 125 12)) dX9_takeFrom_92 ml_X9_105 a_130 a_11 rfl rfl (by omega) (Nat.le_of_ble_eq_true rfl) (by decide +kernel) ?_
  refine tz_aload_n (pc := 95) dX9_takeFrom_95 rfl rfl ?_
  refine tz_fR (pc := 96) dX9_takeFrom_96 fl_X9_27 r_125_6 ?_
  refine tz_iconst (pc := 99) dX9_takeFrom_99 ?_
  refine tz_aload_n (pc := 100) dX9_takeFrom_100 rfl rfl ?_
  refine tz_fR (pc := 101) dX9_takeFrom_101 fl_X9_27 r_6_6 ?_
  refine tz_iconst (pc := 104) dX9_takeFrom_104 ?_
  refine tz_aload_n (pc := 105) dX9_takeFrom_105 rfl rfl ?_
  refine tz_fI (pc := 106) (kz := 12) (v := (J 125 12)) dX9_takeFrom_106 fl_X9_45 i_6_12 rfl rfl (fun r_106 => ?_)
  refine tz_cp (pc := 109) (sp := 0) (dp := 0) (ln := (J 125 12)) dX9_takeFrom_109 ml_X9_105 a_131 a_12 rfl rfl (by omega) (Nat.le_of_ble_eq_true rfl) (by decide +kernel) ?_
  refine tz_aload_n (pc := 112) dX9_takeFrom_112 rfl rfl ?_
  refine tz_fR (pc := 113) dX9_takeFrom_113 fl_X9_30 r_125_7 ?_
  refine tz_iconst (pc := 116) dX9_takeFrom_116 ?_
  refine tz_aload_n (pc := 117) dX9_takeFrom_117 rfl rfl ?_
  refine tz_fR (pc := 118) dX9_takeFrom_118 fl_X9_30 r_6_7 ?_
  refine tz_iconst (pc := 121) dX9_takeFrom_121 ?_
  refine tz_aload_n (pc := 122) dX9_takeFrom_122 rfl rfl ?_
  refine tz_fI (pc := 123) (kz := 12) (v := (J 125 12)) dX9_takeFrom_123 fl_X9_45 i_6_12 rfl rfl (fun r_123 => ?_)
  refine tz_cp (pc := 126) (sp := 0) (dp := 0) (ln := (J 125 12)) dX9_takeFrom_126 ml_X9_105 a_132 a_13 rfl rfl (by omega) (Nat.le_of_ble_eq_true rfl) (by decide +kernel) ?_
  refine tz_aload_n (pc := 129) dX9_takeFrom_129 rfl rfl ?_
  refine tz_fR (pc := 130) dX9_takeFrom_130 fl_X9_33 r_125_8 ?_
  refine tz_iconst (pc := 133) dX9_takeFrom_133 ?_
  refine tz_aload_n (pc := 134) dX9_takeFrom_134 rfl rfl ?_
  refine tz_fR (pc := 135) dX9_takeFrom_135 fl_X9_33 r_6_8 ?_
  refine tz_iconst (pc := 138) dX9_takeFrom_138 ?_
  refine tz_aload_n (pc := 139) dX9_takeFrom_139 rfl rfl ?_
  refine tz_fI (pc := 140) (kz := 12) (v := (J 125 12)) dX9_takeFrom_140 fl_X9_45 i_6_12 rfl rfl (fun r_140 => ?_)
  refine tz_cp (pc := 143) (sp := 0) (dp := 0) (ln := (J 125 12)) dX9_takeFrom_143 ml_X9_105 a_133 a_14 rfl rfl (by omega) (Nat.le_of_ble_eq_true rfl) (by decide +kernel) ?_
  refine tz_aload_n (pc := 146) dX9_takeFrom_146 rfl rfl ?_
  refine tz_fR (pc := 147) dX9_takeFrom_147 fl_X9_36 r_125_9 ?_
  refine tz_iconst (pc := 150) dX9_takeFrom_150 ?_
  refine tz_aload_n (pc := 151) dX9_takeFrom_151 rfl rfl ?_
  refine tz_fR (pc := 152) dX9_takeFrom_152 fl_X9_36 r_6_9 ?_
  refine tz_iconst (pc := 155) dX9_takeFrom_155 ?_
  refine tz_aload_n (pc := 156) dX9_takeFrom_156 rfl rfl ?_
  refine tz_fI (pc := 157) (kz := 12) (v := (J 125 12)) dX9_takeFrom_157 fl_X9_45 i_6_12 rfl rfl (fun r_157 => ?_)
  refine tz_cp (pc := 160) (sp := 0) (dp := 0) (ln := (J 125 12)) dX9_takeFrom_160 ml_X9_105 a_134 a_15 rfl rfl (by omega) (Nat.le_of_ble_eq_true rfl) (by decide +kernel) ?_
  refine tz_aload_n (pc := 163) dX9_takeFrom_163 rfl rfl ?_
  refine tz_fR (pc := 164) dX9_takeFrom_164 fl_X9_39 r_125_10 ?_
  refine tz_iconst (pc := 167) dX9_takeFrom_167 ?_
  refine tz_aload_n (pc := 168) dX9_takeFrom_168 rfl rfl ?_
  refine tz_fR (pc := 169) dX9_takeFrom_169 fl_X9_39 r_6_10 ?_
  refine tz_iconst (pc := 172) dX9_takeFrom_172 ?_
  refine tz_sipush (pc := 173) dX9_takeFrom_173 (by decide) ?_
  refine tz_cp (pc := 176) (sp := 0) (dp := 0) (ln := 256) dX9_takeFrom_176 ml_X9_105 a_135 a_16 rfl rfl (by decide) (Nat.le_of_ble_eq_true rfl) (by decide +kernel) ?_
  exact tz_vret (pc := 179) dX9_takeFrom_179 rfl (Nat.le_of_ble_eq_true rfl) (Nat.le_of_ble_eq_true rfl) ⟨Nat.le_refl _, Nat.le_add_right _ _⟩ ⟨rfl, rfl⟩

