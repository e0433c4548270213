theorem tb_c1 {as : List Value} (h : as.all (fun v => v.category == 1) = true) : ∀ v ∈ as, v.category = 1 := fun v hv => by simpa using List.all_eq_true.mp h v hv
def tb_Rd (v : Option Value) (n : Nat) (sh : Nat → tb_Sh) (I : tb_I) : tb_Q := fun r n' sh' I' => r = v ∧ n' = n ∧ sh' = sh ∧ I' = I
def tb_fl (I : tb_I) (c i : Nat) (v : Int32) : tb_I := tb_row I c (fun j => if j < i then v else I c j)
theorem tb_fl_0 (I : tb_I) (c : Nat) (v : Int32) : tb_fl I c 0 v = I := by
  funext k
  unfold tb_fl tb_row
  by_cases h : k = c
  · subst h
    simp
  · simp [h]
theorem tb_fl_s (I : tb_I) (c i : Nat) (v : Int32) : tb_up (tb_fl I c i v) c i v = tb_fl I c (i + 1) v := by
  funext k
  unfold tb_up tb_fl tb_row
  by_cases h : k = c
  · subst h
    funext j
    simp only [if_true, upd]
    by_cases hj : j = i
    · subst hj
      simp
    · by_cases h2 : j < i
      · simp [hj, h2, Nat.lt_succ_of_lt h2]
      · have : ¬ j < i + 1 := by omega
        simp [hj, h2, this]
  · simp [h]
theorem tb_cA_len {sh : Nat → tb_Sh} {c len : Nat} (h : tb_cA sh c len = true) : len ≤ 100000 := by
  simp only [tb_cA, Bool.and_eq_true, decide_eq_true_eq] at h
  exact h.2
set_option maxHeartbeats 4000000 in
set_option maxRecDepth 100000 in
/-- Arrays.fill(int[], int) -/
theorem kJ_fill {l : Launch} {G : tb_G} (hl : l.stackTraces = false) (n : Nat) (sh : Nat → tb_Sh) (I : tb_I) (c len : Nat) (v : Int32) (a_c : tb_cA sh c len = true) : tb_Ok l G M_J7_fill_53178 0 0 0 [.ref c, .int v] n sh I (tb_Rd none n sh (tb_fl I c len v)) tb_Nx := by
  refine tb_Ok.of hl (by decide +kernel) rfl (tb_c1 rfl) (Nat.le_of_ble_eq_true rfl) ?_
  show tb_At l G M_J7_fill_53178 (tb_rm 0 0 0) none _ 0 0 n sh I 0 [some (.ref c), some (.int v), none, none] []
  have hlen := tb_cA_len a_c
  have loop : ∀ (m i : Nat), i + m = len → tb_At l G M_J7_fill_53178 (tb_rm 0 0 0) none (tb_ZM G 0 0 (tb_Rd none n sh (tb_fl I c len v)) tb_Nx) 0 0 n sh (tb_fl I c i v) 5 [some (.ref c), some (.int v), some (.int (nI i)), some (.int (nI len))] [] := by
    intro m
    induction m with
    | zero =>
      intro i hi
      have hi : i = len := by omega
      subst hi
      refine tb_iload_n (pc := 5) dJ7_fill_53178_5 rfl rfl ?_
      refine tb_iload_n (pc := 6) dJ7_fill_53178_6 rfl rfl ?_
      refine tb_icmp_geT (pc := 7) (tgt := 20) (nI_le (Nat.le_refl _) (by omega)) dJ7_fill_53178_7 (by decide) ?_
      exact tb_vret (pc := 20) dJ7_fill_53178_20 rfl (Nat.le_of_ble_eq_true rfl) (Nat.le_of_ble_eq_true rfl) ⟨rfl, rfl, rfl, rfl⟩
    | succ m ih =>
      intro i hi
      refine tb_iload_n (pc := 5) dJ7_fill_53178_5 rfl rfl ?_
      refine tb_iload_n (pc := 6) dJ7_fill_53178_6 rfl rfl ?_
      refine tb_icmp_geF (pc := 7) (tgt := 20) (nI_ge (by omega) (by omega)) dJ7_fill_53178_7 (by decide) ?_
      refine tb_aload_n (pc := 10) dJ7_fill_53178_10 rfl rfl ?_
      refine tb_iload_n (pc := 11) dJ7_fill_53178_11 rfl rfl ?_
      refine tb_iload_n (pc := 12) dJ7_fill_53178_12 rfl rfl ?_
      refine tb_aS (pc := 13) (j := i) dJ7_fill_53178_13 a_c rfl (by omega) ?_
      rw [tb_fl_s]
      refine tb_iinc (pc := 14) (v := nI (i + 1)) (L2 := [_, _, _, _]) dJ7_fill_53178_14 rfl (nI_1 i) rfl ?_
      refine tb_goto (pc := 17) (tgt := 5) dJ7_fill_53178_17 (by decide) ?_
      exact ih (i + 1) (by omega)
  refine tb_iconst (pc := 0) (v := 0) dJ7_fill_53178_0 (by decide) ?_
  refine tb_istore_n (pc := 1) (L2 := [_, _, _, _]) dJ7_fill_53178_1 rfl (by decide) rfl ?_
  refine tb_aload_n (pc := 2) dJ7_fill_53178_2 rfl rfl ?_
  refine tb_aN (pc := 3) dJ7_fill_53178_3 a_c ?_
  refine tb_istore_n (pc := 4) (L2 := [_, _, _, _]) dJ7_fill_53178_4 rfl (by decide) rfl ?_
  have h0 := loop len 0 (by omega)
  rw [tb_fl_0] at h0
  exact h0

def tb_anew (I : tb_I) (c : Nat) : tb_I := tb_up (tb_up (tb_up (tb_up (tb_up (tb_up (tb_up (tb_up (tb_up (tb_fl I c 61 0) c 7 (-1)) c 8 (-1)) c 9 (-1)) c 10 (-1)) c 11 (-1)) c 12 (-1)) c 13 (-1)) c 14 (-1)) c 1 4
set_option maxHeartbeats 4000000 in
set_option maxRecDepth 100000 in
theorem k_fillAnew {l : Launch} {G : tb_G} (hl : l.stackTraces = false) (n : Nat) (I : tb_I) (sh : Nat → tb_Sh) (c : Nat) (a_c : tb_cA sh c 61 = true) : tb_Ok l G M_X1_fillAnew 1 0 0 [.ref c] n sh I (tb_Rd none n sh (tb_anew I c)) tb_Nx := by
  refine tb_Ok.of hl (by decide +kernel) rfl (tb_c1 rfl) (Nat.le_of_ble_eq_true rfl) ?_
  show tb_At l G M_X1_fillAnew (tb_rm 1 0 0) none _ 0 0 n sh I 0 [some (.ref c), none] []
  refine tb_aload_n (pc := 0) dX1_fillAnew_0 rfl rfl ?_
  refine tb_iconst (pc := 1) (v := 0) dX1_fillAnew_1 (by decide) ?_
  refine tb_cS (pc := 2) (kJ_fill hl n sh I c 61 0 a_c) sl_X1_19 dX1_fillAnew_2 rfl rfl (Nat.le_of_ble_eq_true rfl) ⟨(Nat.le_of_ble_eq_true rfl), (Nat.le_of_ble_eq_true rfl)⟩ rfl rfl (Nat.le_of_ble_eq_true rfl) (Nat.le_of_ble_eq_true rfl) (fun r9 n9 sh9 I9 hq9 => ?_)
  obtain ⟨rfl, rfl, rfl, rfl⟩ := hq9
  refine tb_iconst (pc := 5) (v := 0) dX1_fillAnew_5 (by decide) ?_
  refine tb_istore_n (pc := 6) (L2 := [_, _]) dX1_fillAnew_6 rfl (by decide) rfl ?_
  refine tb_iload_n (pc := 7) dX1_fillAnew_7 rfl rfl ?_
  refine tb_bipush (pc := 8) (v := 8) dX1_fillAnew_8 (by decide) ?_
  refine tb_icmp_geF (pc := 10) (tgt := 26) (by decide) dX1_fillAnew_10 (by decide) ?_
  refine tb_aload_n (pc := 13) dX1_fillAnew_13 rfl rfl ?_
  refine tb_bipush (pc := 14) (v := 7) dX1_fillAnew_14 (by decide) ?_
  refine tb_iload_n (pc := 16) dX1_fillAnew_16 rfl rfl ?_
  refine tb_iaddv (pc := 17) (v := 7) dX1_fillAnew_17 (by decide) ?_
  refine tb_iconst (pc := 18) (v := (-1)) dX1_fillAnew_18 (by decide) ?_
  refine tb_aS (pc := 19) (j := 7) dX1_fillAnew_19 a_c (by decide) (by decide) ?_
  refine tb_iinc (pc := 20) (v := 1) (L2 := [_, _]) dX1_fillAnew_20 rfl (by decide) rfl ?_
  refine tb_goto (pc := 23) (tgt := 7) dX1_fillAnew_23 (by decide) ?_
  refine tb_iload_n (pc := 7) dX1_fillAnew_7 rfl rfl ?_
  refine tb_bipush (pc := 8) (v := 8) dX1_fillAnew_8 (by decide) ?_
  refine tb_icmp_geF (pc := 10) (tgt := 26) (by decide) dX1_fillAnew_10 (by decide) ?_
  refine tb_aload_n (pc := 13) dX1_fillAnew_13 rfl rfl ?_
  refine tb_bipush (pc := 14) (v := 7) dX1_fillAnew_14 (by decide) ?_
  refine tb_iload_n (pc := 16) dX1_fillAnew_16 rfl rfl ?_
  refine tb_iaddv (pc := 17) (v := 8) dX1_fillAnew_17 (by decide) ?_
  refine tb_iconst (pc := 18) (v := (-1)) dX1_fillAnew_18 (by decide) ?_
  refine tb_aS (pc := 19) (j := 8) dX1_fillAnew_19 a_c (by decide) (by decide) ?_
  refine tb_iinc (pc := 20) (v := 2) (L2 := [_, _]) dX1_fillAnew_20 rfl (by decide) rfl ?_
  refine tb_goto (pc := 23) (tgt := 7) dX1_fillAnew_23 (by decide) ?_
  refine tb_iload_n (pc := 7) dX1_fillAnew_7 rfl rfl ?_
  refine tb_bipush (pc := 8) (v := 8) dX1_fillAnew_8 (by decide) ?_
  refine tb_icmp_geF (pc := 10) (tgt := 26) (by decide) dX1_fillAnew_10 (by decide) ?_
  refine tb_aload_n (pc := 13) dX1_fillAnew_13 rfl rfl ?_
  refine tb_bipush (pc := 14) (v := 7) dX1_fillAnew_14 (by decide) ?_
  refine tb_iload_n (pc := 16) dX1_fillAnew_16 rfl rfl ?_
  refine tb_iaddv (pc := 17) (v := 9) dX1_fillAnew_17 (by decide) ?_
  refine tb_iconst (pc := 18) (v := (-1)) dX1_fillAnew_18 (by decide) ?_
  refine tb_aS (pc := 19) (j := 9) dX1_fillAnew_19 a_c (by decide) (by decide) ?_
  refine tb_iinc (pc := 20) (v := 3) (L2 := [_, _]) dX1_fillAnew_20 rfl (by decide) rfl ?_
  refine tb_goto (pc := 23) (tgt := 7) dX1_fillAnew_23 (by decide) ?_
  refine tb_iload_n (pc := 7) dX1_fillAnew_7 rfl rfl ?_
  refine tb_bipush (pc := 8) (v := 8) dX1_fillAnew_8 (by decide) ?_
  refine tb_icmp_geF (pc := 10) (tgt := 26) (by decide) dX1_fillAnew_10 (by decide) ?_
  refine tb_aload_n (pc := 13) dX1_fillAnew_13 rfl rfl ?_
  refine tb_bipush (pc := 14) (v := 7) dX1_fillAnew_14 (by decide) ?_
  refine tb_iload_n (pc := 16) dX1_fillAnew_16 rfl rfl ?_
  refine tb_iaddv (pc := 17) (v := 10) dX1_fillAnew_17 (by decide) ?_
  refine tb_iconst (pc := 18) (v := (-1)) dX1_fillAnew_18 (by decide) ?_
  refine tb_aS (pc := 19) (j := 10) dX1_fillAnew_19 a_c (by decide) (by decide) ?_
  refine tb_iinc (pc := 20) (v := 4) (L2 := [_, _]) dX1_fillAnew_20 rfl (by decide) rfl ?_
  refine tb_goto (pc := 23) (tgt := 7) dX1_fillAnew_23 (by decide) ?_
  refine tb_iload_n (pc := 7) dX1_fillAnew_7 rfl rfl ?_
  refine tb_bipush (pc := 8) (v := 8) dX1_fillAnew_8 (by decide) ?_
  refine tb_icmp_geF (pc := 10) (tgt := 26) (by decide) dX1_fillAnew_10 (by decide) ?_
  refine tb_aload_n (pc := 13) dX1_fillAnew_13 rfl rfl ?_
  refine tb_bipush (pc := 14) (v := 7) dX1_fillAnew_14 (by decide) ?_
  refine tb_iload_n (pc := 16) dX1_fillAnew_16 rfl rfl ?_
  refine tb_iaddv (pc := 17) (v := 11) dX1_fillAnew_17 (by decide) ?_
  refine tb_iconst (pc := 18) (v := (-1)) dX1_fillAnew_18 (by decide) ?_
  refine tb_aS (pc := 19) (j := 11) dX1_fillAnew_19 a_c (by decide) (by decide) ?_
  refine tb_iinc (pc := 20) (v := 5) (L2 := [_, _]) dX1_fillAnew_20 rfl (by decide) rfl ?_
  refine tb_goto (pc := 23) (tgt := 7) dX1_fillAnew_23 (by decide) ?_
  refine tb_iload_n (pc := 7) dX1_fillAnew_7 rfl rfl ?_
  refine tb_bipush (pc := 8) (v := 8) dX1_fillAnew_8 (by decide) ?_
  refine tb_icmp_geF (pc := 10) (tgt := 26) (by decide) dX1_fillAnew_10 (by decide) ?_
  refine tb_aload_n (pc := 13) dX1_fillAnew_13 rfl rfl ?_
  refine tb_bipush (pc := 14) (v := 7) dX1_fillAnew_14 (by decide) ?_
  refine tb_iload_n (pc := 16) dX1_fillAnew_16 rfl rfl ?_
  refine tb_iaddv (pc := 17) (v := 12) dX1_fillAnew_17 (by decide) ?_
  refine tb_iconst (pc := 18) (v := (-1)) dX1_fillAnew_18 (by decide) ?_
  refine tb_aS (pc := 19) (j := 12) dX1_fillAnew_19 a_c (by decide) (by decide) ?_
  refine tb_iinc (pc := 20) (v := 6) (L2 := [_, _]) dX1_fillAnew_20 rfl (by decide) rfl ?_
  refine tb_goto (pc := 23) (tgt := 7) dX1_fillAnew_23 (by decide) ?_
  refine tb_iload_n (pc := 7) dX1_fillAnew_7 rfl rfl ?_
  refine tb_bipush (pc := 8) (v := 8) dX1_fillAnew_8 (by decide) ?_
  refine tb_icmp_geF (pc := 10) (tgt := 26) (by decide) dX1_fillAnew_10 (by decide) ?_
  refine tb_aload_n (pc := 13) dX1_fillAnew_13 rfl rfl ?_
  refine tb_bipush (pc := 14) (v := 7) dX1_fillAnew_14 (by decide) ?_
  refine tb_iload_n (pc := 16) dX1_fillAnew_16 rfl rfl ?_
  refine tb_iaddv (pc := 17) (v := 13) dX1_fillAnew_17 (by decide) ?_
  refine tb_iconst (pc := 18) (v := (-1)) dX1_fillAnew_18 (by decide) ?_
  refine tb_aS (pc := 19) (j := 13) dX1_fillAnew_19 a_c (by decide) (by decide) ?_
  refine tb_iinc (pc := 20) (v := 7) (L2 := [_, _]) dX1_fillAnew_20 rfl (by decide) rfl ?_
  refine tb_goto (pc := 23) (tgt := 7) dX1_fillAnew_23 (by decide) ?_
  refine tb_iload_n (pc := 7) dX1_fillAnew_7 rfl rfl ?_
  refine tb_bipush (pc := 8) (v := 8) dX1_fillAnew_8 (by decide) ?_
  refine tb_icmp_geF (pc := 10) (tgt := 26) (by decide) dX1_fillAnew_10 (by decide) ?_
  refine tb_aload_n (pc := 13) dX1_fillAnew_13 rfl rfl ?_
  refine tb_bipush (pc := 14) (v := 7) dX1_fillAnew_14 (by decide) ?_
  refine tb_iload_n (pc := 16) dX1_fillAnew_16 rfl rfl ?_
  refine tb_iaddv (pc := 17) (v := 14) dX1_fillAnew_17 (by decide) ?_
  refine tb_iconst (pc := 18) (v := (-1)) dX1_fillAnew_18 (by decide) ?_
  refine tb_aS (pc := 19) (j := 14) dX1_fillAnew_19 a_c (by decide) (by decide) ?_
  refine tb_iinc (pc := 20) (v := 8) (L2 := [_, _]) dX1_fillAnew_20 rfl (by decide) rfl ?_
  refine tb_goto (pc := 23) (tgt := 7) dX1_fillAnew_23 (by decide) ?_
  refine tb_iload_n (pc := 7) dX1_fillAnew_7 rfl rfl ?_
  refine tb_bipush (pc := 8) (v := 8) dX1_fillAnew_8 (by decide) ?_
  refine tb_icmp_geT (pc := 10) (tgt := 26) (by decide) dX1_fillAnew_10 (by decide) ?_
  refine tb_aload_n (pc := 26) dX1_fillAnew_26 rfl rfl ?_
  refine tb_iconst (pc := 27) (v := 1) dX1_fillAnew_27 (by decide) ?_
  refine tb_iconst (pc := 28) (v := 4) dX1_fillAnew_28 (by decide) ?_
  refine tb_aS (pc := 29) (j := 1) dX1_fillAnew_29 a_c (by decide) (by decide) ?_
  exact tb_vret (pc := 30) dX1_fillAnew_30 rfl (Nat.le_of_ble_eq_true rfl) (Nat.le_of_ble_eq_true rfl) ⟨rfl, rfl, rfl, rfl⟩

def s_kc_sym1 (sh : Nat → tb_Sh) : Nat → tb_Sh := tb_sup (tb_sup (tb_sup (tb_sup (tb_sup (tb_sup (sh) 2 (100, 10, [])) 1 (8, 4, [some 2, none, none, none])) 3 (100, 10, [])) 1 (8, 4, [some 2, some 3, none, none])) 4 (100, 10, [])) 1 (8, 4, [some 2, some 3, some 4, none])
def i_kc_sym1 (I : tb_I) : tb_I := tb_up (tb_row (tb_row (tb_row (I) 2 (fun _ => 0)) 3 (fun _ => 0)) 4 (fun _ => 0)) 1 3 0
set_option maxHeartbeats 4000000 in
set_option maxRecDepth 100000 in
theorem kc_sym1 {l : Launch} {G : tb_G} (hl : l.stackTraces = false) (sh : Nat → tb_Sh) (I : tb_I) (h1 : sh 1 = (8, 4, [none, none, none, none])) : tb_Ok l G M_X8_init 1 3 30 [.ref 1] 2 sh I (tb_Rd none 5 (s_kc_sym1 sh) (i_kc_sym1 I)) tb_Nx := by
  refine tb_Ok.of hl (by decide +kernel) rfl (tb_c1 rfl) (Nat.le_of_ble_eq_true rfl) ?_
  show tb_At l G M_X8_init (tb_rm 1 3 30) none _ 0 0 2 sh I 0 [some (.ref 1)] []
  refine tb_aload_n (pc := 0) dX8_init_0 rfl rfl ?_
  refine tb_objInit (pc := 1) dX8_init_1 ml_X8_3 wk_obj2 wk_obj3 (Nat.le_of_ble_eq_true rfl) (Nat.le_of_ble_eq_true rfl) ?_
  refine tb_aload_n (pc := 4) dX8_init_4 rfl rfl ?_
  refine tb_bipush (pc := 5) (v := 10) dX8_init_5 (by decide) ?_
  refine tb_newa (pc := 7) (len := 10) (m1 := 1) (m2 := 10) (n' := 3) dX8_init_7 wk_arr_int (Nat.le_of_ble_eq_true rfl) (by decide) (by decide) rfl rfl rfl (Nat.le_of_ble_eq_true rfl) (Nat.le_of_ble_eq_true rfl) ?_
  refine tb_putR (pc := 9) (rs := [none, none, none, none]) (rs2 := [some 2, none, none, none]) dX8_init_9 rfl ff_X8_9 h1 (by decide) (by decide) (by decide) (by decide) rfl rfl ?_
  refine tb_aload_n (pc := 12) dX8_init_12 rfl rfl ?_
  refine tb_bipush (pc := 13) (v := 10) dX8_init_13 (by decide) ?_
  refine tb_newa (pc := 15) (len := 10) (m1 := 2) (m2 := 20) (n' := 4) dX8_init_15 wk_arr_int (Nat.le_of_ble_eq_true rfl) (by decide) (by decide) rfl rfl rfl (Nat.le_of_ble_eq_true rfl) (Nat.le_of_ble_eq_true rfl) ?_
  refine tb_putR (pc := 17) (rs := [some 2, none, none, none]) (rs2 := [some 2, some 3, none, none]) dX8_init_17 rfl ff_X8_15 rfl (by decide) (by decide) (by decide) (by decide) rfl rfl ?_
  refine tb_aload_n (pc := 20) dX8_init_20 rfl rfl ?_
  refine tb_bipush (pc := 21) (v := 10) dX8_init_21 (by decide) ?_
  refine tb_newa (pc := 23) (len := 10) (m1 := 3) (m2 := 30) (n' := 5) dX8_init_23 wk_arr_int (Nat.le_of_ble_eq_true rfl) (by decide) (by decide) rfl rfl rfl (Nat.le_of_ble_eq_true rfl) (Nat.le_of_ble_eq_true rfl) ?_
  refine tb_putR (pc := 25) (rs := [some 2, some 3, none, none]) (rs2 := [some 2, some 3, some 4, none]) dX8_init_25 rfl ff_X8_18 rfl (by decide) (by decide) (by decide) (by decide) rfl rfl ?_
  refine tb_aload_n (pc := 28) dX8_init_28 rfl rfl ?_
  refine tb_iconst (pc := 29) (v := 0) dX8_init_29 (by decide) ?_
  refine tb_putI (pc := 30) dX8_init_30 fl_X8_21 rfl (by decide) (by decide) rfl ?_
  exact tb_vret (pc := 33) dX8_init_33 rfl (Nat.le_of_ble_eq_true rfl) (Nat.le_of_ble_eq_true rfl) ⟨rfl, rfl, rfl, rfl⟩
def s_kc_sym121 (sh : Nat → tb_Sh) : Nat → tb_Sh := tb_sup (tb_sup (tb_sup (tb_sup (tb_sup (tb_sup (sh) 122 (100, 10, [])) 121 (8, 4, [some 122, none, none, none])) 123 (100, 10, [])) 121 (8, 4, [some 122, some 123, none, none])) 124 (100, 10, [])) 121 (8, 4, [some 122, some 123, some 124, none])
def i_kc_sym121 (I : tb_I) : tb_I := tb_up (tb_row (tb_row (tb_row (I) 122 (fun _ => 0)) 123 (fun _ => 0)) 124 (fun _ => 0)) 121 3 0
set_option maxHeartbeats 4000000 in
set_option maxRecDepth 100000 in
theorem kc_sym121 {l : Launch} {G : tb_G} (hl : l.stackTraces = false) (sh : Nat → tb_Sh) (I : tb_I) (h121 : sh 121 = (8, 4, [none, none, none, none])) : tb_Ok l G M_X8_init 1 3 30 [.ref 121] 122 sh I (tb_Rd none 125 (s_kc_sym121 sh) (i_kc_sym121 I)) tb_Nx := by
  refine tb_Ok.of hl (by decide +kernel) rfl (tb_c1 rfl) (Nat.le_of_ble_eq_true rfl) ?_
  show tb_At l G M_X8_init (tb_rm 1 3 30) none _ 0 0 122 sh I 0 [some (.ref 121)] []
  refine tb_aload_n (pc := 0) dX8_init_0 rfl rfl ?_
  refine tb_objInit (pc := 1) dX8_init_1 ml_X8_3 wk_obj2 wk_obj3 (Nat.le_of_ble_eq_true rfl) (Nat.le_of_ble_eq_true rfl) ?_
  refine tb_aload_n (pc := 4) dX8_init_4 rfl rfl ?_
  refine tb_bipush (pc := 5) (v := 10) dX8_init_5 (by decide) ?_
  refine tb_newa (pc := 7) (len := 10) (m1 := 1) (m2 := 10) (n' := 123) dX8_init_7 wk_arr_int (Nat.le_of_ble_eq_true rfl) (by decide) (by decide) rfl rfl rfl (Nat.le_of_ble_eq_true rfl) (Nat.le_of_ble_eq_true rfl) ?_
  refine tb_putR (pc := 9) (rs := [none, none, none, none]) (rs2 := [some 122, none, none, none]) dX8_init_9 rfl ff_X8_9 h121 (by decide) (by decide) (by decide) (by decide) rfl rfl ?_
  refine tb_aload_n (pc := 12) dX8_init_12 rfl rfl ?_
  refine tb_bipush (pc := 13) (v := 10) dX8_init_13 (by decide) ?_
  refine tb_newa (pc := 15) (len := 10) (m1 := 2) (m2 := 20) (n' := 124) dX8_init_15 wk_arr_int (Nat.le_of_ble_eq_true rfl) (by decide) (by decide) rfl rfl rfl (Nat.le_of_ble_eq_true rfl) (Nat.le_of_ble_eq_true rfl) ?_
  refine tb_putR (pc := 17) (rs := [some 122, none, none, none]) (rs2 := [some 122, some 123, none, none]) dX8_init_17 rfl ff_X8_15 rfl (by decide) (by decide) (by decide) (by decide) rfl rfl ?_
  refine tb_aload_n (pc := 20) dX8_init_20 rfl rfl ?_
  refine tb_bipush (pc := 21) (v := 10) dX8_init_21 (by decide) ?_
  refine tb_newa (pc := 23) (len := 10) (m1 := 3) (m2 := 30) (n' := 125) dX8_init_23 wk_arr_int (Nat.le_of_ble_eq_true rfl) (by decide) (by decide) rfl rfl rfl (Nat.le_of_ble_eq_true rfl) (Nat.le_of_ble_eq_true rfl) ?_
  refine tb_putR (pc := 25) (rs := [some 122, some 123, none, none]) (rs2 := [some 122, some 123, some 124, none]) dX8_init_25 rfl ff_X8_18 rfl (by decide) (by decide) (by decide) (by decide) rfl rfl ?_
  refine tb_aload_n (pc := 28) dX8_init_28 rfl rfl ?_
  refine tb_iconst (pc := 29) (v := 0) dX8_init_29 (by decide) ?_
  refine tb_putI (pc := 30) dX8_init_30 fl_X8_21 rfl (by decide) (by decide) rfl ?_
  exact tb_vret (pc := 33) dX8_init_33 rfl (Nat.le_of_ble_eq_true rfl) (Nat.le_of_ble_eq_true rfl) ⟨rfl, rfl, rfl, rfl⟩
def s_kc_ter6 (sh : Nat → tb_Sh) : Nat → tb_Sh := tb_sup (tb_sup (tb_sup (tb_sup (tb_sup (tb_sup (tb_sup (tb_sup (tb_sup (tb_sup (tb_sup (tb_sup (tb_sup (tb_sup (tb_sup (tb_sup (tb_sup (tb_sup (tb_sup (tb_sup (tb_sup (tb_sup (tb_sup (sh) 7 (100, 401, [])) 6 (9, 13, [none, some 7, none, none, none, none, none, none, none, none, none, none, none])) 8 (100, 401, [])) 6 (9, 13, [none, some 7, some 8, none, none, none, none, none, none, none, none, none, none])) 9 (100, 1203, [])) 6 (9, 13, [none, some 7, some 8, some 9, none, none, none, none, none, none, none, none, none])) 10 (100, 401, [])) 6 (9, 13, [none, some 7, some 8, some 9, some 10, none, none, none, none, none, none, none, none])) 11 (100, 401, [])) 6 (9, 13, [none, some 7, some 8, some 9, some 10, some 11, none, none, none, none, none, none, none])) 12 (100, 401, [])) 6 (9, 13, [none, some 7, some 8, some 9, some 10, some 11, some 12, none, none, none, none, none, none])) 13 (100, 401, [])) 6 (9, 13, [none, some 7, some 8, some 9, some 10, some 11, some 12, some 13, none, none, none, none, none])) 14 (100, 401, [])) 6 (9, 13, [none, some 7, some 8, some 9, some 10, some 11, some 12, some 13, some 14, none, none, none, none])) 15 (100, 401, [])) 6 (9, 13, [none, some 7, some 8, some 9, some 10, some 11, some 12, some 13, some 14, some 15, none, none, none])) 16 (100, 256, [])) 6 (9, 13, [none, some 7, some 8, some 9, some 10, some 11, some 12, some 13, some 14, some 15, some 16, none, none])) 17 (100, 401, [])) 6 (9, 13, [none, some 7, some 8, some 9, some 10, some 11, some 12, some 13, some 14, some 15, some 16, some 17, none])) 6 (9, 13, [some 1, some 7, some 8, some 9, some 10, some 11, some 12, some 13, some 14, some 15, some 16, some 17, none])
def i_kc_ter6 (I : tb_I) : tb_I := tb_fl (tb_up (tb_row (tb_row (tb_row (tb_row (tb_row (tb_row (tb_row (tb_row (tb_row (tb_row (tb_row (I) 7 (fun _ => 0)) 8 (fun _ => 0)) 9 (fun _ => 0)) 10 (fun _ => 0)) 11 (fun _ => 0)) 12 (fun _ => 0)) 13 (fun _ => 0)) 14 (fun _ => 0)) 15 (fun _ => 0)) 16 (fun _ => 0)) 17 (fun _ => 0)) 6 12 0) 16 256 (-1)
set_option maxHeartbeats 4000000 in
set_option maxRecDepth 100000 in
theorem kc_ter6 {l : Launch} {G : tb_G} (hl : l.stackTraces = false) (sh : Nat → tb_Sh) (I : tb_I) (h6 : sh 6 = (9, 13, [none, none, none, none, none, none, none, none, none, none, none, none, none])) : tb_Ok l G M_X9_init 1 11 5068 [.ref 6, .ref 1] 7 sh I (tb_Rd none 18 (s_kc_ter6 sh) (i_kc_ter6 I)) tb_Nx := by
  refine tb_Ok.of hl (by decide +kernel) rfl (tb_c1 rfl) (Nat.le_of_ble_eq_true rfl) ?_
  show tb_At l G M_X9_init (tb_rm 1 11 5068) none _ 0 0 7 sh I 0 [some (.ref 6), some (.ref 1)] []
  refine tb_aload_n (pc := 0) dX9_init_0 rfl rfl ?_
  refine tb_objInit (pc := 1) dX9_init_1 ml_X9_3 wk_obj2 wk_obj3 (Nat.le_of_ble_eq_true rfl) (Nat.le_of_ble_eq_true rfl) ?_
  refine tb_aload_n (pc := 4) dX9_init_4 rfl rfl ?_
  refine tb_sipush (pc := 5) (v := 401) dX9_init_5 (by decide) ?_
  refine tb_newa (pc := 8) (len := 401) (m1 := 1) (m2 := 401) (n' := 8) dX9_init_8 wk_arr_int (Nat.le_of_ble_eq_true rfl) (by decide) (by decide) rfl rfl rfl (Nat.le_of_ble_eq_true rfl) (Nat.le_of_ble_eq_true rfl) ?_
  refine tb_putR (pc := 10) (rs := [none, none, none, none, none, none, none, none, none, none, none, none, none]) (rs2 := [none, some 7, none, none, none, none, none, none, none, none, none, none, none]) dX9_init_10 rfl ff_X9_11 h6 (by decide) (by decide) (by decide) (by decide) rfl rfl ?_
  refine tb_aload_n (pc := 13) dX9_init_13 rfl rfl ?_
  refine tb_sipush (pc := 14) (v := 401) dX9_init_14 (by decide) ?_
  refine tb_newa (pc := 17) (len := 401) (m1 := 2) (m2 := 802) (n' := 9) dX9_init_17 wk_arr_int (Nat.le_of_ble_eq_true rfl) (by decide) (by decide) rfl rfl rfl (Nat.le_of_ble_eq_true rfl) (Nat.le_of_ble_eq_true rfl) ?_
  refine tb_putR (pc := 19) (rs := [none, some 7, none, none, none, none, none, none, none, none, none, none, none]) (rs2 := [none, some 7, some 8, none, none, none, none, none, none, none, none, none, none]) dX9_init_19 rfl ff_X9_15 rfl (by decide) (by decide) (by decide) (by decide) rfl rfl ?_
  refine tb_aload_n (pc := 22) dX9_init_22 rfl rfl ?_
  refine tb_sipush (pc := 23) (v := 1203) dX9_init_23 (by decide) ?_
  refine tb_newa (pc := 26) (len := 1203) (m1 := 3) (m2 := 2005) (n' := 10) dX9_init_26 wk_arr_int (Nat.le_of_ble_eq_true rfl) (by decide) (by decide) rfl rfl rfl (Nat.le_of_ble_eq_true rfl) (Nat.le_of_ble_eq_true rfl) ?_
  refine tb_putR (pc := 28) (rs := [none, some 7, some 8, none, none, none, none, none, none, none, none, none, none]) (rs2 := [none, some 7, some 8, some 9, none, none, none, none, none, none, none, none, none]) dX9_init_28 rfl ff_X9_18 rfl (by decide) (by decide) (by decide) (by decide) rfl rfl ?_
  refine tb_aload_n (pc := 31) dX9_init_31 rfl rfl ?_
  refine tb_sipush (pc := 32) (v := 401) dX9_init_32 (by decide) ?_
  refine tb_newa (pc := 35) (len := 401) (m1 := 4) (m2 := 2406) (n' := 11) dX9_init_35 wk_arr_int (Nat.le_of_ble_eq_true rfl) (by decide) (by decide) rfl rfl rfl (Nat.le_of_ble_eq_true rfl) (Nat.le_of_ble_eq_true rfl) ?_
  refine tb_putR (pc := 37) (rs := [none, some 7, some 8, some 9, none, none, none, none, none, none, none, none, none]) (rs2 := [none, some 7, some 8, some 9, some 10, none, none, none, none, none, none, none, none]) dX9_init_37 rfl ff_X9_21 rfl (by decide) (by decide) (by decide) (by decide) rfl rfl ?_
  refine tb_aload_n (pc := 40) dX9_init_40 rfl rfl ?_
  refine tb_sipush (pc := 41) (v := 401) dX9_init_41 (by decide) ?_
  refine tb_newa (pc := 44) (len := 401) (m1 := 5) (m2 := 2807) (n' := 12) dX9_init_44 wk_arr_int (Nat.le_of_ble_eq_true rfl) (by decide) (by decide) rfl rfl rfl (Nat.le_of_ble_eq_true rfl) (Nat.le_of_ble_eq_true rfl) ?_
  refine tb_putR (pc := 46) (rs := [none, some 7, some 8, some 9, some 10, none, none, none, none, none, none, none, none]) (rs2 := [none, some 7, some 8, some 9, some 10, some 11, none, none, none, none, none, none, none]) dX9_init_46 rfl ff_X9_24 rfl (by decide) (by decide) (by decide) (by decide) rfl rfl ?_
  refine tb_aload_n (pc := 49) dX9_init_49 rfl rfl ?_
  refine tb_sipush (pc := 50) (v := 401) dX9_init_50 (by decide) ?_
  refine tb_newa (pc := 53) (len := 401) (m1 := 6) (m2 := 3208) (n' := 13) dX9_init_53 wk_arr_int (Nat.le_of_ble_eq_true rfl) (by decide) (by decide) rfl rfl rfl (Nat.le_of_ble_eq_true rfl) (Nat.le_of_ble_eq_true rfl) ?_
  refine tb_putR (pc := 55) (rs := [none, some 7, some 8, some 9, some 10, some 11, none, none, none, none, none, none, none]) (rs2 := [none, some 7, some 8, some 9, some 10, some 11, some 12, none, none, none, none, none, none]) dX9_init_55 rfl ff_X9_27 rfl (by decide) (by decide) (by decide) (by decide) rfl rfl ?_
  refine tb_aload_n (pc := 58) dX9_init_58 rfl rfl ?_
  refine tb_sipush (pc := 59) (v := 401) dX9_init_59 (by decide) ?_
  refine tb_newa (pc := 62) (len := 401) (m1 := 7) (m2 := 3609) (n' := 14) dX9_init_62 wk_arr_int (Nat.le_of_ble_eq_true rfl) (by decide) (by decide) rfl rfl rfl (Nat.le_of_ble_eq_true rfl) (Nat.le_of_ble_eq_true rfl) ?_
  refine tb_putR (pc := 64) (rs := [none, some 7, some 8, some 9, some 10, some 11, some 12, none, none, none, none, none, none]) (rs2 := [none, some 7, some 8, some 9, some 10, some 11, some 12, some 13, none, none, none, none, none]) dX9_init_64 rfl ff_X9_30 rfl (by decide) (by decide) (by decide) (by decide) rfl rfl ?_
  refine tb_aload_n (pc := 67) dX9_init_67 rfl rfl ?_
  refine tb_sipush (pc := 68) (v := 401) dX9_init_68 (by decide) ?_
  refine tb_newa (pc := 71) (len := 401) (m1 := 8) (m2 := 4010) (n' := 15) dX9_init_71 wk_arr_int (Nat.le_of_ble_eq_true rfl) (by decide) (by decide) rfl rfl rfl (Nat.le_of_ble_eq_true rfl) (Nat.le_of_ble_eq_true rfl) ?_
  refine tb_putR (pc := 73) (rs := [none, some 7, some 8, some 9, some 10, some 11, some 12, some 13, none, none, none, none, none]) (rs2 := [none, some 7, some 8, some 9, some 10, some 11, some 12, some 13, some 14, none, none, none, none]) dX9_init_73 rfl ff_X9_33 rfl (by decide) (by decide) (by decide) (by decide) rfl rfl ?_
  refine tb_aload_n (pc := 76) dX9_init_76 rfl rfl ?_
  refine tb_sipush (pc := 77) (v := 401) dX9_init_77 (by decide) ?_
  refine tb_newa (pc := 80) (len := 401) (m1 := 9) (m2 := 4411) (n' := 16) dX9_init_80 wk_arr_int (Nat.le_of_ble_eq_true rfl) (by decide) (by decide) rfl rfl rfl (Nat.le_of_ble_eq_true rfl) (Nat.le_of_ble_eq_true rfl) ?_
  refine tb_putR (pc := 82) (rs := [none, some 7, some 8, some 9, some 10, some 11, some 12, some 13, some 14, none, none, none, none]) (rs2 := [none, some 7, some 8, some 9, some 10, some 11, some 12, some 13, some 14, some 15, none, none, none]) dX9_init_82 rfl ff_X9_36 rfl (by decide) (by decide) (by decide) (by decide) rfl rfl ?_
  refine tb_aload_n (pc := 85) dX9_init_85 rfl rfl ?_
  refine tb_sipush (pc := 86) (v := 256) dX9_init_86 (by decide) ?_
  refine tb_newa (pc := 89) (len := 256) (m1 := 10) (m2 := 4667) (n' := 17) dX9_init_89 wk_arr_int (Nat.le_of_ble_eq_true rfl) (by decide) (by decide) rfl rfl rfl (Nat.le_of_ble_eq_true rfl) (Nat.le_of_ble_eq_true rfl) ?_
  refine tb_putR (pc := 91) (rs := [none, some 7, some 8, some 9, some 10, some 11, some 12, some 13, some 14, some 15, none, none, none]) (rs2 := [none, some 7, some 8, some 9, some 10, some 11, some 12, some 13, some 14, some 15, some 16, none, none]) dX9_init_91 rfl ff_X9_39 rfl (by decide) (by decide) (by decide) (by decide) rfl rfl ?_
  refine tb_aload_n (pc := 94) dX9_init_94 rfl rfl ?_
  refine tb_sipush (pc := 95) (v := 401) dX9_init_95 (by decide) ?_
  refine tb_newa (pc := 98) (len := 401) (m1 := 11) (m2 := 5068) (n' := 18) dX9_init_98 wk_arr_int (Nat.le_of_ble_eq_true rfl) (by decide) (by decide) rfl rfl rfl (Nat.le_of_ble_eq_true rfl) (Nat.le_of_ble_eq_true rfl) ?_
  refine tb_putR (pc := 100) (rs := [none, some 7, some 8, some 9, some 10, some 11, some 12, some 13, some 14, some 15, some 16, none, none]) (rs2 := [none, some 7, some 8, some 9, some 10, some 11, some 12, some 13, some 14, some 15, some 16, some 17, none]) dX9_init_100 rfl ff_X9_42 rfl (by decide) (by decide) (by decide) (by decide) rfl rfl ?_
  refine tb_aload_n (pc := 103) dX9_init_103 rfl rfl ?_
  refine tb_iconst (pc := 104) (v := 0) dX9_init_104 (by decide) ?_
  refine tb_putI (pc := 105) dX9_init_105 fl_X9_45 rfl (by decide) (by decide) rfl ?_
  refine tb_aload_n (pc := 108) dX9_init_108 rfl rfl ?_
  refine tb_aload_n (pc := 109) dX9_init_109 rfl rfl ?_
  refine tb_putR (pc := 110) (rs := [none, some 7, some 8, some 9, some 10, some 11, some 12, some 13, some 14, some 15, some 16, some 17, none]) (rs2 := [some 1, some 7, some 8, some 9, some 10, some 11, some 12, some 13, some 14, some 15, some 16, some 17, none]) dX9_init_110 rfl ff_X9_49 rfl (by decide) (by decide) (by decide) (by decide) rfl rfl ?_
  refine tb_aload_n (pc := 113) dX9_init_113 rfl rfl ?_
  refine tb_getR (pc := 114) (rs := [some 1, some 7, some 8, some 9, some 10, some 11, some 12, some 13, some 14, some 15, some 16, some 17, none]) dX9_init_114 fl_X9_39 rfl (by decide) (by decide) rfl rfl ?_
  refine tb_iconst (pc := 117) (v := (-1)) dX9_init_117 (by decide) ?_
  refine tb_cS (pc := 118) (kJ_fill hl _ _ _ 16 256 (-1) (by rfl)) sl_X9_53 dX9_init_118 rfl rfl (Nat.le_of_ble_eq_true rfl) ⟨(Nat.le_of_ble_eq_true rfl), (Nat.le_of_ble_eq_true rfl)⟩ rfl rfl (Nat.le_of_ble_eq_true rfl) (Nat.le_of_ble_eq_true rfl) (fun r9 n9 sh9 I9 hq9 => ?_)
  obtain ⟨rfl, rfl, rfl, rfl⟩ := hq9
  exact tb_vret (pc := 121) dX9_init_121 rfl (Nat.le_of_ble_eq_true rfl) (Nat.le_of_ble_eq_true rfl) ⟨rfl, rfl, rfl, rfl⟩
def s_kc_ter64 (sh : Nat → tb_Sh) : Nat → tb_Sh := tb_sup (tb_sup (tb_sup (tb_sup (tb_sup (tb_sup (tb_sup (tb_sup (tb_sup (tb_sup (tb_sup (tb_sup (tb_sup (tb_sup (tb_sup (tb_sup (tb_sup (tb_sup (tb_sup (tb_sup (tb_sup (tb_sup (tb_sup (sh) 65 (100, 401, [])) 64 (9, 13, [none, some 65, none, none, none, none, none, none, none, none, none, none, none])) 66 (100, 401, [])) 64 (9, 13, [none, some 65, some 66, none, none, none, none, none, none, none, none, none, none])) 67 (100, 1203, [])) 64 (9, 13, [none, some 65, some 66, some 67, none, none, none, none, none, none, none, none, none])) 68 (100, 401, [])) 64 (9, 13, [none, some 65, some 66, some 67, some 68, none, none, none, none, none, none, none, none])) 69 (100, 401, [])) 64 (9, 13, [none, some 65, some 66, some 67, some 68, some 69, none, none, none, none, none, none, none])) 70 (100, 401, [])) 64 (9, 13, [none, some 65, some 66, some 67, some 68, some 69, some 70, none, none, none, none, none, none])) 71 (100, 401, [])) 64 (9, 13, [none, some 65, some 66, some 67, some 68, some 69, some 70, some 71, none, none, none, none, none])) 72 (100, 401, [])) 64 (9, 13, [none, some 65, some 66, some 67, some 68, some 69, some 70, some 71, some 72, none, none, none, none])) 73 (100, 401, [])) 64 (9, 13, [none, some 65, some 66, some 67, some 68, some 69, some 70, some 71, some 72, some 73, none, none, none])) 74 (100, 256, [])) 64 (9, 13, [none, some 65, some 66, some 67, some 68, some 69, some 70, some 71, some 72, some 73, some 74, none, none])) 75 (100, 401, [])) 64 (9, 13, [none, some 65, some 66, some 67, some 68, some 69, some 70, some 71, some 72, some 73, some 74, some 75, none])) 64 (9, 13, [some 1, some 65, some 66, some 67, some 68, some 69, some 70, some 71, some 72, some 73, some 74, some 75, none])
def i_kc_ter64 (I : tb_I) : tb_I := tb_fl (tb_up (tb_row (tb_row (tb_row (tb_row (tb_row (tb_row (tb_row (tb_row (tb_row (tb_row (tb_row (I) 65 (fun _ => 0)) 66 (fun _ => 0)) 67 (fun _ => 0)) 68 (fun _ => 0)) 69 (fun _ => 0)) 70 (fun _ => 0)) 71 (fun _ => 0)) 72 (fun _ => 0)) 73 (fun _ => 0)) 74 (fun _ => 0)) 75 (fun _ => 0)) 64 12 0) 74 256 (-1)
set_option maxHeartbeats 4000000 in
set_option maxRecDepth 100000 in
theorem kc_ter64 {l : Launch} {G : tb_G} (hl : l.stackTraces = false) (sh : Nat → tb_Sh) (I : tb_I) (h64 : sh 64 = (9, 13, [none, none, none, none, none, none, none, none, none, none, none, none, none])) : tb_Ok l G M_X9_init 1 11 5068 [.ref 64, .ref 1] 65 sh I (tb_Rd none 76 (s_kc_ter64 sh) (i_kc_ter64 I)) tb_Nx := by
  refine tb_Ok.of hl (by decide +kernel) rfl (tb_c1 rfl) (Nat.le_of_ble_eq_true rfl) ?_
  show tb_At l G M_X9_init (tb_rm 1 11 5068) none _ 0 0 65 sh I 0 [some (.ref 64), some (.ref 1)] []
  refine tb_aload_n (pc := 0) dX9_init_0 rfl rfl ?_
  refine tb_objInit (pc := 1) dX9_init_1 ml_X9_3 wk_obj2 wk_obj3 (Nat.le_of_ble_eq_true rfl) (Nat.le_of_ble_eq_true rfl) ?_
  refine tb_aload_n (pc := 4) dX9_init_4 rfl rfl ?_
  refine tb_sipush (pc := 5) (v := 401) dX9_init_5 (by decide) ?_
  refine tb_newa (pc := 8) (len := 401) (m1 := 1) (m2 := 401) (n' := 66) dX9_init_8 wk_arr_int (Nat.le_of_ble_eq_true rfl) (by decide) (by decide) rfl rfl rfl (Nat.le_of_ble_eq_true rfl) (Nat.le_of_ble_eq_true rfl) ?_
  refine tb_putR (pc := 10) (rs := [none, none, none, none, none, none, none, none, none, none, none, none, none]) (rs2 := [none, some 65, none, none, none, none, none, none, none, none, none, none, none]) dX9_init_10 rfl ff_X9_11 h64 (by decide) (by decide) (by decide) (by decide) rfl rfl ?_
  refine tb_aload_n (pc := 13) dX9_init_13 rfl rfl ?_
  refine tb_sipush (pc := 14) (v := 401) dX9_init_14 (by decide) ?_
  refine tb_newa (pc := 17) (len := 401) (m1 := 2) (m2 := 802) (n' := 67) dX9_init_17 wk_arr_int (Nat.le_of_ble_eq_true rfl) (by decide) (by decide) rfl rfl rfl (Nat.le_of_ble_eq_true rfl) (Nat.le_of_ble_eq_true rfl) ?_
  refine tb_putR (pc := 19) (rs := [none, some 65, none, none, none, none, none, none, none, none, none, none, none]) (rs2 := [none, some 65, some 66, none, none, none, none, none, none, none, none, none, none]) dX9_init_19 rfl ff_X9_15 rfl (by decide) (by decide) (by decide) (by decide) rfl rfl ?_
  refine tb_aload_n (pc := 22) dX9_init_22 rfl rfl ?_
  refine tb_sipush (pc := 23) (v := 1203) dX9_init_23 (by decide) ?_
  refine tb_newa (pc := 26) (len := 1203) (m1 := 3) (m2 := 2005) (n' := 68) dX9_init_26 wk_arr_int (Nat.le_of_ble_eq_true rfl) (by decide) (by decide) rfl rfl rfl (Nat.le_of_ble_eq_true rfl) (Nat.le_of_ble_eq_true rfl) ?_
  refine tb_putR (pc := 28) (rs := [none, some 65, some 66, none, none, none, none, none, none, none, none, none, none]) (rs2 := [none, some 65, some 66, some 67, none, none, none, none, none, none, none, none, none]) dX9_init_28 rfl ff_X9_18 rfl (by decide) (by decide) (by decide) (by decide) rfl rfl ?_
  refine tb_aload_n (pc := 31) dX9_init_31 rfl rfl ?_
  refine tb_sipush (pc := 32) (v := 401) dX9_init_32 (by decide) ?_
  refine tb_newa (pc := 35) (len := 401) (m1 := 4) (m2 := 2406) (n' := 69) dX9_init_35 wk_arr_int (Nat.le_of_ble_eq_true rfl) (by decide) (by decide) rfl rfl rfl (Nat.le_of_ble_eq_true rfl) (Nat.le_of_ble_eq_true rfl) ?_
  refine tb_putR (pc := 37) (rs := [none, some 65, some 66, some 67, none, none, none, none, none, none, none, none, none]) (rs2 := [none, some 65, some 66, some 67, some 68, none, none, none, none, none, none, none, none]) dX9_init_37 rfl ff_X9_21 rfl (by decide) (by decide) (by decide) (by decide) rfl rfl ?_
  refine tb_aload_n (pc := 40) dX9_init_40 rfl rfl ?_
  refine tb_sipush (pc := 41) (v := 401) dX9_init_41 (by decide) ?_
  refine tb_newa (pc := 44) (len := 401) (m1 := 5) (m2 := 2807) (n' := 70) dX9_init_44 wk_arr_int (Nat.le_of_ble_eq_true rfl) (by decide) (by decide) rfl rfl rfl (Nat.le_of_ble_eq_true rfl) (Nat.le_of_ble_eq_true rfl) ?_
  refine tb_putR (pc := 46) (rs := [none, some 65, some 66, some 67, some 68, none, none, none, none, none, none, none, none]) (rs2 := [none, some 65, some 66, some 67, some 68, some 69, none, none, none, none, none, none, none]) dX9_init_46 rfl ff_X9_24 rfl (by decide) (by decide) (by decide) (by decide) rfl rfl ?_
  refine tb_aload_n (pc := 49) dX9_init_49 rfl rfl ?_
  refine tb_sipush (pc := 50) (v := 401) dX9_init_50 (by decide) ?_
  refine tb_newa (pc := 53) (len := 401) (m1 := 6) (m2 := 3208) (n' := 71) dX9_init_53 wk_arr_int (Nat.le_of_ble_eq_true rfl) (by decide) (by decide) rfl rfl rfl (Nat.le_of_ble_eq_true rfl) (Nat.le_of_ble_eq_true rfl) ?_
  refine tb_putR (pc := 55) (rs := [none, some 65, some 66, some 67, some 68, some 69, none, none, none, none, none, none, none]) (rs2 := [none, some 65, some 66, some 67, some 68, some 69, some 70, none, none, none, none, none, none]) dX9_init_55 rfl ff_X9_27 rfl (by decide) (by decide) (by decide) (by decide) rfl rfl ?_
  refine tb_aload_n (pc := 58) dX9_init_58 rfl rfl ?_
  refine tb_sipush (pc := 59) (v := 401) dX9_init_59 (by decide) ?_
  refine tb_newa (pc := 62) (len := 401) (m1 := 7) (m2 := 3609) (n' := 72) dX9_init_62 wk_arr_int (Nat.le_of_ble_eq_true rfl) (by decide) (by decide) rfl rfl rfl (Nat.le_of_ble_eq_true rfl) (Nat.le_of_ble_eq_true rfl) ?_
  refine tb_putR (pc := 64) (rs := [none, some 65, some 66, some 67, some 68, some 69, some 70, none, none, none, none, none, none]) (rs2 := [none, some 65, some 66, some 67, some 68, some 69, some 70, some 71, none, none, none, none, none]) dX9_init_64 rfl ff_X9_30 rfl (by decide) (by decide) (by decide) (by decide) rfl rfl ?_
  refine tb_aload_n (pc := 67) dX9_init_67 rfl rfl ?_
  refine tb_sipush (pc := 68) (v := 401) dX9_init_68 (by decide) ?_
  refine tb_newa (pc := 71) (len := 401) (m1 := 8) (m2 := 4010) (n' := 73) dX9_init_71 wk_arr_int (Nat.le_of_ble_eq_true rfl) (by decide) (by decide) rfl rfl rfl (Nat.le_of_ble_eq_true rfl) (Nat.le_of_ble_eq_true rfl) ?_
  refine tb_putR (pc := 73) (rs := [none, some 65, some 66, some 67, some 68, some 69, some 70, some 71, none, none, none, none, none]) (rs2 := [none, some 65, some 66, some 67, some 68, some 69, some 70, some 71, some 72, none, none, none, none]) dX9_init_73 rfl ff_X9_33 rfl (by decide) (by decide) (by decide) (by decide) rfl rfl ?_
  refine tb_aload_n (pc := 76) dX9_init_76 rfl rfl ?_
  refine tb_sipush (pc := 77) (v := 401) dX9_init_77 (by decide) ?_
  refine tb_newa (pc := 80) (len := 401) (m1 := 9) (m2 := 4411) (n' := 74) dX9_init_80 wk_arr_int (Nat.le_of_ble_eq_true rfl) (by decide) (by decide) rfl rfl rfl (Nat.le_of_ble_eq_true rfl) (Nat.le_of_ble_eq_true rfl) ?_
  refine tb_putR (pc := 82) (rs := [none, some 65, some 66, some 67, some 68, some 69, some 70, some 71, some 72, none, none, none, none]) (rs2 := [none, some 65, some 66, some 67, some 68, some 69, some 70, some 71, some 72, some 73, none, none, none]) dX9_init_82 rfl ff_X9_36 rfl (by decide) (by decide) (by decide) (by decide) rfl rfl ?_
  refine tb_aload_n (pc := 85) dX9_init_85 rfl rfl ?_
  refine tb_sipush (pc := 86) (v := 256) dX9_init_86 (by decide) ?_
  refine tb_newa (pc := 89) (len := 256) (m1 := 10) (m2 := 4667) (n' := 75) dX9_init_89 wk_arr_int (Nat.le_of_ble_eq_true rfl) (by decide) (by decide) rfl rfl rfl (Nat.le_of_ble_eq_true rfl) (Nat.le_of_ble_eq_true rfl) ?_
  refine tb_putR (pc := 91) (rs := [none, some 65, some 66, some 67, some 68, some 69, some 70, some 71, some 72, some 73, none, none, none]) (rs2 := [none, some 65, some 66, some 67, some 68, some 69, some 70, some 71, some 72, some 73, some 74, none, none]) dX9_init_91 rfl ff_X9_39 rfl (by decide) (by decide) (by decide) (by decide) rfl rfl ?_
  refine tb_aload_n (pc := 94) dX9_init_94 rfl rfl ?_
  refine tb_sipush (pc := 95) (v := 401) dX9_init_95 (by decide) ?_
  refine tb_newa (pc := 98) (len := 401) (m1 := 11) (m2 := 5068) (n' := 76) dX9_init_98 wk_arr_int (Nat.le_of_ble_eq_true rfl) (by decide) (by decide) rfl rfl rfl (Nat.le_of_ble_eq_true rfl) (Nat.le_of_ble_eq_true rfl) ?_
  refine tb_putR (pc := 100) (rs := [none, some 65, some 66, some 67, some 68, some 69, some 70, some 71, some 72, some 73, some 74, none, none]) (rs2 := [none, some 65, some 66, some 67, some 68, some 69, some 70, some 71, some 72, some 73, some 74, some 75, none]) dX9_init_100 rfl ff_X9_42 rfl (by decide) (by decide) (by decide) (by decide) rfl rfl ?_
  refine tb_aload_n (pc := 103) dX9_init_103 rfl rfl ?_
  refine tb_iconst (pc := 104) (v := 0) dX9_init_104 (by decide) ?_
  refine tb_putI (pc := 105) dX9_init_105 fl_X9_45 rfl (by decide) (by decide) rfl ?_
  refine tb_aload_n (pc := 108) dX9_init_108 rfl rfl ?_
  refine tb_aload_n (pc := 109) dX9_init_109 rfl rfl ?_
  refine tb_putR (pc := 110) (rs := [none, some 65, some 66, some 67, some 68, some 69, some 70, some 71, some 72, some 73, some 74, some 75, none]) (rs2 := [some 1, some 65, some 66, some 67, some 68, some 69, some 70, some 71, some 72, some 73, some 74, some 75, none]) dX9_init_110 rfl ff_X9_49 rfl (by decide) (by decide) (by decide) (by decide) rfl rfl ?_
  refine tb_aload_n (pc := 113) dX9_init_113 rfl rfl ?_
  refine tb_getR (pc := 114) (rs := [some 1, some 65, some 66, some 67, some 68, some 69, some 70, some 71, some 72, some 73, some 74, some 75, none]) dX9_init_114 fl_X9_39 rfl (by decide) (by decide) rfl rfl ?_
  refine tb_iconst (pc := 117) (v := (-1)) dX9_init_117 (by decide) ?_
  refine tb_cS (pc := 118) (kJ_fill hl _ _ _ 74 256 (-1) (by rfl)) sl_X9_53 dX9_init_118 rfl rfl (Nat.le_of_ble_eq_true rfl) ⟨(Nat.le_of_ble_eq_true rfl), (Nat.le_of_ble_eq_true rfl)⟩ rfl rfl (Nat.le_of_ble_eq_true rfl) (Nat.le_of_ble_eq_true rfl) (fun r9 n9 sh9 I9 hq9 => ?_)
  obtain ⟨rfl, rfl, rfl, rfl⟩ := hq9
  exact tb_vret (pc := 121) dX9_init_121 rfl (Nat.le_of_ble_eq_true rfl) (Nat.le_of_ble_eq_true rfl) ⟨rfl, rfl, rfl, rfl⟩
def s_kc_ter125 (sh : Nat → tb_Sh) : Nat → tb_Sh := tb_sup (tb_sup (tb_sup (tb_sup (tb_sup (tb_sup (tb_sup (tb_sup (tb_sup (tb_sup (tb_sup (tb_sup (tb_sup (tb_sup (tb_sup (tb_sup (tb_sup (tb_sup (tb_sup (tb_sup (tb_sup (tb_sup (tb_sup (sh) 126 (100, 401, [])) 125 (9, 13, [none, some 126, none, none, none, none, none, none, none, none, none, none, none])) 127 (100, 401, [])) 125 (9, 13, [none, some 126, some 127, none, none, none, none, none, none, none, none, none, none])) 128 (100, 1203, [])) 125 (9, 13, [none, some 126, some 127, some 128, none, none, none, none, none, none, none, none, none])) 129 (100, 401, [])) 125 (9, 13, [none, some 126, some 127, some 128, some 129, none, none, none, none, none, none, none, none])) 130 (100, 401, [])) 125 (9, 13, [none, some 126, some 127, some 128, some 129, some 130, none, none, none, none, none, none, none])) 131 (100, 401, [])) 125 (9, 13, [none, some 126, some 127, some 128, some 129, some 130, some 131, none, none, none, none, none, none])) 132 (100, 401, [])) 125 (9, 13, [none, some 126, some 127, some 128, some 129, some 130, some 131, some 132, none, none, none, none, none])) 133 (100, 401, [])) 125 (9, 13, [none, some 126, some 127, some 128, some 129, some 130, some 131, some 132, some 133, none, none, none, none])) 134 (100, 401, [])) 125 (9, 13, [none, some 126, some 127, some 128, some 129, some 130, some 131, some 132, some 133, some 134, none, none, none])) 135 (100, 256, [])) 125 (9, 13, [none, some 126, some 127, some 128, some 129, some 130, some 131, some 132, some 133, some 134, some 135, none, none])) 136 (100, 401, [])) 125 (9, 13, [none, some 126, some 127, some 128, some 129, some 130, some 131, some 132, some 133, some 134, some 135, some 136, none])) 125 (9, 13, [some 1, some 126, some 127, some 128, some 129, some 130, some 131, some 132, some 133, some 134, some 135, some 136, none])
def i_kc_ter125 (I : tb_I) : tb_I := tb_fl (tb_up (tb_row (tb_row (tb_row (tb_row (tb_row (tb_row (tb_row (tb_row (tb_row (tb_row (tb_row (I) 126 (fun _ => 0)) 127 (fun _ => 0)) 128 (fun _ => 0)) 129 (fun _ => 0)) 130 (fun _ => 0)) 131 (fun _ => 0)) 132 (fun _ => 0)) 133 (fun _ => 0)) 134 (fun _ => 0)) 135 (fun _ => 0)) 136 (fun _ => 0)) 125 12 0) 135 256 (-1)
set_option maxHeartbeats 4000000 in
set_option maxRecDepth 100000 in
theorem kc_ter125 {l : Launch} {G : tb_G} (hl : l.stackTraces = false) (sh : Nat → tb_Sh) (I : tb_I) (h125 : sh 125 = (9, 13, [none, none, none, none, none, none, none, none, none, none, none, none, none])) : tb_Ok l G M_X9_init 1 11 5068 [.ref 125, .ref 1] 126 sh I (tb_Rd none 137 (s_kc_ter125 sh) (i_kc_ter125 I)) tb_Nx := by
  refine tb_Ok.of hl (by decide +kernel) rfl (tb_c1 rfl) (Nat.le_of_ble_eq_true rfl) ?_
  show tb_At l G M_X9_init (tb_rm 1 11 5068) none _ 0 0 126 sh I 0 [some (.ref 125), some (.ref 1)] []
  refine tb_aload_n (pc := 0) dX9_init_0 rfl rfl ?_
  refine tb_objInit (pc := 1) dX9_init_1 ml_X9_3 wk_obj2 wk_obj3 (Nat.le_of_ble_eq_true rfl) (Nat.le_of_ble_eq_true rfl) ?_
  refine tb_aload_n (pc := 4) dX9_init_4 rfl rfl ?_
  refine tb_sipush (pc := 5) (v := 401) dX9_init_5 (by decide) ?_
  refine tb_newa (pc := 8) (len := 401) (m1 := 1) (m2 := 401) (n' := 127) dX9_init_8 wk_arr_int (Nat.le_of_ble_eq_true rfl) (by decide) (by decide) rfl rfl rfl (Nat.le_of_ble_eq_true rfl) (Nat.le_of_ble_eq_true rfl) ?_
  refine tb_putR (pc := 10) (rs := [none, none, none, none, none, none, none, none, none, none, none, none, none]) (rs2 := [none, some 126, none, none, none, none, none, none, none, none, none, none, none]) dX9_init_10 rfl ff_X9_11 h125 (by decide) (by decide) (by decide) (by decide) rfl rfl ?_
  refine tb_aload_n (pc := 13) dX9_init_13 rfl rfl ?_
  refine tb_sipush (pc := 14) (v := 401) dX9_init_14 (by decide) ?_
  refine tb_newa (pc := 17) (len := 401) (m1 := 2) (m2 := 802) (n' := 128) dX9_init_17 wk_arr_int (Nat.le_of_ble_eq_true rfl) (by decide) (by decide) rfl rfl rfl (Nat.le_of_ble_eq_true rfl) (Nat.le_of_ble_eq_true rfl) ?_
  refine tb_putR (pc := 19) (rs := [none, some 126, none, none, none, none, none, none, none, none, none, none, none]) (rs2 := [none, some 126, some 127, none, none, none, none, none, none, none, none, none, none]) dX9_init_19 rfl ff_X9_15 rfl (by decide) (by decide) (by decide) (by decide) rfl rfl ?_
  refine tb_aload_n (pc := 22) dX9_init_22 rfl rfl ?_
  refine tb_sipush (pc := 23) (v := 1203) dX9_init_23 (by decide) ?_
  refine tb_newa (pc := 26) (len := 1203) (m1 := 3) (m2 := 2005) (n' := 129) dX9_init_26 wk_arr_int (Nat.le_of_ble_eq_true rfl) (by decide) (by decide) rfl rfl rfl (Nat.le_of_ble_eq_true rfl) (Nat.le_of_ble_eq_true rfl) ?_
  refine tb_putR (pc := 28) (rs := [none, some 126, some 127, none, none, none, none, none, none, none, none, none, none]) (rs2 := [none, some 126, some 127, some 128, none, none, none, none, none, none, none, none, none]) dX9_init_28 rfl ff_X9_18 rfl (by decide) (by decide) (by decide) (by decide) rfl rfl ?_
  refine tb_aload_n (pc := 31) dX9_init_31 rfl rfl ?_
  refine tb_sipush (pc := 32) (v := 401) dX9_init_32 (by decide) ?_
  refine tb_newa (pc := 35) (len := 401) (m1 := 4) (m2 := 2406) (n' := 130) dX9_init_35 wk_arr_int (Nat.le_of_ble_eq_true rfl) (by decide) (by decide) rfl rfl rfl (Nat.le_of_ble_eq_true rfl) (Nat.le_of_ble_eq_true rfl) ?_
  refine tb_putR (pc := 37) (rs := [none, some 126, some 127, some 128, none, none, none, none, none, none, none, none, none]) (rs2 := [none, some 126, some 127, some 128, some 129, none, none, none, none, none, none, none, none]) dX9_init_37 rfl ff_X9_21 rfl (by decide) (by decide) (by decide) (by decide) rfl rfl ?_
  refine tb_aload_n (pc := 40) dX9_init_40 rfl rfl ?_
  refine tb_sipush (pc := 41) (v := 401) dX9_init_41 (by decide) ?_
  refine tb_newa (pc := 44) (len := 401) (m1 := 5) (m2 := 2807) (n' := 131) dX9_init_44 wk_arr_int (Nat.le_of_ble_eq_true rfl) (by decide) (by decide) rfl rfl rfl (Nat.le_of_ble_eq_true rfl) (Nat.le_of_ble_eq_true rfl) ?_
  refine tb_putR (pc := 46) (rs := [none, some 126, some 127, some 128, some 129, none, none, none, none, none, none, none, none]) (rs2 := [none, some 126, some 127, some 128, some 129, some 130, none, none, none, none, none, none, none]) dX9_init_46 rfl ff_X9_24 rfl (by decide) (by decide) (by decide) (by decide) rfl rfl ?_
  refine tb_aload_n (pc := 49) dX9_init_49 rfl rfl ?_
  refine tb_sipush (pc := 50) (v := 401) dX9_init_50 (by decide) ?_
  refine tb_newa (pc := 53) (len := 401) (m1 := 6) (m2 := 3208) (n' := 132) dX9_init_53 wk_arr_int (Nat.le_of_ble_eq_true rfl) (by decide) (by decide) rfl rfl rfl (Nat.le_of_ble_eq_true rfl) (Nat.le_of_ble_eq_true rfl) ?_
  refine tb_putR (pc := 55) (rs := [none, some 126, some 127, some 128, some 129, some 130, none, none, none, none, none, none, none]) (rs2 := [none, some 126, some 127, some 128, some 129, some 130, some 131, none, none, none, none, none, none]) dX9_init_55 rfl ff_X9_27 rfl (by decide) (by decide) (by decide) (by decide) rfl rfl ?_
  refine tb_aload_n (pc := 58) dX9_init_58 rfl rfl ?_
  refine tb_sipush (pc := 59) (v := 401) dX9_init_59 (by decide) ?_
  refine tb_newa (pc := 62) (len := 401) (m1 := 7) (m2 := 3609) (n' := 133) dX9_init_62 wk_arr_int (Nat.le_of_ble_eq_true rfl) (by decide) (by decide) rfl rfl rfl (Nat.le_of_ble_eq_true rfl) (Nat.le_of_ble_eq_true rfl) ?_
  refine tb_putR (pc := 64) (rs := [none, some 126, some 127, some 128, some 129, some 130, some 131, none, none, none, none, none, none]) (rs2 := [none, some 126, some 127, some 128, some 129, some 130, some 131, some 132, none, none, none, none, none]) dX9_init_64 rfl ff_X9_30 rfl (by decide) (by decide) (by decide) (by decide) rfl rfl ?_
  refine tb_aload_n (pc := 67) dX9_init_67 rfl rfl ?_
  refine tb_sipush (pc := 68) (v := 401) dX9_init_68 (by decide) ?_
  refine tb_newa (pc := 71) (len := 401) (m1 := 8) (m2 := 4010) (n' := 134) dX9_init_71 wk_arr_int (Nat.le_of_ble_eq_true rfl) (by decide) (by decide) rfl rfl rfl (Nat.le_of_ble_eq_true rfl) (Nat.le_of_ble_eq_true rfl) ?_
  refine tb_putR (pc := 73) (rs := [none, some 126, some 127, some 128, some 129, some 130, some 131, some 132, none, none, none, none, none]) (rs2 := [none, some 126, some 127, some 128, some 129, some 130, some 131, some 132, some 133, none, none, none, none]) dX9_init_73 rfl ff_X9_33 rfl (by decide) (by decide) (by decide) (by decide) rfl rfl ?_
  refine tb_aload_n (pc := 76) dX9_init_76 rfl rfl ?_
  refine tb_sipush (pc := 77) (v := 401) dX9_init_77 (by decide) ?_
  refine tb_newa (pc := 80) (len := 401) (m1 := 9) (m2 := 4411) (n' := 135) dX9_init_80 wk_arr_int (Nat.le_of_ble_eq_true rfl) (by decide) (by decide) rfl rfl rfl (Nat.le_of_ble_eq_true rfl) (Nat.le_of_ble_eq_true rfl) ?_
  refine tb_putR (pc := 82) (rs := [none, some 126, some 127, some 128, some 129, some 130, some 131, some 132, some 133, none, none, none, none]) (rs2 := [none, some 126, some 127, some 128, some 129, some 130, some 131, some 132, some 133, some 134, none, none, none]) dX9_init_82 rfl ff_X9_36 rfl (by decide) (by decide) (by decide) (by decide) rfl rfl ?_
  refine tb_aload_n (pc := 85) dX9_init_85 rfl rfl ?_
  refine tb_sipush (pc := 86) (v := 256) dX9_init_86 (by decide) ?_
  refine tb_newa (pc := 89) (len := 256) (m1 := 10) (m2 := 4667) (n' := 136) dX9_init_89 wk_arr_int (Nat.le_of_ble_eq_true rfl) (by decide) (by decide) rfl rfl rfl (Nat.le_of_ble_eq_true rfl) (Nat.le_of_ble_eq_true rfl) ?_
  refine tb_putR (pc := 91) (rs := [none, some 126, some 127, some 128, some 129, some 130, some 131, some 132, some 133, some 134, none, none, none]) (rs2 := [none, some 126, some 127, some 128, some 129, some 130, some 131, some 132, some 133, some 134, some 135, none, none]) dX9_init_91 rfl ff_X9_39 rfl (by decide) (by decide) (by decide) (by decide) rfl rfl ?_
  refine tb_aload_n (pc := 94) dX9_init_94 rfl rfl ?_
  refine tb_sipush (pc := 95) (v := 401) dX9_init_95 (by decide) ?_
  refine tb_newa (pc := 98) (len := 401) (m1 := 11) (m2 := 5068) (n' := 137) dX9_init_98 wk_arr_int (Nat.le_of_ble_eq_true rfl) (by decide) (by decide) rfl rfl rfl (Nat.le_of_ble_eq_true rfl) (Nat.le_of_ble_eq_true rfl) ?_
  refine tb_putR (pc := 100) (rs := [none, some 126, some 127, some 128, some 129, some 130, some 131, some 132, some 133, some 134, some 135, none, none]) (rs2 := [none, some 126, some 127, some 128, some 129, some 130, some 131, some 132, some 133, some 134, some 135, some 136, none]) dX9_init_100 rfl ff_X9_42 rfl (by decide) (by decide) (by decide) (by decide) rfl rfl ?_
  refine tb_aload_n (pc := 103) dX9_init_103 rfl rfl ?_
  refine tb_iconst (pc := 104) (v := 0) dX9_init_104 (by decide) ?_
  refine tb_putI (pc := 105) dX9_init_105 fl_X9_45 rfl (by decide) (by decide) rfl ?_
  refine tb_aload_n (pc := 108) dX9_init_108 rfl rfl ?_
  refine tb_aload_n (pc := 109) dX9_init_109 rfl rfl ?_
  refine tb_putR (pc := 110) (rs := [none, some 126, some 127, some 128, some 129, some 130, some 131, some 132, some 133, some 134, some 135, some 136, none]) (rs2 := [some 1, some 126, some 127, some 128, some 129, some 130, some 131, some 132, some 133, some 134, some 135, some 136, none]) dX9_init_110 rfl ff_X9_49 rfl (by decide) (by decide) (by decide) (by decide) rfl rfl ?_
  refine tb_aload_n (pc := 113) dX9_init_113 rfl rfl ?_
  refine tb_getR (pc := 114) (rs := [some 1, some 126, some 127, some 128, some 129, some 130, some 131, some 132, some 133, some 134, some 135, some 136, none]) dX9_init_114 fl_X9_39 rfl (by decide) (by decide) rfl rfl ?_
  refine tb_iconst (pc := 117) (v := (-1)) dX9_init_117 (by decide) ?_
  refine tb_cS (pc := 118) (kJ_fill hl _ _ _ 135 256 (-1) (by rfl)) sl_X9_53 dX9_init_118 rfl rfl (Nat.le_of_ble_eq_true rfl) ⟨(Nat.le_of_ble_eq_true rfl), (Nat.le_of_ble_eq_true rfl)⟩ rfl rfl (Nat.le_of_ble_eq_true rfl) (Nat.le_of_ble_eq_true rfl) (fun r9 n9 sh9 I9 hq9 => ?_)
  obtain ⟨rfl, rfl, rfl, rfl⟩ := hq9
  exact tb_vret (pc := 121) dX9_init_121 rfl (Nat.le_of_ble_eq_true rfl) (Nat.le_of_ble_eq_true rfl) ⟨rfl, rfl, rfl, rfl⟩
def s_kc_led18 (sh : Nat → tb_Sh) : Nat → tb_Sh := tb_sup (tb_sup (sh) 19 (100, 61, [])) 18 (1, 1, [some 19])
def i_kc_led18 (I : tb_I) : tb_I := tb_anew (tb_row (I) 19 (fun _ => 0)) 19
set_option maxHeartbeats 4000000 in
set_option maxRecDepth 100000 in
theorem kc_led18 {l : Launch} {G : tb_G} (hl : l.stackTraces = false) (sh : Nat → tb_Sh) (I : tb_I) (h18 : sh 18 = (1, 1, [none])) : tb_Ok l G M_X1_init 2 1 61 [.ref 18] 19 sh I (tb_Rd none 20 (s_kc_led18 sh) (i_kc_led18 I)) tb_Nx := by
  refine tb_Ok.of hl (by decide +kernel) rfl (tb_c1 rfl) (Nat.le_of_ble_eq_true rfl) ?_
  show tb_At l G M_X1_init (tb_rm 2 1 61) none _ 0 0 19 sh I 0 [some (.ref 18)] []
  refine tb_aload_n (pc := 0) dX1_init_0 rfl rfl ?_
  refine tb_objInit (pc := 1) dX1_init_1 ml_X1_5 wk_obj2 wk_obj3 (Nat.le_of_ble_eq_true rfl) (Nat.le_of_ble_eq_true rfl) ?_
  refine tb_aload_n (pc := 4) dX1_init_4 rfl rfl ?_
  refine tb_bipush (pc := 5) (v := 61) dX1_init_5 (by decide) ?_
  refine tb_newa (pc := 7) (len := 61) (m1 := 1) (m2 := 61) (n' := 20) dX1_init_7 wk_arr_int (Nat.le_of_ble_eq_true rfl) (by decide) (by decide) rfl rfl rfl (Nat.le_of_ble_eq_true rfl) (Nat.le_of_ble_eq_true rfl) ?_
  refine tb_putR (pc := 9) (rs := [none]) (rs2 := [some 19]) dX1_init_9 rfl ff_X1_11 h18 (by decide) (by decide) (by decide) (by decide) rfl rfl ?_
  refine tb_aload_n (pc := 12) dX1_init_12 rfl rfl ?_
  refine tb_getR (pc := 13) (rs := [some 19]) dX1_init_13 fl_X1_11 rfl (by decide) (by decide) rfl rfl ?_
  refine tb_cS (pc := 16) (k_fillAnew hl _ _ _ 19 (by rfl)) sl_X1_15 dX1_init_16 rfl rfl (Nat.le_of_ble_eq_true rfl) ⟨(Nat.le_of_ble_eq_true rfl), (Nat.le_of_ble_eq_true rfl)⟩ rfl rfl (Nat.le_of_ble_eq_true rfl) (Nat.le_of_ble_eq_true rfl) (fun r9 n9 sh9 I9 hq9 => ?_)
  obtain ⟨rfl, rfl, rfl, rfl⟩ := hq9
  exact tb_vret (pc := 19) dX1_init_19 rfl (Nat.le_of_ble_eq_true rfl) (Nat.le_of_ble_eq_true rfl) ⟨rfl, rfl, rfl, rfl⟩
def s_kc_led76 (sh : Nat → tb_Sh) : Nat → tb_Sh := tb_sup (tb_sup (sh) 77 (100, 61, [])) 76 (1, 1, [some 77])
def i_kc_led76 (I : tb_I) : tb_I := tb_anew (tb_row (I) 77 (fun _ => 0)) 77
set_option maxHeartbeats 4000000 in
set_option maxRecDepth 100000 in
theorem kc_led76 {l : Launch} {G : tb_G} (hl : l.stackTraces = false) (sh : Nat → tb_Sh) (I : tb_I) (h76 : sh 76 = (1, 1, [none])) : tb_Ok l G M_X1_init 2 1 61 [.ref 76] 77 sh I (tb_Rd none 78 (s_kc_led76 sh) (i_kc_led76 I)) tb_Nx := by
  refine tb_Ok.of hl (by decide +kernel) rfl (tb_c1 rfl) (Nat.le_of_ble_eq_true rfl) ?_
  show tb_At l G M_X1_init (tb_rm 2 1 61) none _ 0 0 77 sh I 0 [some (.ref 76)] []
  refine tb_aload_n (pc := 0) dX1_init_0 rfl rfl ?_
  refine tb_objInit (pc := 1) dX1_init_1 ml_X1_5 wk_obj2 wk_obj3 (Nat.le_of_ble_eq_true rfl) (Nat.le_of_ble_eq_true rfl) ?_
  refine tb_aload_n (pc := 4) dX1_init_4 rfl rfl ?_
  refine tb_bipush (pc := 5) (v := 61) dX1_init_5 (by decide) ?_
  refine tb_newa (pc := 7) (len := 61) (m1 := 1) (m2 := 61) (n' := 78) dX1_init_7 wk_arr_int (Nat.le_of_ble_eq_true rfl) (by decide) (by decide) rfl rfl rfl (Nat.le_of_ble_eq_true rfl) (Nat.le_of_ble_eq_true rfl) ?_
  refine tb_putR (pc := 9) (rs := [none]) (rs2 := [some 77]) dX1_init_9 rfl ff_X1_11 h76 (by decide) (by decide) (by decide) (by decide) rfl rfl ?_
  refine tb_aload_n (pc := 12) dX1_init_12 rfl rfl ?_
  refine tb_getR (pc := 13) (rs := [some 77]) dX1_init_13 fl_X1_11 rfl (by decide) (by decide) rfl rfl ?_
  refine tb_cS (pc := 16) (k_fillAnew hl _ _ _ 77 (by rfl)) sl_X1_15 dX1_init_16 rfl rfl (Nat.le_of_ble_eq_true rfl) ⟨(Nat.le_of_ble_eq_true rfl), (Nat.le_of_ble_eq_true rfl)⟩ rfl rfl (Nat.le_of_ble_eq_true rfl) (Nat.le_of_ble_eq_true rfl) (fun r9 n9 sh9 I9 hq9 => ?_)
  obtain ⟨rfl, rfl, rfl, rfl⟩ := hq9
  exact tb_vret (pc := 19) dX1_init_19 rfl (Nat.le_of_ble_eq_true rfl) (Nat.le_of_ble_eq_true rfl) ⟨rfl, rfl, rfl, rfl⟩
def s_kc_led137 (sh : Nat → tb_Sh) : Nat → tb_Sh := tb_sup (tb_sup (sh) 138 (100, 61, [])) 137 (1, 1, [some 138])
def i_kc_led137 (I : tb_I) : tb_I := tb_anew (tb_row (I) 138 (fun _ => 0)) 138
set_option maxHeartbeats 4000000 in
set_option maxRecDepth 100000 in
theorem kc_led137 {l : Launch} {G : tb_G} (hl : l.stackTraces = false) (sh : Nat → tb_Sh) (I : tb_I) (h137 : sh 137 = (1, 1, [none])) : tb_Ok l G M_X1_init 2 1 61 [.ref 137] 138 sh I (tb_Rd none 139 (s_kc_led137 sh) (i_kc_led137 I)) tb_Nx := by
  refine tb_Ok.of hl (by decide +kernel) rfl (tb_c1 rfl) (Nat.le_of_ble_eq_true rfl) ?_
  show tb_At l G M_X1_init (tb_rm 2 1 61) none _ 0 0 138 sh I 0 [some (.ref 137)] []
  refine tb_aload_n (pc := 0) dX1_init_0 rfl rfl ?_
  refine tb_objInit (pc := 1) dX1_init_1 ml_X1_5 wk_obj2 wk_obj3 (Nat.le_of_ble_eq_true rfl) (Nat.le_of_ble_eq_true rfl) ?_
  refine tb_aload_n (pc := 4) dX1_init_4 rfl rfl ?_
  refine tb_bipush (pc := 5) (v := 61) dX1_init_5 (by decide) ?_
  refine tb_newa (pc := 7) (len := 61) (m1 := 1) (m2 := 61) (n' := 139) dX1_init_7 wk_arr_int (Nat.le_of_ble_eq_true rfl) (by decide) (by decide) rfl rfl rfl (Nat.le_of_ble_eq_true rfl) (Nat.le_of_ble_eq_true rfl) ?_
  refine tb_putR (pc := 9) (rs := [none]) (rs2 := [some 138]) dX1_init_9 rfl ff_X1_11 h137 (by decide) (by decide) (by decide) (by decide) rfl rfl ?_
  refine tb_aload_n (pc := 12) dX1_init_12 rfl rfl ?_
  refine tb_getR (pc := 13) (rs := [some 138]) dX1_init_13 fl_X1_11 rfl (by decide) (by decide) rfl rfl ?_
  refine tb_cS (pc := 16) (k_fillAnew hl _ _ _ 138 (by rfl)) sl_X1_15 dX1_init_16 rfl rfl (Nat.le_of_ble_eq_true rfl) ⟨(Nat.le_of_ble_eq_true rfl), (Nat.le_of_ble_eq_true rfl)⟩ rfl rfl (Nat.le_of_ble_eq_true rfl) (Nat.le_of_ble_eq_true rfl) (fun r9 n9 sh9 I9 hq9 => ?_)
  obtain ⟨rfl, rfl, rfl, rfl⟩ := hq9
  exact tb_vret (pc := 19) dX1_init_19 rfl (Nat.le_of_ble_eq_true rfl) (Nat.le_of_ble_eq_true rfl) ⟨rfl, rfl, rfl, rfl⟩
def s_kc_cor5 (sh : Nat → tb_Sh) : Nat → tb_Sh := tb_sup (tb_sup (tb_sup (tb_sup (tb_sup (tb_sup (tb_sup (tb_shM (sh) 20 40 61) 5 (0, 7, [none, none, some 20, none, none, none, none])) 61 (100, 61, [])) 5 (0, 7, [none, none, some 20, some 61, none, none, none])) 62 (100, 4, [])) 5 (0, 7, [none, none, some 20, some 61, some 62, none, none])) 5 (0, 7, [some 6, none, some 20, some 61, some 62, none, none])) 5 (0, 7, [some 6, some 18, some 20, some 61, some 62, none, none])
def i_kc_cor5 (I : tb_I) : tb_I := tb_up (tb_up (tb_row (tb_row (tb_IM (I) 20 40) 61 (fun _ => 0)) 62 (fun _ => 0)) 5 5 0) 5 6 0
set_option maxHeartbeats 4000000 in
set_option maxRecDepth 100000 in
theorem kc_cor5 {l : Launch} {G : tb_G} (hl : l.stackTraces = false) (sh : Nat → tb_Sh) (I : tb_I) (h5 : sh 5 = (0, 7, [none, none, none, none, none, none, none])) : tb_Ok l G M_X0_init 1 43 2545 [.ref 5, .ref 6, .ref 18] 20 sh I (tb_Rd none 63 (s_kc_cor5 sh) (i_kc_cor5 I)) tb_Nx := by
  refine tb_Ok.of hl (by decide +kernel) rfl (tb_c1 rfl) (Nat.le_of_ble_eq_true rfl) ?_
  show tb_At l G M_X0_init (tb_rm 1 43 2545) none _ 0 0 20 sh I 0 [some (.ref 5), some (.ref 6), some (.ref 18)] []
  refine tb_aload_n (pc := 0) dX0_init_0 rfl rfl ?_
  refine tb_objInit (pc := 1) dX0_init_1 ml_X0_3 wk_obj2 wk_obj3 (Nat.le_of_ble_eq_true rfl) (Nat.le_of_ble_eq_true rfl) ?_
  refine tb_aload_n (pc := 4) dX0_init_4 rfl rfl ?_
  refine tb_bipush (pc := 5) (v := 40) dX0_init_5 (by decide) ?_
  refine tb_bipush (pc := 7) (v := 61) dX0_init_7 (by decide) ?_
  refine tb_mna (pc := 9) (N := 40) (K := 61) (m1 := 41) (m2 := 2480) (n' := 61) dX0_init_9 cw_X0_11 wk_arr_int (Nat.le_of_ble_eq_true rfl) (by decide) (by decide) (by decide) (by decide) rfl rfl rfl (Nat.le_of_ble_eq_true rfl) (Nat.le_of_ble_eq_true rfl) ?_
  refine tb_putR (pc := 13) (rs := [none, none, none, none, none, none, none]) (rs2 := [none, none, some 20, none, none, none, none]) dX0_init_13 rfl ff_X0_13 h5 (by decide) (by decide) (by decide) (by decide) rfl rfl ?_
  refine tb_aload_n (pc := 16) dX0_init_16 rfl rfl ?_
  refine tb_bipush (pc := 17) (v := 61) dX0_init_17 (by decide) ?_
  refine tb_newa (pc := 19) (len := 61) (m1 := 42) (m2 := 2541) (n' := 62) dX0_init_19 wk_arr_int (Nat.le_of_ble_eq_true rfl) (by decide) (by decide) rfl rfl rfl (Nat.le_of_ble_eq_true rfl) (Nat.le_of_ble_eq_true rfl) ?_
  refine tb_putR (pc := 21) (rs := [none, none, some 20, none, none, none, none]) (rs2 := [none, none, some 20, some 61, none, none, none]) dX0_init_21 rfl ff_X0_18 rfl (by decide) (by decide) (by decide) (by decide) rfl rfl ?_
  refine tb_aload_n (pc := 24) dX0_init_24 rfl rfl ?_
  refine tb_iconst (pc := 25) (v := 4) dX0_init_25 (by decide) ?_
  refine tb_newa (pc := 26) (len := 4) (m1 := 43) (m2 := 2545) (n' := 63) dX0_init_26 wk_arr_int (Nat.le_of_ble_eq_true rfl) (by decide) (by decide) rfl rfl rfl (Nat.le_of_ble_eq_true rfl) (Nat.le_of_ble_eq_true rfl) ?_
  refine tb_putR (pc := 28) (rs := [none, none, some 20, some 61, none, none, none]) (rs2 := [none, none, some 20, some 61, some 62, none, none]) dX0_init_28 rfl ff_X0_22 rfl (by decide) (by decide) (by decide) (by decide) rfl rfl ?_
  refine tb_aload_n (pc := 31) dX0_init_31 rfl rfl ?_
  refine tb_iconst (pc := 32) (v := 0) dX0_init_32 (by decide) ?_
  refine tb_putI (pc := 33) dX0_init_33 fl_X0_25 rfl (by decide) (by decide) rfl ?_
  refine tb_aload_n (pc := 36) dX0_init_36 rfl rfl ?_
  refine tb_iconst (pc := 37) (v := 0) dX0_init_37 (by decide) ?_
  refine tb_putI (pc := 38) dX0_init_38 fl_X0_29 rfl (by decide) (by decide) rfl ?_
  refine tb_aload_n (pc := 41) dX0_init_41 rfl rfl ?_
  refine tb_aload_n (pc := 42) dX0_init_42 rfl rfl ?_
  refine tb_putR (pc := 43) (rs := [none, none, some 20, some 61, some 62, none, none]) (rs2 := [some 6, none, some 20, some 61, some 62, none, none]) dX0_init_43 rfl ff_X0_32 rfl (by decide) (by decide) (by decide) (by decide) rfl rfl ?_
  refine tb_aload_n (pc := 46) dX0_init_46 rfl rfl ?_
  refine tb_aload_n (pc := 47) dX0_init_47 rfl rfl ?_
  refine tb_putR (pc := 48) (rs := [some 6, none, some 20, some 61, some 62, none, none]) (rs2 := [some 6, some 18, some 20, some 61, some 62, none, none]) dX0_init_48 rfl ff_X0_36 rfl (by decide) (by decide) (by decide) (by decide) rfl rfl ?_
  exact tb_vret (pc := 51) dX0_init_51 rfl (Nat.le_of_ble_eq_true rfl) (Nat.le_of_ble_eq_true rfl) ⟨rfl, rfl, rfl, rfl⟩
def s_kc_cor63 (sh : Nat → tb_Sh) : Nat → tb_Sh := tb_sup (tb_sup (tb_sup (tb_sup (tb_sup (tb_sup (tb_sup (tb_shM (sh) 78 40 61) 63 (0, 7, [none, none, some 78, none, none, none, none])) 119 (100, 61, [])) 63 (0, 7, [none, none, some 78, some 119, none, none, none])) 120 (100, 4, [])) 63 (0, 7, [none, none, some 78, some 119, some 120, none, none])) 63 (0, 7, [some 64, none, some 78, some 119, some 120, none, none])) 63 (0, 7, [some 64, some 76, some 78, some 119, some 120, none, none])
def i_kc_cor63 (I : tb_I) : tb_I := tb_up (tb_up (tb_row (tb_row (tb_IM (I) 78 40) 119 (fun _ => 0)) 120 (fun _ => 0)) 63 5 0) 63 6 0
set_option maxHeartbeats 4000000 in
set_option maxRecDepth 100000 in
theorem kc_cor63 {l : Launch} {G : tb_G} (hl : l.stackTraces = false) (sh : Nat → tb_Sh) (I : tb_I) (h63 : sh 63 = (0, 7, [none, none, none, none, none, none, none])) : tb_Ok l G M_X0_init 1 43 2545 [.ref 63, .ref 64, .ref 76] 78 sh I (tb_Rd none 121 (s_kc_cor63 sh) (i_kc_cor63 I)) tb_Nx := by
  refine tb_Ok.of hl (by decide +kernel) rfl (tb_c1 rfl) (Nat.le_of_ble_eq_true rfl) ?_
  show tb_At l G M_X0_init (tb_rm 1 43 2545) none _ 0 0 78 sh I 0 [some (.ref 63), some (.ref 64), some (.ref 76)] []
  refine tb_aload_n (pc := 0) dX0_init_0 rfl rfl ?_
  refine tb_objInit (pc := 1) dX0_init_1 ml_X0_3 wk_obj2 wk_obj3 (Nat.le_of_ble_eq_true rfl) (Nat.le_of_ble_eq_true rfl) ?_
  refine tb_aload_n (pc := 4) dX0_init_4 rfl rfl ?_
  refine tb_bipush (pc := 5) (v := 40) dX0_init_5 (by decide) ?_
  refine tb_bipush (pc := 7) (v := 61) dX0_init_7 (by decide) ?_
  refine tb_mna (pc := 9) (N := 40) (K := 61) (m1 := 41) (m2 := 2480) (n' := 119) dX0_init_9 cw_X0_11 wk_arr_int (Nat.le_of_ble_eq_true rfl) (by decide) (by decide) (by decide) (by decide) rfl rfl rfl (Nat.le_of_ble_eq_true rfl) (Nat.le_of_ble_eq_true rfl) ?_
  refine tb_putR (pc := 13) (rs := [none, none, none, none, none, none, none]) (rs2 := [none, none, some 78, none, none, none, none]) dX0_init_13 rfl ff_X0_13 h63 (by decide) (by decide) (by decide) (by decide) rfl rfl ?_
  refine tb_aload_n (pc := 16) dX0_init_16 rfl rfl ?_
  refine tb_bipush (pc := 17) (v := 61) dX0_init_17 (by decide) ?_
  refine tb_newa (pc := 19) (len := 61) (m1 := 42) (m2 := 2541) (n' := 120) dX0_init_19 wk_arr_int (Nat.le_of_ble_eq_true rfl) (by decide) (by decide) rfl rfl rfl (Nat.le_of_ble_eq_true rfl) (Nat.le_of_ble_eq_true rfl) ?_
  refine tb_putR (pc := 21) (rs := [none, none, some 78, none, none, none, none]) (rs2 := [none, none, some 78, some 119, none, none, none]) dX0_init_21 rfl ff_X0_18 rfl (by decide) (by decide) (by decide) (by decide) rfl rfl ?_
  refine tb_aload_n (pc := 24) dX0_init_24 rfl rfl ?_
  refine tb_iconst (pc := 25) (v := 4) dX0_init_25 (by decide) ?_
  refine tb_newa (pc := 26) (len := 4) (m1 := 43) (m2 := 2545) (n' := 121) dX0_init_26 wk_arr_int (Nat.le_of_ble_eq_true rfl) (by decide) (by decide) rfl rfl rfl (Nat.le_of_ble_eq_true rfl) (Nat.le_of_ble_eq_true rfl) ?_
  refine tb_putR (pc := 28) (rs := [none, none, some 78, some 119, none, none, none]) (rs2 := [none, none, some 78, some 119, some 120, none, none]) dX0_init_28 rfl ff_X0_22 rfl (by decide) (by decide) (by decide) (by decide) rfl rfl ?_
  refine tb_aload_n (pc := 31) dX0_init_31 rfl rfl ?_
  refine tb_iconst (pc := 32) (v := 0) dX0_init_32 (by decide) ?_
  refine tb_putI (pc := 33) dX0_init_33 fl_X0_25 rfl (by decide) (by decide) rfl ?_
  refine tb_aload_n (pc := 36) dX0_init_36 rfl rfl ?_
  refine tb_iconst (pc := 37) (v := 0) dX0_init_37 (by decide) ?_
  refine tb_putI (pc := 38) dX0_init_38 fl_X0_29 rfl (by decide) (by decide) rfl ?_
  refine tb_aload_n (pc := 41) dX0_init_41 rfl rfl ?_
  refine tb_aload_n (pc := 42) dX0_init_42 rfl rfl ?_
  refine tb_putR (pc := 43) (rs := [none, none, some 78, some 119, some 120, none, none]) (rs2 := [some 64, none, some 78, some 119, some 120, none, none]) dX0_init_43 rfl ff_X0_32 rfl (by decide) (by decide) (by decide) (by decide) rfl rfl ?_
  refine tb_aload_n (pc := 46) dX0_init_46 rfl rfl ?_
  refine tb_aload_n (pc := 47) dX0_init_47 rfl rfl ?_
  refine tb_putR (pc := 48) (rs := [some 64, none, some 78, some 119, some 120, none, none]) (rs2 := [some 64, some 76, some 78, some 119, some 120, none, none]) dX0_init_48 rfl ff_X0_36 rfl (by decide) (by decide) (by decide) (by decide) rfl rfl ?_
  exact tb_vret (pc := 51) dX0_init_51 rfl (Nat.le_of_ble_eq_true rfl) (Nat.le_of_ble_eq_true rfl) ⟨rfl, rfl, rfl, rfl⟩
def s_kc_mat (sh : Nat → tb_Sh) : Nat → tb_Sh := tb_sup (tb_sup (tb_sup (sh) 140 (100, 8, [])) 139 (3, 2, [none, some 140])) 139 (3, 2, [some 6, some 140])
def i_kc_mat (I : tb_I) : tb_I := tb_row (I) 140 (fun _ => 0)
set_option maxHeartbeats 4000000 in
set_option maxRecDepth 100000 in
theorem kc_mat {l : Launch} {G : tb_G} (hl : l.stackTraces = false) (sh : Nat → tb_Sh) (I : tb_I) (h139 : sh 139 = (3, 2, [none, none])) : tb_Ok l G M_X3_init 1 1 8 [.ref 139, .ref 6] 140 sh I (tb_Rd none 141 (s_kc_mat sh) (i_kc_mat I)) tb_Nx := by
  refine tb_Ok.of hl (by decide +kernel) rfl (tb_c1 rfl) (Nat.le_of_ble_eq_true rfl) ?_
  show tb_At l G M_X3_init (tb_rm 1 1 8) none _ 0 0 140 sh I 0 [some (.ref 139), some (.ref 6)] []
  refine tb_aload_n (pc := 0) dX3_init_0 rfl rfl ?_
  refine tb_objInit (pc := 1) dX3_init_1 ml_X3_3 wk_obj2 wk_obj3 (Nat.le_of_ble_eq_true rfl) (Nat.le_of_ble_eq_true rfl) ?_
  refine tb_aload_n (pc := 4) dX3_init_4 rfl rfl ?_
  refine tb_bipush (pc := 5) (v := 8) dX3_init_5 (by decide) ?_
  refine tb_newa (pc := 7) (len := 8) (m1 := 1) (m2 := 8) (n' := 141) dX3_init_7 wk_arr_int (Nat.le_of_ble_eq_true rfl) (by decide) (by decide) rfl rfl rfl (Nat.le_of_ble_eq_true rfl) (Nat.le_of_ble_eq_true rfl) ?_
  refine tb_putR (pc := 9) (rs := [none, none]) (rs2 := [none, some 140]) dX3_init_9 rfl ff_X3_9 h139 (by decide) (by decide) (by decide) (by decide) rfl rfl ?_
  refine tb_aload_n (pc := 12) dX3_init_12 rfl rfl ?_
  refine tb_aload_n (pc := 13) dX3_init_13 rfl rfl ?_
  refine tb_putR (pc := 14) (rs := [none, some 140]) (rs2 := [some 6, some 140]) dX3_init_14 rfl ff_X3_15 rfl (by decide) (by decide) (by decide) (by decide) rfl rfl ?_
  exact tb_vret (pc := 17) dX3_init_17 rfl (Nat.le_of_ble_eq_true rfl) (Nat.le_of_ble_eq_true rfl) ⟨rfl, rfl, rfl, rfl⟩
def s_kc_mak (sh : Nat → tb_Sh) : Nat → tb_Sh := tb_sup (tb_sup (tb_sup (tb_sup (tb_sup (tb_sup (tb_sup (sh) 142 (100, 8, [])) 141 (2, 6, [none, some 142, none, none, none, none])) 143 (100, 8, [])) 141 (2, 6, [none, some 142, some 143, none, none, none])) 144 (100, 8, [])) 141 (2, 6, [none, some 142, some 143, some 144, none, none])) 141 (2, 6, [some 6, some 142, some 143, some 144, none, none])
def i_kc_mak (I : tb_I) : tb_I := tb_up (tb_up (tb_row (tb_row (tb_row (I) 142 (fun _ => 0)) 143 (fun _ => 0)) 144 (fun _ => 0)) 141 4 0) 141 5 0
set_option maxHeartbeats 4000000 in
set_option maxRecDepth 100000 in
theorem kc_mak {l : Launch} {G : tb_G} (hl : l.stackTraces = false) (sh : Nat → tb_Sh) (I : tb_I) (h141 : sh 141 = (2, 6, [none, none, none, none, none, none])) : tb_Ok l G M_X2_init 1 3 24 [.ref 141, .ref 6] 142 sh I (tb_Rd none 145 (s_kc_mak sh) (i_kc_mak I)) tb_Nx := by
  refine tb_Ok.of hl (by decide +kernel) rfl (tb_c1 rfl) (Nat.le_of_ble_eq_true rfl) ?_
  show tb_At l G M_X2_init (tb_rm 1 3 24) none _ 0 0 142 sh I 0 [some (.ref 141), some (.ref 6)] []
  refine tb_aload_n (pc := 0) dX2_init_0 rfl rfl ?_
  refine tb_objInit (pc := 1) dX2_init_1 ml_X2_3 wk_obj2 wk_obj3 (Nat.le_of_ble_eq_true rfl) (Nat.le_of_ble_eq_true rfl) ?_
  refine tb_aload_n (pc := 4) dX2_init_4 rfl rfl ?_
  refine tb_bipush (pc := 5) (v := 8) dX2_init_5 (by decide) ?_
  refine tb_newa (pc := 7) (len := 8) (m1 := 1) (m2 := 8) (n' := 143) dX2_init_7 wk_arr_int (Nat.le_of_ble_eq_true rfl) (by decide) (by decide) rfl rfl rfl (Nat.le_of_ble_eq_true rfl) (Nat.le_of_ble_eq_true rfl) ?_
  refine tb_putR (pc := 9) (rs := [none, none, none, none, none, none]) (rs2 := [none, some 142, none, none, none, none]) dX2_init_9 rfl ff_X2_9 h141 (by decide) (by decide) (by decide) (by decide) rfl rfl ?_
  refine tb_aload_n (pc := 12) dX2_init_12 rfl rfl ?_
  refine tb_bipush (pc := 13) (v := 8) dX2_init_13 (by decide) ?_
  refine tb_newa (pc := 15) (len := 8) (m1 := 2) (m2 := 16) (n' := 144) dX2_init_15 wk_arr_int (Nat.le_of_ble_eq_true rfl) (by decide) (by decide) rfl rfl rfl (Nat.le_of_ble_eq_true rfl) (Nat.le_of_ble_eq_true rfl) ?_
  refine tb_putR (pc := 17) (rs := [none, some 142, none, none, none, none]) (rs2 := [none, some 142, some 143, none, none, none]) dX2_init_17 rfl ff_X2_15 rfl (by decide) (by decide) (by decide) (by decide) rfl rfl ?_
  refine tb_aload_n (pc := 20) dX2_init_20 rfl rfl ?_
  refine tb_bipush (pc := 21) (v := 8) dX2_init_21 (by decide) ?_
  refine tb_newa (pc := 23) (len := 8) (m1 := 3) (m2 := 24) (n' := 145) dX2_init_23 wk_arr_int (Nat.le_of_ble_eq_true rfl) (by decide) (by decide) rfl rfl rfl (Nat.le_of_ble_eq_true rfl) (Nat.le_of_ble_eq_true rfl) ?_
  refine tb_putR (pc := 25) (rs := [none, some 142, some 143, none, none, none]) (rs2 := [none, some 142, some 143, some 144, none, none]) dX2_init_25 rfl ff_X2_18 rfl (by decide) (by decide) (by decide) (by decide) rfl rfl ?_
  refine tb_aload_n (pc := 28) dX2_init_28 rfl rfl ?_
  refine tb_iconst (pc := 29) (v := 0) dX2_init_29 (by decide) ?_
  refine tb_putI (pc := 30) dX2_init_30 fl_X2_21 rfl (by decide) (by decide) rfl ?_
  refine tb_aload_n (pc := 33) dX2_init_33 rfl rfl ?_
  refine tb_iconst (pc := 34) (v := 0) dX2_init_34 (by decide) ?_
  refine tb_putI (pc := 35) dX2_init_35 fl_X2_25 rfl (by decide) (by decide) rfl ?_
  refine tb_aload_n (pc := 38) dX2_init_38 rfl rfl ?_
  refine tb_aload_n (pc := 39) dX2_init_39 rfl rfl ?_
  refine tb_putR (pc := 40) (rs := [none, some 142, some 143, some 144, none, none]) (rs2 := [some 6, some 142, some 143, some 144, none, none]) dX2_init_40 rfl ff_X2_28 rfl (by decide) (by decide) (by decide) (by decide) rfl rfl ?_
  exact tb_vret (pc := 43) dX2_init_43 rfl (Nat.le_of_ble_eq_true rfl) (Nat.le_of_ble_eq_true rfl) ⟨rfl, rfl, rfl, rfl⟩
def s_kc_uni (sh : Nat → tb_Sh) : Nat → tb_Sh := tb_sup (tb_sup (tb_sup (tb_sup (tb_sup (tb_sup (tb_sup (tb_sup (tb_sup (tb_sup (tb_sup (tb_sup (tb_sup (tb_sup (tb_sup (tb_sup (tb_sup (tb_sup (tb_sup (sh) 146 (100, 800, [])) 145 (10, 12, [none, some 146, none, none, none, none, none, none, none, none, none, none])) 147 (100, 800, [])) 145 (10, 12, [none, some 146, some 147, none, none, none, none, none, none, none, none, none])) 148 (100, 800, [])) 145 (10, 12, [none, some 146, some 147, some 148, none, none, none, none, none, none, none, none])) 149 (100, 800, [])) 145 (10, 12, [none, some 146, some 147, some 148, some 149, none, none, none, none, none, none, none])) 150 (100, 800, [])) 145 (10, 12, [none, some 146, some 147, some 148, some 149, some 150, none, none, none, none, none, none])) 151 (100, 2401, [])) 145 (10, 12, [none, some 146, some 147, some 148, some 149, some 150, some 151, none, none, none, none, none])) 152 (100, 2401, [])) 145 (10, 12, [none, some 146, some 147, some 148, some 149, some 150, some 151, some 152, none, none, none, none])) 153 (100, 800, [])) 145 (10, 12, [none, some 146, some 147, some 148, some 149, some 150, some 151, some 152, some 153, none, none, none])) 154 (100, 800, [])) 145 (10, 12, [none, some 146, some 147, some 148, some 149, some 150, some 151, some 152, some 153, some 154, none, none])) 145 (10, 12, [some 6, some 146, some 147, some 148, some 149, some 150, some 151, some 152, some 153, some 154, none, none])
def i_kc_uni (I : tb_I) : tb_I := tb_up (tb_up (tb_row (tb_row (tb_row (tb_row (tb_row (tb_row (tb_row (tb_row (tb_row (I) 146 (fun _ => 0)) 147 (fun _ => 0)) 148 (fun _ => 0)) 149 (fun _ => 0)) 150 (fun _ => 0)) 151 (fun _ => 0)) 152 (fun _ => 0)) 153 (fun _ => 0)) 154 (fun _ => 0)) 145 10 0) 145 11 0
set_option maxHeartbeats 4000000 in
set_option maxRecDepth 100000 in
theorem kc_uni {l : Launch} {G : tb_G} (hl : l.stackTraces = false) (sh : Nat → tb_Sh) (I : tb_I) (h145 : sh 145 = (10, 12, [none, none, none, none, none, none, none, none, none, none, none, none])) : tb_Ok l G M_X10_init 1 9 10402 [.ref 145, .ref 6] 146 sh I (tb_Rd none 155 (s_kc_uni sh) (i_kc_uni I)) tb_Nx := by
  refine tb_Ok.of hl (by decide +kernel) rfl (tb_c1 rfl) (Nat.le_of_ble_eq_true rfl) ?_
  show tb_At l G M_X10_init (tb_rm 1 9 10402) none _ 0 0 146 sh I 0 [some (.ref 145), some (.ref 6)] []
  refine tb_aload_n (pc := 0) dX10_init_0 rfl rfl ?_
  refine tb_objInit (pc := 1) dX10_init_1 ml_X10_3 wk_obj2 wk_obj3 (Nat.le_of_ble_eq_true rfl) (Nat.le_of_ble_eq_true rfl) ?_
  refine tb_aload_n (pc := 4) dX10_init_4 rfl rfl ?_
  refine tb_sipush (pc := 5) (v := 800) dX10_init_5 (by decide) ?_
  refine tb_newa (pc := 8) (len := 800) (m1 := 1) (m2 := 800) (n' := 147) dX10_init_8 wk_arr_int (Nat.le_of_ble_eq_true rfl) (by decide) (by decide) rfl rfl rfl (Nat.le_of_ble_eq_true rfl) (Nat.le_of_ble_eq_true rfl) ?_
  refine tb_putR (pc := 10) (rs := [none, none, none, none, none, none, none, none, none, none, none, none]) (rs2 := [none, some 146, none, none, none, none, none, none, none, none, none, none]) dX10_init_10 rfl ff_X10_11 h145 (by decide) (by decide) (by decide) (by decide) rfl rfl ?_
  refine tb_aload_n (pc := 13) dX10_init_13 rfl rfl ?_
  refine tb_sipush (pc := 14) (v := 800) dX10_init_14 (by decide) ?_
  refine tb_newa (pc := 17) (len := 800) (m1 := 2) (m2 := 1600) (n' := 148) dX10_init_17 wk_arr_int (Nat.le_of_ble_eq_true rfl) (by decide) (by decide) rfl rfl rfl (Nat.le_of_ble_eq_true rfl) (Nat.le_of_ble_eq_true rfl) ?_
  refine tb_putR (pc := 19) (rs := [none, some 146, none, none, none, none, none, none, none, none, none, none]) (rs2 := [none, some 146, some 147, none, none, none, none, none, none, none, none, none]) dX10_init_19 rfl ff_X10_15 rfl (by decide) (by decide) (by decide) (by decide) rfl rfl ?_
  refine tb_aload_n (pc := 22) dX10_init_22 rfl rfl ?_
  refine tb_sipush (pc := 23) (v := 800) dX10_init_23 (by decide) ?_
  refine tb_newa (pc := 26) (len := 800) (m1 := 3) (m2 := 2400) (n' := 149) dX10_init_26 wk_arr_int (Nat.le_of_ble_eq_true rfl) (by decide) (by decide) rfl rfl rfl (Nat.le_of_ble_eq_true rfl) (Nat.le_of_ble_eq_true rfl) ?_
  refine tb_putR (pc := 28) (rs := [none, some 146, some 147, none, none, none, none, none, none, none, none, none]) (rs2 := [none, some 146, some 147, some 148, none, none, none, none, none, none, none, none]) dX10_init_28 rfl ff_X10_18 rfl (by decide) (by decide) (by decide) (by decide) rfl rfl ?_
  refine tb_aload_n (pc := 31) dX10_init_31 rfl rfl ?_
  refine tb_sipush (pc := 32) (v := 800) dX10_init_32 (by decide) ?_
  refine tb_newa (pc := 35) (len := 800) (m1 := 4) (m2 := 3200) (n' := 150) dX10_init_35 wk_arr_int (Nat.le_of_ble_eq_true rfl) (by decide) (by decide) rfl rfl rfl (Nat.le_of_ble_eq_true rfl) (Nat.le_of_ble_eq_true rfl) ?_
  refine tb_putR (pc := 37) (rs := [none, some 146, some 147, some 148, none, none, none, none, none, none, none, none]) (rs2 := [none, some 146, some 147, some 148, some 149, none, none, none, none, none, none, none]) dX10_init_37 rfl ff_X10_21 rfl (by decide) (by decide) (by decide) (by decide) rfl rfl ?_
  refine tb_aload_n (pc := 40) dX10_init_40 rfl rfl ?_
  refine tb_sipush (pc := 41) (v := 800) dX10_init_41 (by decide) ?_
  refine tb_newa (pc := 44) (len := 800) (m1 := 5) (m2 := 4000) (n' := 151) dX10_init_44 wk_arr_int (Nat.le_of_ble_eq_true rfl) (by decide) (by decide) rfl rfl rfl (Nat.le_of_ble_eq_true rfl) (Nat.le_of_ble_eq_true rfl) ?_
  refine tb_putR (pc := 46) (rs := [none, some 146, some 147, some 148, some 149, none, none, none, none, none, none, none]) (rs2 := [none, some 146, some 147, some 148, some 149, some 150, none, none, none, none, none, none]) dX10_init_46 rfl ff_X10_24 rfl (by decide) (by decide) (by decide) (by decide) rfl rfl ?_
  refine tb_aload_n (pc := 49) dX10_init_49 rfl rfl ?_
  refine tb_sipush (pc := 50) (v := 2401) dX10_init_50 (by decide) ?_
  refine tb_newa (pc := 53) (len := 2401) (m1 := 6) (m2 := 6401) (n' := 152) dX10_init_53 wk_arr_int (Nat.le_of_ble_eq_true rfl) (by decide) (by decide) rfl rfl rfl (Nat.le_of_ble_eq_true rfl) (Nat.le_of_ble_eq_true rfl) ?_
  refine tb_putR (pc := 55) (rs := [none, some 146, some 147, some 148, some 149, some 150, none, none, none, none, none, none]) (rs2 := [none, some 146, some 147, some 148, some 149, some 150, some 151, none, none, none, none, none]) dX10_init_55 rfl ff_X10_27 rfl (by decide) (by decide) (by decide) (by decide) rfl rfl ?_
  refine tb_aload_n (pc := 58) dX10_init_58 rfl rfl ?_
  refine tb_sipush (pc := 59) (v := 2401) dX10_init_59 (by decide) ?_
  refine tb_newa (pc := 62) (len := 2401) (m1 := 7) (m2 := 8802) (n' := 153) dX10_init_62 wk_arr_int (Nat.le_of_ble_eq_true rfl) (by decide) (by decide) rfl rfl rfl (Nat.le_of_ble_eq_true rfl) (Nat.le_of_ble_eq_true rfl) ?_
  refine tb_putR (pc := 64) (rs := [none, some 146, some 147, some 148, some 149, some 150, some 151, none, none, none, none, none]) (rs2 := [none, some 146, some 147, some 148, some 149, some 150, some 151, some 152, none, none, none, none]) dX10_init_64 rfl ff_X10_30 rfl (by decide) (by decide) (by decide) (by decide) rfl rfl ?_
  refine tb_aload_n (pc := 67) dX10_init_67 rfl rfl ?_
  refine tb_sipush (pc := 68) (v := 800) dX10_init_68 (by decide) ?_
  refine tb_newa (pc := 71) (len := 800) (m1 := 8) (m2 := 9602) (n' := 154) dX10_init_71 wk_arr_int (Nat.le_of_ble_eq_true rfl) (by decide) (by decide) rfl rfl rfl (Nat.le_of_ble_eq_true rfl) (Nat.le_of_ble_eq_true rfl) ?_
  refine tb_putR (pc := 73) (rs := [none, some 146, some 147, some 148, some 149, some 150, some 151, some 152, none, none, none, none]) (rs2 := [none, some 146, some 147, some 148, some 149, some 150, some 151, some 152, some 153, none, none, none]) dX10_init_73 rfl ff_X10_33 rfl (by decide) (by decide) (by decide) (by decide) rfl rfl ?_
  refine tb_aload_n (pc := 76) dX10_init_76 rfl rfl ?_
  refine tb_sipush (pc := 77) (v := 800) dX10_init_77 (by decide) ?_
  refine tb_newa (pc := 80) (len := 800) (m1 := 9) (m2 := 10402) (n' := 155) dX10_init_80 wk_arr_int (Nat.le_of_ble_eq_true rfl) (by decide) (by decide) rfl rfl rfl (Nat.le_of_ble_eq_true rfl) (Nat.le_of_ble_eq_true rfl) ?_
  refine tb_putR (pc := 82) (rs := [none, some 146, some 147, some 148, some 149, some 150, some 151, some 152, some 153, none, none, none]) (rs2 := [none, some 146, some 147, some 148, some 149, some 150, some 151, some 152, some 153, some 154, none, none]) dX10_init_82 rfl ff_X10_36 rfl (by decide) (by decide) (by decide) (by decide) rfl rfl ?_
  refine tb_aload_n (pc := 85) dX10_init_85 rfl rfl ?_
  refine tb_iconst (pc := 86) (v := 0) dX10_init_86 (by decide) ?_
  refine tb_putI (pc := 87) dX10_init_87 fl_X10_39 rfl (by decide) (by decide) rfl ?_
  refine tb_aload_n (pc := 90) dX10_init_90 rfl rfl ?_
  refine tb_iconst (pc := 91) (v := 0) dX10_init_91 (by decide) ?_
  refine tb_putI (pc := 92) dX10_init_92 fl_X10_43 rfl (by decide) (by decide) rfl ?_
  refine tb_aload_n (pc := 95) dX10_init_95 rfl rfl ?_
  refine tb_aload_n (pc := 96) dX10_init_96 rfl rfl ?_
  refine tb_putR (pc := 97) (rs := [none, some 146, some 147, some 148, some 149, some 150, some 151, some 152, some 153, some 154, none, none]) (rs2 := [some 6, some 146, some 147, some 148, some 149, some 150, some 151, some 152, some 153, some 154, none, none]) dX10_init_97 rfl ff_X10_46 rfl (by decide) (by decide) (by decide) (by decide) rfl rfl ?_
  exact tb_vret (pc := 100) dX10_init_100 rfl (Nat.le_of_ble_eq_true rfl) (Nat.le_of_ble_eq_true rfl) ⟨rfl, rfl, rfl, rfl⟩
def s_kc_ord (sh : Nat → tb_Sh) : Nat → tb_Sh := tb_sup (tb_sup (tb_sup (sh) 157 (100, 8, [])) 156 (4, 5, [none, some 157, none, none, none])) 156 (4, 5, [some 6, some 157, none, none, none])
def i_kc_ord (I : tb_I) : tb_I := tb_up (tb_up (tb_up (tb_row (I) 157 (fun _ => 0)) 156 2 0) 156 3 (-1)) 156 4 0
set_option maxHeartbeats 4000000 in
set_option maxRecDepth 100000 in
theorem kc_ord {l : Launch} {G : tb_G} (hl : l.stackTraces = false) (sh : Nat → tb_Sh) (I : tb_I) (h156 : sh 156 = (4, 5, [none, none, none, none, none])) : tb_Ok l G M_X4_init 1 1 8 [.ref 156, .ref 6] 157 sh I (tb_Rd none 158 (s_kc_ord sh) (i_kc_ord I)) tb_Nx := by
  refine tb_Ok.of hl (by decide +kernel) rfl (tb_c1 rfl) (Nat.le_of_ble_eq_true rfl) ?_
  show tb_At l G M_X4_init (tb_rm 1 1 8) none _ 0 0 157 sh I 0 [some (.ref 156), some (.ref 6)] []
  refine tb_aload_n (pc := 0) dX4_init_0 rfl rfl ?_
  refine tb_objInit (pc := 1) dX4_init_1 ml_X4_3 wk_obj2 wk_obj3 (Nat.le_of_ble_eq_true rfl) (Nat.le_of_ble_eq_true rfl) ?_
  refine tb_aload_n (pc := 4) dX4_init_4 rfl rfl ?_
  refine tb_bipush (pc := 5) (v := 8) dX4_init_5 (by decide) ?_
  refine tb_newa (pc := 7) (len := 8) (m1 := 1) (m2 := 8) (n' := 158) dX4_init_7 wk_arr_int (Nat.le_of_ble_eq_true rfl) (by decide) (by decide) rfl rfl rfl (Nat.le_of_ble_eq_true rfl) (Nat.le_of_ble_eq_true rfl) ?_
  refine tb_putR (pc := 9) (rs := [none, none, none, none, none]) (rs2 := [none, some 157, none, none, none]) dX4_init_9 rfl ff_X4_9 h156 (by decide) (by decide) (by decide) (by decide) rfl rfl ?_
  refine tb_aload_n (pc := 12) dX4_init_12 rfl rfl ?_
  refine tb_iconst (pc := 13) (v := 0) dX4_init_13 (by decide) ?_
  refine tb_putI (pc := 14) dX4_init_14 fl_X4_15 rfl (by decide) (by decide) rfl ?_
  refine tb_aload_n (pc := 17) dX4_init_17 rfl rfl ?_
  refine tb_iconst (pc := 18) (v := (-1)) dX4_init_18 (by decide) ?_
  refine tb_putI (pc := 19) dX4_init_19 fl_X4_19 rfl (by decide) (by decide) rfl ?_
  refine tb_aload_n (pc := 22) dX4_init_22 rfl rfl ?_
  refine tb_iconst (pc := 23) (v := 0) dX4_init_23 (by decide) ?_
  refine tb_putI (pc := 24) dX4_init_24 fl_X4_22 rfl (by decide) (by decide) rfl ?_
  refine tb_aload_n (pc := 27) dX4_init_27 rfl rfl ?_
  refine tb_aload_n (pc := 28) dX4_init_28 rfl rfl ?_
  refine tb_putR (pc := 29) (rs := [none, some 157, none, none, none]) (rs2 := [some 6, some 157, none, none, none]) dX4_init_29 rfl ff_X4_25 rfl (by decide) (by decide) (by decide) (by decide) rfl rfl ?_
  exact tb_vret (pc := 32) dX4_init_32 rfl (Nat.le_of_ble_eq_true rfl) (Nat.le_of_ble_eq_true rfl) ⟨rfl, rfl, rfl, rfl⟩
def s_kc_rul (sh : Nat → tb_Sh) : Nat → tb_Sh := tb_sup (tb_sup (tb_sup (tb_sup (tb_sup (sh) 155 (7, 5, [some 5, none, none, none, none])) 155 (7, 5, [some 5, some 6, none, none, none])) 155 (7, 5, [some 5, some 6, some 139, none, none])) 155 (7, 5, [some 5, some 6, some 139, some 145, none])) 155 (7, 5, [some 5, some 6, some 139, some 145, some 156])
def i_kc_rul (I : tb_I) : tb_I := I
set_option maxHeartbeats 4000000 in
set_option maxRecDepth 100000 in
theorem kc_rul {l : Launch} {G : tb_G} (hl : l.stackTraces = false) (sh : Nat → tb_Sh) (I : tb_I) (h155 : sh 155 = (7, 5, [none, none, none, none, none])) (h5 : sh 5 = (0, 7, [some 6, some 18, some 20, some 61, some 62, none, none])) : tb_Ok l G M_X7_init 1 0 0 [.ref 155, .ref 5, .ref 139, .ref 145, .ref 156] 158 sh I (tb_Rd none 158 (s_kc_rul sh) (i_kc_rul I)) tb_Nx := by
  refine tb_Ok.of hl (by decide +kernel) rfl (tb_c1 rfl) (Nat.le_of_ble_eq_true rfl) ?_
  show tb_At l G M_X7_init (tb_rm 1 0 0) none _ 0 0 158 sh I 0 [some (.ref 155), some (.ref 5), some (.ref 139), some (.ref 145), some (.ref 156)] []
  refine tb_aload_n (pc := 0) dX7_init_0 rfl rfl ?_
  refine tb_objInit (pc := 1) dX7_init_1 ml_X7_3 wk_obj2 wk_obj3 (Nat.le_of_ble_eq_true rfl) (Nat.le_of_ble_eq_true rfl) ?_
  refine tb_aload_n (pc := 4) dX7_init_4 rfl rfl ?_
  refine tb_aload_n (pc := 5) dX7_init_5 rfl rfl ?_
  refine tb_putR (pc := 6) (rs := [none, none, none, none, none]) (rs2 := [some 5, none, none, none, none]) dX7_init_6 rfl ff_X7_9 h155 (by decide) (by decide) (by decide) (by decide) rfl rfl ?_
  refine tb_aload_n (pc := 9) dX7_init_9 rfl rfl ?_
  refine tb_aload_n (pc := 10) dX7_init_10 rfl rfl ?_
  refine tb_getR (pc := 11) (rs := [some 6, some 18, some 20, some 61, some 62, none, none]) dX7_init_11 fl_X7_15 h5 (by decide) (by decide) rfl rfl ?_
  refine tb_putR (pc := 14) (rs := [some 5, none, none, none, none]) (rs2 := [some 5, some 6, none, none, none]) dX7_init_14 rfl ff_X7_21 rfl (by decide) (by decide) (by decide) (by decide) rfl rfl ?_
  refine tb_aload_n (pc := 17) dX7_init_17 rfl rfl ?_
  refine tb_aload_n (pc := 18) dX7_init_18 rfl rfl ?_
  refine tb_putR (pc := 19) (rs := [some 5, some 6, none, none, none]) (rs2 := [some 5, some 6, some 139, none, none]) dX7_init_19 rfl ff_X7_22 rfl (by decide) (by decide) (by decide) (by decide) rfl rfl ?_
  refine tb_aload_n (pc := 22) dX7_init_22 rfl rfl ?_
  refine tb_aload_n (pc := 23) dX7_init_23 rfl rfl ?_
  refine tb_putR (pc := 24) (rs := [some 5, some 6, some 139, none, none]) (rs2 := [some 5, some 6, some 139, some 145, none]) dX7_init_24 rfl ff_X7_26 rfl (by decide) (by decide) (by decide) (by decide) rfl rfl ?_
  refine tb_aload_n (pc := 27) dX7_init_27 rfl rfl ?_
  refine tb_aload (pc := 28) dX7_init_28 rfl ?_
  refine tb_putR (pc := 30) (rs := [some 5, some 6, some 139, some 145, none]) (rs2 := [some 5, some 6, some 139, some 145, some 156]) dX7_init_30 rfl ff_X7_30 rfl (by decide) (by decide) (by decide) (by decide) rfl rfl ?_
  exact tb_vret (pc := 33) dX7_init_33 rfl (Nat.le_of_ble_eq_true rfl) (Nat.le_of_ble_eq_true rfl) ⟨rfl, rfl, rfl, rfl⟩
def s_kc_rew (sh : Nat → tb_Sh) : Nat → tb_Sh := tb_sup (tb_sup (tb_sup (tb_sup (tb_sup (tb_sup (tb_sup (tb_sup (tb_sup (tb_sup (sh) 159 (100, 612, [])) 158 (6, 9, [none, none, none, none, some 159, none, none, none, none])) 160 (100, 612, [])) 158 (6, 9, [none, none, none, none, some 159, some 160, none, none, none])) 161 (100, 1836, [])) 158 (6, 9, [none, none, none, none, some 159, some 160, some 161, none, none])) 158 (6, 9, [some 5, none, none, none, some 159, some 160, some 161, none, none])) 158 (6, 9, [some 5, some 6, none, none, some 159, some 160, some 161, none, none])) 158 (6, 9, [some 5, some 6, some 139, none, some 159, some 160, some 161, none, none])) 158 (6, 9, [some 5, some 6, some 139, some 141, some 159, some 160, some 161, none, none])
def i_kc_rew (I : tb_I) : tb_I := tb_up (tb_up (tb_row (tb_row (tb_row (I) 159 (fun _ => 0)) 160 (fun _ => 0)) 161 (fun _ => 0)) 158 7 0) 158 8 0
set_option maxHeartbeats 4000000 in
set_option maxRecDepth 100000 in
theorem kc_rew {l : Launch} {G : tb_G} (hl : l.stackTraces = false) (sh : Nat → tb_Sh) (I : tb_I) (h158 : sh 158 = (6, 9, [none, none, none, none, none, none, none, none, none])) (h5 : sh 5 = (0, 7, [some 6, some 18, some 20, some 61, some 62, none, none])) : tb_Ok l G M_X6_init 1 3 3060 [.ref 158, .ref 5, .ref 139, .ref 141] 159 sh I (tb_Rd none 162 (s_kc_rew sh) (i_kc_rew I)) tb_Nx := by
  refine tb_Ok.of hl (by decide +kernel) rfl (tb_c1 rfl) (Nat.le_of_ble_eq_true rfl) ?_
  show tb_At l G M_X6_init (tb_rm 1 3 3060) none _ 0 0 159 sh I 0 [some (.ref 158), some (.ref 5), some (.ref 139), some (.ref 141)] []
  refine tb_aload_n (pc := 0) dX6_init_0 rfl rfl ?_
  refine tb_objInit (pc := 1) dX6_init_1 ml_X6_3 wk_obj2 wk_obj3 (Nat.le_of_ble_eq_true rfl) (Nat.le_of_ble_eq_true rfl) ?_
  refine tb_aload_n (pc := 4) dX6_init_4 rfl rfl ?_
  refine tb_sipush (pc := 5) (v := 612) dX6_init_5 (by decide) ?_
  refine tb_newa (pc := 8) (len := 612) (m1 := 1) (m2 := 612) (n' := 160) dX6_init_8 wk_arr_int (Nat.le_of_ble_eq_true rfl) (by decide) (by decide) rfl rfl rfl (Nat.le_of_ble_eq_true rfl) (Nat.le_of_ble_eq_true rfl) ?_
  refine tb_putR (pc := 10) (rs := [none, none, none, none, none, none, none, none, none]) (rs2 := [none, none, none, none, some 159, none, none, none, none]) dX6_init_10 rfl ff_X6_11 h158 (by decide) (by decide) (by decide) (by decide) rfl rfl ?_
  refine tb_aload_n (pc := 13) dX6_init_13 rfl rfl ?_
  refine tb_sipush (pc := 14) (v := 612) dX6_init_14 (by decide) ?_
  refine tb_newa (pc := 17) (len := 612) (m1 := 2) (m2 := 1224) (n' := 161) dX6_init_17 wk_arr_int (Nat.le_of_ble_eq_true rfl) (by decide) (by decide) rfl rfl rfl (Nat.le_of_ble_eq_true rfl) (Nat.le_of_ble_eq_true rfl) ?_
  refine tb_putR (pc := 19) (rs := [none, none, none, none, some 159, none, none, none, none]) (rs2 := [none, none, none, none, some 159, some 160, none, none, none]) dX6_init_19 rfl ff_X6_15 rfl (by decide) (by decide) (by decide) (by decide) rfl rfl ?_
  refine tb_aload_n (pc := 22) dX6_init_22 rfl rfl ?_
  refine tb_sipush (pc := 23) (v := 1836) dX6_init_23 (by decide) ?_
  refine tb_newa (pc := 26) (len := 1836) (m1 := 3) (m2 := 3060) (n' := 162) dX6_init_26 wk_arr_int (Nat.le_of_ble_eq_true rfl) (by decide) (by decide) rfl rfl rfl (Nat.le_of_ble_eq_true rfl) (Nat.le_of_ble_eq_true rfl) ?_
  refine tb_putR (pc := 28) (rs := [none, none, none, none, some 159, some 160, none, none, none]) (rs2 := [none, none, none, none, some 159, some 160, some 161, none, none]) dX6_init_28 rfl ff_X6_18 rfl (by decide) (by decide) (by decide) (by decide) rfl rfl ?_
  refine tb_aload_n (pc := 31) dX6_init_31 rfl rfl ?_
  refine tb_iconst (pc := 32) (v := 0) dX6_init_32 (by decide) ?_
  refine tb_putI (pc := 33) dX6_init_33 fl_X6_21 rfl (by decide) (by decide) rfl ?_
  refine tb_aload_n (pc := 36) dX6_init_36 rfl rfl ?_
  refine tb_iconst (pc := 37) (v := 0) dX6_init_37 (by decide) ?_
  refine tb_putI (pc := 38) dX6_init_38 fl_X6_25 rfl (by decide) (by decide) rfl ?_
  refine tb_aload_n (pc := 41) dX6_init_41 rfl rfl ?_
  refine tb_aload_n (pc := 42) dX6_init_42 rfl rfl ?_
  refine tb_putR (pc := 43) (rs := [none, none, none, none, some 159, some 160, some 161, none, none]) (rs2 := [some 5, none, none, none, some 159, some 160, some 161, none, none]) dX6_init_43 rfl ff_X6_28 rfl (by decide) (by decide) (by decide) (by decide) rfl rfl ?_
  refine tb_aload_n (pc := 46) dX6_init_46 rfl rfl ?_
  refine tb_aload_n (pc := 47) dX6_init_47 rfl rfl ?_
  refine tb_getR (pc := 48) (rs := [some 6, some 18, some 20, some 61, some 62, none, none]) dX6_init_48 fl_X6_32 h5 (by decide) (by decide) rfl rfl ?_
  refine tb_putR (pc := 51) (rs := [some 5, none, none, none, some 159, some 160, some 161, none, none]) (rs2 := [some 5, some 6, none, none, some 159, some 160, some 161, none, none]) dX6_init_51 rfl ff_X6_38 rfl (by decide) (by decide) (by decide) (by decide) rfl rfl ?_
  refine tb_aload_n (pc := 54) dX6_init_54 rfl rfl ?_
  refine tb_aload_n (pc := 55) dX6_init_55 rfl rfl ?_
  refine tb_putR (pc := 56) (rs := [some 5, some 6, none, none, some 159, some 160, some 161, none, none]) (rs2 := [some 5, some 6, some 139, none, some 159, some 160, some 161, none, none]) dX6_init_56 rfl ff_X6_39 rfl (by decide) (by decide) (by decide) (by decide) rfl rfl ?_
  refine tb_aload_n (pc := 59) dX6_init_59 rfl rfl ?_
  refine tb_aload_n (pc := 60) dX6_init_60 rfl rfl ?_
  refine tb_putR (pc := 61) (rs := [some 5, some 6, some 139, none, some 159, some 160, some 161, none, none]) (rs2 := [some 5, some 6, some 139, some 141, some 159, some 160, some 161, none, none]) dX6_init_61 rfl ff_X6_43 rfl (by decide) (by decide) (by decide) (by decide) rfl rfl ?_
  exact tb_vret (pc := 64) dX6_init_64 rfl (Nat.le_of_ble_eq_true rfl) (Nat.le_of_ble_eq_true rfl) ⟨rfl, rfl, rfl, rfl⟩
def s_kc_rea (sh : Nat → tb_Sh) : Nat → tb_Sh := tb_sup (tb_sup (tb_sup (tb_sup (sh) 163 (5, 11, [some 162, none, none, none, none, none, none, none, none, none, none])) 163 (5, 11, [some 162, some 5, none, none, none, none, none, none, none, none, none])) 163 (5, 11, [some 162, some 5, some 1, none, none, none, none, none, none, none, none])) 163 (5, 11, [some 162, some 5, some 1, some 155, none, none, none, none, none, none, none])
def i_kc_rea (I : tb_I) : tb_I := tb_up (tb_up (tb_up (tb_up (tb_up (tb_up (tb_up (I) 163 4 0) 163 5 0) 163 6 0) 163 7 0) 163 8 0) 163 9 (-1)) 163 10 0
set_option maxHeartbeats 4000000 in
set_option maxRecDepth 100000 in
theorem kc_rea {l : Launch} {G : tb_G} (hl : l.stackTraces = false) (sh : Nat → tb_Sh) (I : tb_I) (h163 : sh 163 = (5, 11, [none, none, none, none, none, none, none, none, none, none, none])) (h5 : sh 5 = (0, 7, [some 6, some 18, some 20, some 61, some 62, none, none])) (h6 : sh 6 = (9, 13, [some 1, some 7, some 8, some 9, some 10, some 11, some 12, some 13, some 14, some 15, some 16, some 17, none])) : tb_Ok l G M_X5_init 1 0 0 [.ref 163, .ref 162, .ref 5, .ref 155] 164 sh I (tb_Rd none 164 (s_kc_rea sh) (i_kc_rea I)) tb_Nx := by
  refine tb_Ok.of hl (by decide +kernel) rfl (tb_c1 rfl) (Nat.le_of_ble_eq_true rfl) ?_
  show tb_At l G M_X5_init (tb_rm 1 0 0) none _ 0 0 164 sh I 0 [some (.ref 163), some (.ref 162), some (.ref 5), some (.ref 155)] []
  refine tb_aload_n (pc := 0) dX5_init_0 rfl rfl ?_
  refine tb_objInit (pc := 1) dX5_init_1 ml_X5_3 wk_obj2 wk_obj3 (Nat.le_of_ble_eq_true rfl) (Nat.le_of_ble_eq_true rfl) ?_
  refine tb_aload_n (pc := 4) dX5_init_4 rfl rfl ?_
  refine tb_iconst (pc := 5) (v := 0) dX5_init_5 (by decide) ?_
  refine tb_putI (pc := 6) dX5_init_6 fl_X5_9 h163 (by decide) (by decide) rfl ?_
  refine tb_aload_n (pc := 9) dX5_init_9 rfl rfl ?_
  refine tb_iconst (pc := 10) (v := 0) dX5_init_10 (by decide) ?_
  refine tb_putI (pc := 11) dX5_init_11 fl_X5_15 h163 (by decide) (by decide) rfl ?_
  refine tb_aload_n (pc := 14) dX5_init_14 rfl rfl ?_
  refine tb_iconst (pc := 15) (v := 0) dX5_init_15 (by decide) ?_
  refine tb_putI (pc := 16) dX5_init_16 fl_X5_18 h163 (by decide) (by decide) rfl ?_
  refine tb_aload_n (pc := 19) dX5_init_19 rfl rfl ?_
  refine tb_iconst (pc := 20) (v := 0) dX5_init_20 (by decide) ?_
  refine tb_putI (pc := 21) dX5_init_21 fl_X5_21 h163 (by decide) (by decide) rfl ?_
  refine tb_aload_n (pc := 24) dX5_init_24 rfl rfl ?_
  refine tb_iconst (pc := 25) (v := 0) dX5_init_25 (by decide) ?_
  refine tb_putI (pc := 26) dX5_init_26 fl_X5_24 h163 (by decide) (by decide) rfl ?_
  refine tb_aload_n (pc := 29) dX5_init_29 rfl rfl ?_
  refine tb_iconst (pc := 30) (v := (-1)) dX5_init_30 (by decide) ?_
  refine tb_putI (pc := 31) dX5_init_31 fl_X5_27 h163 (by decide) (by decide) rfl ?_
  refine tb_aload_n (pc := 34) dX5_init_34 rfl rfl ?_
  refine tb_iconst (pc := 35) (v := 0) dX5_init_35 (by decide) ?_
  refine tb_putZ (pc := 36) dX5_init_36 fl_X5_30 h163 (by decide) (by decide) rfl (Or.inl rfl) ?_
  refine tb_aload_n (pc := 39) dX5_init_39 rfl rfl ?_
  refine tb_aload_n (pc := 40) dX5_init_40 rfl rfl ?_
  refine tb_putR (pc := 41) (rs := [none, none, none, none, none, none, none, none, none, none, none]) (rs2 := [some 162, none, none, none, none, none, none, none, none, none, none]) dX5_init_41 rfl ff_X5_34 h163 (by decide) (by decide) (by decide) (by decide) rfl rfl ?_
  refine tb_aload_n (pc := 44) dX5_init_44 rfl rfl ?_
  refine tb_aload_n (pc := 45) dX5_init_45 rfl rfl ?_
  refine tb_putR (pc := 46) (rs := [some 162, none, none, none, none, none, none, none, none, none, none]) (rs2 := [some 162, some 5, none, none, none, none, none, none, none, none, none]) dX5_init_46 rfl ff_X5_38 rfl (by decide) (by decide) (by decide) (by decide) rfl rfl ?_
  refine tb_aload_n (pc := 49) dX5_init_49 rfl rfl ?_
  refine tb_aload_n (pc := 50) dX5_init_50 rfl rfl ?_
  refine tb_getR (pc := 51) (rs := [some 6, some 18, some 20, some 61, some 62, none, none]) dX5_init_51 fl_X5_42 h5 (by decide) (by decide) rfl rfl ?_
  refine tb_getR (pc := 54) (rs := [some 1, some 7, some 8, some 9, some 10, some 11, some 12, some 13, some 14, some 15, some 16, some 17, none]) dX5_init_54 fl_X5_48 h6 (by decide) (by decide) rfl rfl ?_
  refine tb_putR (pc := 57) (rs := [some 162, some 5, none, none, none, none, none, none, none, none, none]) (rs2 := [some 162, some 5, some 1, none, none, none, none, none, none, none, none]) dX5_init_57 rfl ff_X5_54 rfl (by decide) (by decide) (by decide) (by decide) rfl rfl ?_
  refine tb_aload_n (pc := 60) dX5_init_60 rfl rfl ?_
  refine tb_aload_n (pc := 61) dX5_init_61 rfl rfl ?_
  refine tb_putR (pc := 62) (rs := [some 162, some 5, some 1, none, none, none, none, none, none, none, none]) (rs2 := [some 162, some 5, some 1, some 155, none, none, none, none, none, none, none]) dX5_init_62 rfl ff_X5_55 rfl (by decide) (by decide) (by decide) (by decide) rfl rfl ?_
  exact tb_vret (pc := 65) dX5_init_65 rfl (Nat.le_of_ble_eq_true rfl) (Nat.le_of_ble_eq_true rfl) ⟨rfl, rfl, rfl, rfl⟩
def s_kc_tb (sh : Nat → tb_Sh) : Nat → tb_Sh := tb_sup (s_kc_rea (tb_sup (tb_sup (tb_sup (tb_sup (s_kc_rew (tb_sup (tb_sup (s_kc_rul (s_kc_ord (tb_sup (tb_sup (tb_sup (s_kc_uni (tb_sup (tb_sup (s_kc_mak (tb_sup (tb_sup (s_kc_mat (tb_sup (tb_sup (s_kc_led137 (tb_sup (tb_sup (s_kc_ter125 (tb_sup (tb_sup (s_kc_sym121 (tb_sup (tb_sup (s_kc_cor63 (s_kc_led76 (tb_sup (s_kc_ter64 (tb_sup (tb_sup (tb_sup (s_kc_cor5 (s_kc_led18 (tb_sup (s_kc_ter6 (tb_sup (tb_sup (tb_sup (s_kc_sym1 (tb_sup (sh) 1 (8, 4, List.replicate 4 none))) 0 (11, 16, [some 1, none, none, none, none, none, none, none, none, none, none, none, none, none, none, none])) 5 (0, 7, List.replicate 7 none)) 6 (9, 13, List.replicate 13 none))) 18 (1, 1, List.replicate 1 none)))) 0 (11, 16, [some 1, some 5, none, none, none, none, none, none, none, none, none, none, none, none, none, none])) 63 (0, 7, List.replicate 7 none)) 64 (9, 13, List.replicate 13 none))) 76 (1, 1, List.replicate 1 none)))) 0 (11, 16, [some 1, some 5, some 63, none, none, none, none, none, none, none, none, none, none, none, none, none])) 121 (8, 4, List.replicate 4 none))) 0 (11, 16, [some 1, some 5, some 63, some 121, none, none, none, none, none, none, none, none, none, none, none, none])) 125 (9, 13, List.replicate 13 none))) 0 (11, 16, [some 1, some 5, some 63, some 121, some 125, none, none, none, none, none, none, none, none, none, none, none])) 137 (1, 1, List.replicate 1 none))) 0 (11, 16, [some 1, some 5, some 63, some 121, some 125, some 137, none, none, none, none, none, none, none, none, none, none])) 139 (3, 2, List.replicate 2 none))) 0 (11, 16, [some 1, some 5, some 63, some 121, some 125, some 137, some 139, none, none, none, none, none, none, none, none, none])) 141 (2, 6, List.replicate 6 none))) 0 (11, 16, [some 1, some 5, some 63, some 121, some 125, some 137, some 139, some 141, none, none, none, none, none, none, none, none])) 145 (10, 12, List.replicate 12 none))) 0 (11, 16, [some 1, some 5, some 63, some 121, some 125, some 137, some 139, some 141, some 145, none, none, none, none, none, none, none])) 155 (7, 5, List.replicate 5 none)) 156 (4, 5, List.replicate 5 none)))) 0 (11, 16, [some 1, some 5, some 63, some 121, some 125, some 137, some 139, some 141, some 145, some 155, none, none, none, none, none, none])) 158 (6, 9, List.replicate 9 none))) 0 (11, 16, [some 1, some 5, some 63, some 121, some 125, some 137, some 139, some 141, some 145, some 155, some 158, none, none, none, none, none])) 162 (100, 700, [])) 0 (11, 16, [some 1, some 5, some 63, some 121, some 125, some 137, some 139, some 141, some 145, some 155, some 158, none, some 162, none, none, none])) 163 (5, 11, List.replicate 11 none))) 0 (11, 16, [some 1, some 5, some 63, some 121, some 125, some 137, some 139, some 141, some 145, some 155, some 158, some 163, some 162, none, none, none])
def i_kc_tb (I : tb_I) : tb_I := tb_up (tb_up (tb_up (i_kc_rea (tb_row (tb_row (i_kc_rew (tb_row (i_kc_rul (i_kc_ord (tb_row (tb_row (i_kc_uni (tb_row (i_kc_mak (tb_row (i_kc_mat (tb_row (i_kc_led137 (tb_row (i_kc_ter125 (tb_row (i_kc_sym121 (tb_row (i_kc_cor63 (i_kc_led76 (tb_row (i_kc_ter64 (tb_row (tb_row (i_kc_cor5 (i_kc_led18 (tb_row (i_kc_ter6 (tb_row (tb_row (i_kc_sym1 (tb_row (I) 1 (fun _ => 0))) 5 (fun _ => 0)) 6 (fun _ => 0))) 18 (fun _ => 0)))) 63 (fun _ => 0)) 64 (fun _ => 0))) 76 (fun _ => 0)))) 121 (fun _ => 0))) 125 (fun _ => 0))) 137 (fun _ => 0))) 139 (fun _ => 0))) 141 (fun _ => 0))) 145 (fun _ => 0))) 155 (fun _ => 0)) 156 (fun _ => 0)))) 158 (fun _ => 0))) 162 (fun _ => 0)) 163 (fun _ => 0))) 0 13 0) 0 14 (-1)) 0 15 0
set_option maxHeartbeats 4000000 in
set_option maxRecDepth 100000 in
theorem kc_tb {l : Launch} {G : tb_G} (hl : l.stackTraces = false) (sh : Nat → tb_Sh) (I : tb_I) (h0 : sh 0 = (11, 16, [none, none, none, none, none, none, none, none, none, none, none, none, none, none, none, none])) : tb_Ok l G M_X11_init 4 163 34853 [.ref 0] 1 sh I (tb_Rd none 164 (s_kc_tb sh) (i_kc_tb I)) tb_Nx := by
  refine tb_Ok.of hl (by decide +kernel) rfl (tb_c1 rfl) (Nat.le_of_ble_eq_true rfl) ?_
  show tb_At l G M_X11_init (tb_rm 4 163 34853) none _ 0 0 1 sh I 0 [some (.ref 0)] []
  refine tb_aload_n (pc := 0) dX11_init_0 rfl rfl ?_
  refine tb_objInit (pc := 1) dX11_init_1 ml_X11_1 wk_obj2 wk_obj3 (Nat.le_of_ble_eq_true rfl) (Nat.le_of_ble_eq_true rfl) ?_
  refine tb_aload_n (pc := 4) dX11_init_4 rfl rfl ?_
  refine tb_new (pc := 5) (m1 := 1) (m2 := 4) (n' := 2) dX11_init_5 nw_X11_7 (Nat.le_of_ble_eq_true rfl) rfl rfl rfl (Nat.le_of_ble_eq_true rfl) (Nat.le_of_ble_eq_true rfl) ?_
  refine tb_dup (pc := 8) dX11_init_8 rfl ?_
  refine tb_callIN (pc := 9) (host := "TermBank") (kc_sym1 hl _ _ rfl) (fun _ _ h => h.2.2.2.2.2.2.1) wk_sym rfl rfl cd_X8_init dX11_init_9 rfl rfl (Nat.le_of_ble_eq_true rfl) ⟨(Nat.le_of_ble_eq_true rfl), (Nat.le_of_ble_eq_true rfl)⟩ (m1 := 4) (m2 := 34) rfl rfl (Nat.le_of_ble_eq_true rfl) (Nat.le_of_ble_eq_true rfl) (fun r9 n9 sh9 I9 hq9 => ?_)
  obtain ⟨rfl, rfl, rfl, rfl⟩ := hq9
  refine tb_putR (pc := 12) (rs := [none, none, none, none, none, none, none, none, none, none, none, none, none, none, none, none]) (rs2 := [some 1, none, none, none, none, none, none, none, none, none, none, none, none, none, none, none]) dX11_init_12 rfl ff_X11_10 h0 (by decide) (by decide) (by decide) (by decide) rfl rfl ?_
  refine tb_aload_n (pc := 15) dX11_init_15 rfl rfl ?_
  refine tb_new (pc := 16) (m1 := 5) (m2 := 41) (n' := 6) dX11_init_16 nw_X11_16 (Nat.le_of_ble_eq_true rfl) rfl rfl rfl (Nat.le_of_ble_eq_true rfl) (Nat.le_of_ble_eq_true rfl) ?_
  refine tb_dup (pc := 19) dX11_init_19 rfl ?_
  refine tb_new (pc := 20) (m1 := 6) (m2 := 54) (n' := 7) dX11_init_20 nw_X11_18 (Nat.le_of_ble_eq_true rfl) rfl rfl rfl (Nat.le_of_ble_eq_true rfl) (Nat.le_of_ble_eq_true rfl) ?_
  refine tb_dup (pc := 23) dX11_init_23 rfl ?_
  refine tb_aload_n (pc := 24) dX11_init_24 rfl rfl ?_
  refine tb_getR (pc := 25) (rs := [some 1, none, none, none, none, none, none, none, none, none, none, none, none, none, none, none]) dX11_init_25 fl_X11_10 rfl (by decide) (by decide) rfl rfl ?_
  refine tb_callI (pc := 28) (kc_ter6 hl _ _ rfl) il_X11_20 dX11_init_28 rfl rfl (Nat.le_of_ble_eq_true rfl) ⟨(Nat.le_of_ble_eq_true rfl), (Nat.le_of_ble_eq_true rfl)⟩ (m1 := 17) (m2 := 5122) rfl rfl (Nat.le_of_ble_eq_true rfl) (Nat.le_of_ble_eq_true rfl) (fun r9 n9 sh9 I9 hq9 => ?_)
  obtain ⟨rfl, rfl, rfl, rfl⟩ := hq9
  refine tb_new (pc := 31) (m1 := 18) (m2 := 5123) (n' := 19) dX11_init_31 nw_X11_23 (Nat.le_of_ble_eq_true rfl) rfl rfl rfl (Nat.le_of_ble_eq_true rfl) (Nat.le_of_ble_eq_true rfl) ?_
  refine tb_dup (pc := 34) dX11_init_34 rfl ?_
  refine tb_callI (pc := 35) (kc_led18 hl _ _ rfl) il_X11_25 dX11_init_35 rfl rfl (Nat.le_of_ble_eq_true rfl) ⟨(Nat.le_of_ble_eq_true rfl), (Nat.le_of_ble_eq_true rfl)⟩ (m1 := 19) (m2 := 5184) rfl rfl (Nat.le_of_ble_eq_true rfl) (Nat.le_of_ble_eq_true rfl) (fun r9 n9 sh9 I9 hq9 => ?_)
  obtain ⟨rfl, rfl, rfl, rfl⟩ := hq9
  refine tb_callI (pc := 38) (kc_cor5 hl _ _ rfl) il_X11_26 dX11_init_38 rfl rfl (Nat.le_of_ble_eq_true rfl) ⟨(Nat.le_of_ble_eq_true rfl), (Nat.le_of_ble_eq_true rfl)⟩ (m1 := 62) (m2 := 7729) rfl rfl (Nat.le_of_ble_eq_true rfl) (Nat.le_of_ble_eq_true rfl) (fun r9 n9 sh9 I9 hq9 => ?_)
  obtain ⟨rfl, rfl, rfl, rfl⟩ := hq9
  refine tb_putR (pc := 41) (rs := [some 1, none, none, none, none, none, none, none, none, none, none, none, none, none, none, none]) (rs2 := [some 1, some 5, none, none, none, none, none, none, none, none, none, none, none, none, none, none]) dX11_init_41 rfl ff_X11_29 rfl (by decide) (by decide) (by decide) (by decide) rfl rfl ?_
  refine tb_aload_n (pc := 44) dX11_init_44 rfl rfl ?_
  refine tb_new (pc := 45) (m1 := 63) (m2 := 7736) (n' := 64) dX11_init_45 nw_X11_16 (Nat.le_of_ble_eq_true rfl) rfl rfl rfl (Nat.le_of_ble_eq_true rfl) (Nat.le_of_ble_eq_true rfl) ?_
  refine tb_dup (pc := 48) dX11_init_48 rfl ?_
  refine tb_new (pc := 49) (m1 := 64) (m2 := 7749) (n' := 65) dX11_init_49 nw_X11_18 (Nat.le_of_ble_eq_true rfl) rfl rfl rfl (Nat.le_of_ble_eq_true rfl) (Nat.le_of_ble_eq_true rfl) ?_
  refine tb_dup (pc := 52) dX11_init_52 rfl ?_
  refine tb_aload_n (pc := 53) dX11_init_53 rfl rfl ?_
  refine tb_getR (pc := 54) (rs := [some 1, some 5, none, none, none, none, none, none, none, none, none, none, none, none, none, none]) dX11_init_54 fl_X11_10 rfl (by decide) (by decide) rfl rfl ?_
  refine tb_callI (pc := 57) (kc_ter64 hl _ _ rfl) il_X11_20 dX11_init_57 rfl rfl (Nat.le_of_ble_eq_true rfl) ⟨(Nat.le_of_ble_eq_true rfl), (Nat.le_of_ble_eq_true rfl)⟩ (m1 := 75) (m2 := 12817) rfl rfl (Nat.le_of_ble_eq_true rfl) (Nat.le_of_ble_eq_true rfl) (fun r9 n9 sh9 I9 hq9 => ?_)
  obtain ⟨rfl, rfl, rfl, rfl⟩ := hq9
  refine tb_new (pc := 60) (m1 := 76) (m2 := 12818) (n' := 77) dX11_init_60 nw_X11_23 (Nat.le_of_ble_eq_true rfl) rfl rfl rfl (Nat.le_of_ble_eq_true rfl) (Nat.le_of_ble_eq_true rfl) ?_
  refine tb_dup (pc := 63) dX11_init_63 rfl ?_
  refine tb_callI (pc := 64) (kc_led76 hl _ _ rfl) il_X11_25 dX11_init_64 rfl rfl (Nat.le_of_ble_eq_true rfl) ⟨(Nat.le_of_ble_eq_true rfl), (Nat.le_of_ble_eq_true rfl)⟩ (m1 := 77) (m2 := 12879) rfl rfl (Nat.le_of_ble_eq_true rfl) (Nat.le_of_ble_eq_true rfl) (fun r9 n9 sh9 I9 hq9 => ?_)
  obtain ⟨rfl, rfl, rfl, rfl⟩ := hq9
  refine tb_callI (pc := 67) (kc_cor63 hl _ _ rfl) il_X11_26 dX11_init_67 rfl rfl (Nat.le_of_ble_eq_true rfl) ⟨(Nat.le_of_ble_eq_true rfl), (Nat.le_of_ble_eq_true rfl)⟩ (m1 := 120) (m2 := 15424) rfl rfl (Nat.le_of_ble_eq_true rfl) (Nat.le_of_ble_eq_true rfl) (fun r9 n9 sh9 I9 hq9 => ?_)
  obtain ⟨rfl, rfl, rfl, rfl⟩ := hq9
  refine tb_putR (pc := 70) (rs := [some 1, some 5, none, none, none, none, none, none, none, none, none, none, none, none, none, none]) (rs2 := [some 1, some 5, some 63, none, none, none, none, none, none, none, none, none, none, none, none, none]) dX11_init_70 rfl ff_X11_33 rfl (by decide) (by decide) (by decide) (by decide) rfl rfl ?_
  refine tb_aload_n (pc := 73) dX11_init_73 rfl rfl ?_
  refine tb_new (pc := 74) (m1 := 121) (m2 := 15428) (n' := 122) dX11_init_74 nw_X11_7 (Nat.le_of_ble_eq_true rfl) rfl rfl rfl (Nat.le_of_ble_eq_true rfl) (Nat.le_of_ble_eq_true rfl) ?_
  refine tb_dup (pc := 77) dX11_init_77 rfl ?_
  refine tb_callIN (pc := 78) (host := "TermBank") (kc_sym121 hl _ _ rfl) (fun _ _ h => h.2.2.2.2.2.2.1) wk_sym rfl rfl cd_X8_init dX11_init_78 rfl rfl (Nat.le_of_ble_eq_true rfl) ⟨(Nat.le_of_ble_eq_true rfl), (Nat.le_of_ble_eq_true rfl)⟩ (m1 := 124) (m2 := 15458) rfl rfl (Nat.le_of_ble_eq_true rfl) (Nat.le_of_ble_eq_true rfl) (fun r9 n9 sh9 I9 hq9 => ?_)
  obtain ⟨rfl, rfl, rfl, rfl⟩ := hq9
  refine tb_putR (pc := 81) (rs := [some 1, some 5, some 63, none, none, none, none, none, none, none, none, none, none, none, none, none]) (rs2 := [some 1, some 5, some 63, some 121, none, none, none, none, none, none, none, none, none, none, none, none]) dX11_init_81 rfl ff_X11_36 rfl (by decide) (by decide) (by decide) (by decide) rfl rfl ?_
  refine tb_aload_n (pc := 84) dX11_init_84 rfl rfl ?_
  refine tb_new (pc := 85) (m1 := 125) (m2 := 15471) (n' := 126) dX11_init_85 nw_X11_18 (Nat.le_of_ble_eq_true rfl) rfl rfl rfl (Nat.le_of_ble_eq_true rfl) (Nat.le_of_ble_eq_true rfl) ?_
  refine tb_dup (pc := 88) dX11_init_88 rfl ?_
  refine tb_aload_n (pc := 89) dX11_init_89 rfl rfl ?_
  refine tb_getR (pc := 90) (rs := [some 1, some 5, some 63, some 121, none, none, none, none, none, none, none, none, none, none, none, none]) dX11_init_90 fl_X11_10 rfl (by decide) (by decide) rfl rfl ?_
  refine tb_callI (pc := 93) (kc_ter125 hl _ _ rfl) il_X11_20 dX11_init_93 rfl rfl (Nat.le_of_ble_eq_true rfl) ⟨(Nat.le_of_ble_eq_true rfl), (Nat.le_of_ble_eq_true rfl)⟩ (m1 := 136) (m2 := 20539) rfl rfl (Nat.le_of_ble_eq_true rfl) (Nat.le_of_ble_eq_true rfl) (fun r9 n9 sh9 I9 hq9 => ?_)
  obtain ⟨rfl, rfl, rfl, rfl⟩ := hq9
  refine tb_putR (pc := 96) (rs := [some 1, some 5, some 63, some 121, none, none, none, none, none, none, none, none, none, none, none, none]) (rs2 := [some 1, some 5, some 63, some 121, some 125, none, none, none, none, none, none, none, none, none, none, none]) dX11_init_96 rfl ff_X11_39 rfl (by decide) (by decide) (by decide) (by decide) rfl rfl ?_
  refine tb_aload_n (pc := 99) dX11_init_99 rfl rfl ?_
  refine tb_new (pc := 100) (m1 := 137) (m2 := 20540) (n' := 138) dX11_init_100 nw_X11_23 (Nat.le_of_ble_eq_true rfl) rfl rfl rfl (Nat.le_of_ble_eq_true rfl) (Nat.le_of_ble_eq_true rfl) ?_
  refine tb_dup (pc := 103) dX11_init_103 rfl ?_
  refine tb_callI (pc := 104) (kc_led137 hl _ _ rfl) il_X11_25 dX11_init_104 rfl rfl (Nat.le_of_ble_eq_true rfl) ⟨(Nat.le_of_ble_eq_true rfl), (Nat.le_of_ble_eq_true rfl)⟩ (m1 := 138) (m2 := 20601) rfl rfl (Nat.le_of_ble_eq_true rfl) (Nat.le_of_ble_eq_true rfl) (fun r9 n9 sh9 I9 hq9 => ?_)
  obtain ⟨rfl, rfl, rfl, rfl⟩ := hq9
  refine tb_putR (pc := 107) (rs := [some 1, some 5, some 63, some 121, some 125, none, none, none, none, none, none, none, none, none, none, none]) (rs2 := [some 1, some 5, some 63, some 121, some 125, some 137, none, none, none, none, none, none, none, none, none, none]) dX11_init_107 rfl ff_X11_43 rfl (by decide) (by decide) (by decide) (by decide) rfl rfl ?_
  refine tb_aload_n (pc := 110) dX11_init_110 rfl rfl ?_
  refine tb_new (pc := 111) (m1 := 139) (m2 := 20603) (n' := 140) dX11_init_111 nw_X11_47 (Nat.le_of_ble_eq_true rfl) rfl rfl rfl (Nat.le_of_ble_eq_true rfl) (Nat.le_of_ble_eq_true rfl) ?_
  refine tb_dup (pc := 114) dX11_init_114 rfl ?_
  refine tb_aload_n (pc := 115) dX11_init_115 rfl rfl ?_
  refine tb_getR (pc := 116) (rs := [some 1, some 5, some 63, some 121, some 125, some 137, none, none, none, none, none, none, none, none, none, none]) dX11_init_116 fl_X11_29 rfl (by decide) (by decide) rfl rfl ?_
  refine tb_getR (pc := 119) (rs := [some 6, some 18, some 20, some 61, some 62, none, none]) dX11_init_119 fl_X11_49 rfl (by decide) (by decide) rfl rfl ?_
  refine tb_callI (pc := 122) (kc_mat hl _ _ rfl) il_X11_52 dX11_init_122 rfl rfl (Nat.le_of_ble_eq_true rfl) ⟨(Nat.le_of_ble_eq_true rfl), (Nat.le_of_ble_eq_true rfl)⟩ (m1 := 140) (m2 := 20611) rfl rfl (Nat.le_of_ble_eq_true rfl) (Nat.le_of_ble_eq_true rfl) (fun r9 n9 sh9 I9 hq9 => ?_)
  obtain ⟨rfl, rfl, rfl, rfl⟩ := hq9
  refine tb_putR (pc := 125) (rs := [some 1, some 5, some 63, some 121, some 125, some 137, none, none, none, none, none, none, none, none, none, none]) (rs2 := [some 1, some 5, some 63, some 121, some 125, some 137, some 139, none, none, none, none, none, none, none, none, none]) dX11_init_125 rfl ff_X11_55 rfl (by decide) (by decide) (by decide) (by decide) rfl rfl ?_
  refine tb_aload_n (pc := 128) dX11_init_128 rfl rfl ?_
  refine tb_new (pc := 129) (m1 := 141) (m2 := 20617) (n' := 142) dX11_init_129 nw_X11_59 (Nat.le_of_ble_eq_true rfl) rfl rfl rfl (Nat.le_of_ble_eq_true rfl) (Nat.le_of_ble_eq_true rfl) ?_
  refine tb_dup (pc := 132) dX11_init_132 rfl ?_
  refine tb_aload_n (pc := 133) dX11_init_133 rfl rfl ?_
  refine tb_getR (pc := 134) (rs := [some 1, some 5, some 63, some 121, some 125, some 137, some 139, none, none, none, none, none, none, none, none, none]) dX11_init_134 fl_X11_29 rfl (by decide) (by decide) rfl rfl ?_
  refine tb_getR (pc := 137) (rs := [some 6, some 18, some 20, some 61, some 62, none, none]) dX11_init_137 fl_X11_49 rfl (by decide) (by decide) rfl rfl ?_
  refine tb_callI (pc := 140) (kc_mak hl _ _ rfl) il_X11_61 dX11_init_140 rfl rfl (Nat.le_of_ble_eq_true rfl) ⟨(Nat.le_of_ble_eq_true rfl), (Nat.le_of_ble_eq_true rfl)⟩ (m1 := 144) (m2 := 20641) rfl rfl (Nat.le_of_ble_eq_true rfl) (Nat.le_of_ble_eq_true rfl) (fun r9 n9 sh9 I9 hq9 => ?_)
  obtain ⟨rfl, rfl, rfl, rfl⟩ := hq9
  refine tb_putR (pc := 143) (rs := [some 1, some 5, some 63, some 121, some 125, some 137, some 139, none, none, none, none, none, none, none, none, none]) (rs2 := [some 1, some 5, some 63, some 121, some 125, some 137, some 139, some 141, none, none, none, none, none, none, none, none]) dX11_init_143 rfl ff_X11_62 rfl (by decide) (by decide) (by decide) (by decide) rfl rfl ?_
  refine tb_aload_n (pc := 146) dX11_init_146 rfl rfl ?_
  refine tb_new (pc := 147) (m1 := 145) (m2 := 20653) (n' := 146) dX11_init_147 nw_X11_66 (Nat.le_of_ble_eq_true rfl) rfl rfl rfl (Nat.le_of_ble_eq_true rfl) (Nat.le_of_ble_eq_true rfl) ?_
  refine tb_dup (pc := 150) dX11_init_150 rfl ?_
  refine tb_aload_n (pc := 151) dX11_init_151 rfl rfl ?_
  refine tb_getR (pc := 152) (rs := [some 1, some 5, some 63, some 121, some 125, some 137, some 139, some 141, none, none, none, none, none, none, none, none]) dX11_init_152 fl_X11_29 rfl (by decide) (by decide) rfl rfl ?_
  refine tb_getR (pc := 155) (rs := [some 6, some 18, some 20, some 61, some 62, none, none]) dX11_init_155 fl_X11_49 rfl (by decide) (by decide) rfl rfl ?_
  refine tb_callI (pc := 158) (kc_uni hl _ _ rfl) il_X11_68 dX11_init_158 rfl rfl (Nat.le_of_ble_eq_true rfl) ⟨(Nat.le_of_ble_eq_true rfl), (Nat.le_of_ble_eq_true rfl)⟩ (m1 := 154) (m2 := 31055) rfl rfl (Nat.le_of_ble_eq_true rfl) (Nat.le_of_ble_eq_true rfl) (fun r9 n9 sh9 I9 hq9 => ?_)
  obtain ⟨rfl, rfl, rfl, rfl⟩ := hq9
  refine tb_putR (pc := 161) (rs := [some 1, some 5, some 63, some 121, some 125, some 137, some 139, some 141, none, none, none, none, none, none, none, none]) (rs2 := [some 1, some 5, some 63, some 121, some 125, some 137, some 139, some 141, some 145, none, none, none, none, none, none, none]) dX11_init_161 rfl ff_X11_69 rfl (by decide) (by decide) (by decide) (by decide) rfl rfl ?_
  refine tb_aload_n (pc := 164) dX11_init_164 rfl rfl ?_
  refine tb_new (pc := 165) (m1 := 155) (m2 := 31060) (n' := 156) dX11_init_165 nw_X11_73 (Nat.le_of_ble_eq_true rfl) rfl rfl rfl (Nat.le_of_ble_eq_true rfl) (Nat.le_of_ble_eq_true rfl) ?_
  refine tb_dup (pc := 168) dX11_init_168 rfl ?_
  refine tb_aload_n (pc := 169) dX11_init_169 rfl rfl ?_
  refine tb_getR (pc := 170) (rs := [some 1, some 5, some 63, some 121, some 125, some 137, some 139, some 141, some 145, none, none, none, none, none, none, none]) dX11_init_170 fl_X11_29 rfl (by decide) (by decide) rfl rfl ?_
  refine tb_aload_n (pc := 173) dX11_init_173 rfl rfl ?_
  refine tb_getR (pc := 174) (rs := [some 1, some 5, some 63, some 121, some 125, some 137, some 139, some 141, some 145, none, none, none, none, none, none, none]) dX11_init_174 fl_X11_55 rfl (by decide) (by decide) rfl rfl ?_
  refine tb_aload_n (pc := 177) dX11_init_177 rfl rfl ?_
  refine tb_getR (pc := 178) (rs := [some 1, some 5, some 63, some 121, some 125, some 137, some 139, some 141, some 145, none, none, none, none, none, none, none]) dX11_init_178 fl_X11_69 rfl (by decide) (by decide) rfl rfl ?_
  refine tb_new (pc := 181) (m1 := 156) (m2 := 31065) (n' := 157) dX11_init_181 nw_X11_75 (Nat.le_of_ble_eq_true rfl) rfl rfl rfl (Nat.le_of_ble_eq_true rfl) (Nat.le_of_ble_eq_true rfl) ?_
  refine tb_dup (pc := 184) dX11_init_184 rfl ?_
  refine tb_aload_n (pc := 185) dX11_init_185 rfl rfl ?_
  refine tb_getR (pc := 186) (rs := [some 1, some 5, some 63, some 121, some 125, some 137, some 139, some 141, some 145, none, none, none, none, none, none, none]) dX11_init_186 fl_X11_29 rfl (by decide) (by decide) rfl rfl ?_
  refine tb_getR (pc := 189) (rs := [some 6, some 18, some 20, some 61, some 62, none, none]) dX11_init_189 fl_X11_49 rfl (by decide) (by decide) rfl rfl ?_
  refine tb_callI (pc := 192) (kc_ord hl _ _ rfl) il_X11_77 dX11_init_192 rfl rfl (Nat.le_of_ble_eq_true rfl) ⟨(Nat.le_of_ble_eq_true rfl), (Nat.le_of_ble_eq_true rfl)⟩ (m1 := 157) (m2 := 31073) rfl rfl (Nat.le_of_ble_eq_true rfl) (Nat.le_of_ble_eq_true rfl) (fun r9 n9 sh9 I9 hq9 => ?_)
  obtain ⟨rfl, rfl, rfl, rfl⟩ := hq9
  refine tb_callI (pc := 195) (kc_rul hl _ _ rfl rfl) il_X11_78 dX11_init_195 rfl rfl (Nat.le_of_ble_eq_true rfl) ⟨(Nat.le_of_ble_eq_true rfl), (Nat.le_of_ble_eq_true rfl)⟩ (m1 := 157) (m2 := 31073) rfl rfl (Nat.le_of_ble_eq_true rfl) (Nat.le_of_ble_eq_true rfl) (fun r9 n9 sh9 I9 hq9 => ?_)
  obtain ⟨rfl, rfl, rfl, rfl⟩ := hq9
  refine tb_putR (pc := 198) (rs := [some 1, some 5, some 63, some 121, some 125, some 137, some 139, some 141, some 145, none, none, none, none, none, none, none]) (rs2 := [some 1, some 5, some 63, some 121, some 125, some 137, some 139, some 141, some 145, some 155, none, none, none, none, none, none]) dX11_init_198 rfl ff_X11_81 rfl (by decide) (by decide) (by decide) (by decide) rfl rfl ?_
  refine tb_aload_n (pc := 201) dX11_init_201 rfl rfl ?_
  refine tb_new (pc := 202) (m1 := 158) (m2 := 31082) (n' := 159) dX11_init_202 nw_X11_85 (Nat.le_of_ble_eq_true rfl) rfl rfl rfl (Nat.le_of_ble_eq_true rfl) (Nat.le_of_ble_eq_true rfl) ?_
  refine tb_dup (pc := 205) dX11_init_205 rfl ?_
  refine tb_aload_n (pc := 206) dX11_init_206 rfl rfl ?_
  refine tb_getR (pc := 207) (rs := [some 1, some 5, some 63, some 121, some 125, some 137, some 139, some 141, some 145, some 155, none, none, none, none, none, none]) dX11_init_207 fl_X11_29 rfl (by decide) (by decide) rfl rfl ?_
  refine tb_aload_n (pc := 210) dX11_init_210 rfl rfl ?_
  refine tb_getR (pc := 211) (rs := [some 1, some 5, some 63, some 121, some 125, some 137, some 139, some 141, some 145, some 155, none, none, none, none, none, none]) dX11_init_211 fl_X11_55 rfl (by decide) (by decide) rfl rfl ?_
  refine tb_aload_n (pc := 214) dX11_init_214 rfl rfl ?_
  refine tb_getR (pc := 215) (rs := [some 1, some 5, some 63, some 121, some 125, some 137, some 139, some 141, some 145, some 155, none, none, none, none, none, none]) dX11_init_215 fl_X11_62 rfl (by decide) (by decide) rfl rfl ?_
  refine tb_callI (pc := 218) (kc_rew hl _ _ rfl rfl) il_X11_87 dX11_init_218 rfl rfl (Nat.le_of_ble_eq_true rfl) ⟨(Nat.le_of_ble_eq_true rfl), (Nat.le_of_ble_eq_true rfl)⟩ (m1 := 161) (m2 := 34142) rfl rfl (Nat.le_of_ble_eq_true rfl) (Nat.le_of_ble_eq_true rfl) (fun r9 n9 sh9 I9 hq9 => ?_)
  obtain ⟨rfl, rfl, rfl, rfl⟩ := hq9
  refine tb_putR (pc := 221) (rs := [some 1, some 5, some 63, some 121, some 125, some 137, some 139, some 141, some 145, some 155, none, none, none, none, none, none]) (rs2 := [some 1, some 5, some 63, some 121, some 125, some 137, some 139, some 141, some 145, some 155, some 158, none, none, none, none, none]) dX11_init_221 rfl ff_X11_90 rfl (by decide) (by decide) (by decide) (by decide) rfl rfl ?_
  refine tb_aload_n (pc := 224) dX11_init_224 rfl rfl ?_
  refine tb_sipush (pc := 225) (v := 700) dX11_init_225 (by decide) ?_
  refine tb_newa (pc := 228) (len := 700) (m1 := 162) (m2 := 34842) (n' := 163) dX11_init_228 wk_arr_int (Nat.le_of_ble_eq_true rfl) (by decide) (by decide) rfl rfl rfl (Nat.le_of_ble_eq_true rfl) (Nat.le_of_ble_eq_true rfl) ?_
  refine tb_putR (pc := 230) (rs := [some 1, some 5, some 63, some 121, some 125, some 137, some 139, some 141, some 145, some 155, some 158, none, none, none, none, none]) (rs2 := [some 1, some 5, some 63, some 121, some 125, some 137, some 139, some 141, some 145, some 155, some 158, none, some 162, none, none, none]) dX11_init_230 rfl ff_X11_94 rfl (by decide) (by decide) (by decide) (by decide) rfl rfl ?_
  refine tb_aload_n (pc := 233) dX11_init_233 rfl rfl ?_
  refine tb_new (pc := 234) (m1 := 163) (m2 := 34853) (n' := 164) dX11_init_234 nw_X11_98 (Nat.le_of_ble_eq_true rfl) rfl rfl rfl (Nat.le_of_ble_eq_true rfl) (Nat.le_of_ble_eq_true rfl) ?_
  refine tb_dup (pc := 237) dX11_init_237 rfl ?_
  refine tb_aload_n (pc := 238) dX11_init_238 rfl rfl ?_
  refine tb_getR (pc := 239) (rs := [some 1, some 5, some 63, some 121, some 125, some 137, some 139, some 141, some 145, some 155, some 158, none, some 162, none, none, none]) dX11_init_239 fl_X11_94 rfl (by decide) (by decide) rfl rfl ?_
  refine tb_aload_n (pc := 242) dX11_init_242 rfl rfl ?_
  refine tb_getR (pc := 243) (rs := [some 1, some 5, some 63, some 121, some 125, some 137, some 139, some 141, some 145, some 155, some 158, none, some 162, none, none, none]) dX11_init_243 fl_X11_29 rfl (by decide) (by decide) rfl rfl ?_
  refine tb_aload_n (pc := 246) dX11_init_246 rfl rfl ?_
  refine tb_getR (pc := 247) (rs := [some 1, some 5, some 63, some 121, some 125, some 137, some 139, some 141, some 145, some 155, some 158, none, some 162, none, none, none]) dX11_init_247 fl_X11_81 rfl (by decide) (by decide) rfl rfl ?_
  refine tb_callI (pc := 250) (kc_rea hl _ _ rfl rfl rfl) il_X11_100 dX11_init_250 rfl rfl (Nat.le_of_ble_eq_true rfl) ⟨(Nat.le_of_ble_eq_true rfl), (Nat.le_of_ble_eq_true rfl)⟩ (m1 := 163) (m2 := 34853) rfl rfl (Nat.le_of_ble_eq_true rfl) (Nat.le_of_ble_eq_true rfl) (fun r9 n9 sh9 I9 hq9 => ?_)
  obtain ⟨rfl, rfl, rfl, rfl⟩ := hq9
  refine tb_putR (pc := 253) (rs := [some 1, some 5, some 63, some 121, some 125, some 137, some 139, some 141, some 145, some 155, some 158, none, some 162, none, none, none]) (rs2 := [some 1, some 5, some 63, some 121, some 125, some 137, some 139, some 141, some 145, some 155, some 158, some 163, some 162, none, none, none]) dX11_init_253 rfl ff_X11_103 rfl (by decide) (by decide) (by decide) (by decide) rfl rfl ?_
  refine tb_aload_n (pc := 256) dX11_init_256 rfl rfl ?_
  refine tb_iconst (pc := 257) (v := 0) dX11_init_257 (by decide) ?_
  refine tb_putI (pc := 258) dX11_init_258 fl_X11_107 rfl (by decide) (by decide) rfl ?_
  refine tb_aload_n (pc := 261) dX11_init_261 rfl rfl ?_
  refine tb_iconst (pc := 262) (v := (-1)) dX11_init_262 (by decide) ?_
  refine tb_putI (pc := 263) dX11_init_263 fl_X11_111 rfl (by decide) (by decide) rfl ?_
  refine tb_aload_n (pc := 266) dX11_init_266 rfl rfl ?_
  refine tb_iconst (pc := 267) (v := 0) dX11_init_267 (by decide) ?_
  refine tb_putZ (pc := 268) dX11_init_268 fl_X11_114 rfl (by decide) (by decide) rfl (Or.inl rfl) ?_
  exact tb_vret (pc := 271) dX11_init_271 rfl (Nat.le_of_ble_eq_true rfl) (Nat.le_of_ble_eq_true rfl) ⟨rfl, rfl, rfl, rfl⟩
def s_kc_mo (sh : Nat → tb_Sh) : Nat → tb_Sh := tb_sup (tb_sup (tb_sup (tb_sup (tb_sup (tb_sup (tb_sup (tb_sup (tb_sup (tb_sup (tb_sup (tb_sup (tb_sup (tb_sup (tb_sup (tb_sup (tb_sup (tb_sup (tb_sup (tb_sup (tb_sup (tb_sup (tb_sup (tb_sup (tb_sup (tb_sup (tb_sup (tb_sup (tb_sup (tb_sup (tb_sup (tb_sup (tb_sup (tb_sup (tb_sup (tb_sup (sh) 165 (100, 5400, [])) 164 (12, 47, [some 165, none, none, none, none, none, none, none, none, none, none, none, none, none, none, none, none, none, none, none, none, none, none, none, none, none, none, none, none, none, none, none, none, none, none, none, none, none, none, none, none, none, none, none, none, none, none])) 166 (100, 1200, [])) 164 (12, 47, [some 165, some 166, none, none, none, none, none, none, none, none, none, none, none, none, none, none, none, none, none, none, none, none, none, none, none, none, none, none, none, none, none, none, none, none, none, none, none, none, none, none, none, none, none, none, none, none, none])) 167 (100, 3600, [])) 164 (12, 47, [some 165, some 166, some 167, none, none, none, none, none, none, none, none, none, none, none, none, none, none, none, none, none, none, none, none, none, none, none, none, none, none, none, none, none, none, none, none, none, none, none, none, none, none, none, none, none, none, none, none])) 168 (100, 1200, [])) 164 (12, 47, [some 165, some 166, some 167, some 168, none, none, none, none, none, none, none, none, none, none, none, none, none, none, none, none, none, none, none, none, none, none, none, none, none, none, none, none, none, none, none, none, none, none, none, none, none, none, none, none, none, none, none])) 169 (100, 20, [])) 164 (12, 47, [some 165, some 166, some 167, some 168, some 169, none, none, none, none, none, none, none, none, none, none, none, none, none, none, none, none, none, none, none, none, none, none, none, none, none, none, none, none, none, none, none, none, none, none, none, none, none, none, none, none, none, none])) 170 (100, 20, [])) 164 (12, 47, [some 165, some 166, some 167, some 168, some 169, some 170, none, none, none, none, none, none, none, none, none, none, none, none, none, none, none, none, none, none, none, none, none, none, none, none, none, none, none, none, none, none, none, none, none, none, none, none, none, none, none, none, none])) 171 (100, 20, [])) 164 (12, 47, [some 165, some 166, some 167, some 168, some 169, some 170, some 171, none, none, none, none, none, none, none, none, none, none, none, none, none, none, none, none, none, none, none, none, none, none, none, none, none, none, none, none, none, none, none, none, none, none, none, none, none, none, none, none])) 172 (100, 8, [])) 164 (12, 47, [some 165, some 166, some 167, some 168, some 169, some 170, some 171, some 172, none, none, none, none, none, none, none, none, none, none, none, none, none, none, none, none, none, none, none, none, none, none, none, none, none, none, none, none, none, none, none, none, none, none, none, none, none, none, none])) 173 (100, 700, [])) 164 (12, 47, [some 165, some 166, some 167, some 168, some 169, some 170, some 171, some 172, none, none, none, none, none, none, none, none, none, none, some 173, none, none, none, none, none, none, none, none, none, none, none, none, none, none, none, none, none, none, none, none, none, none, none, none, none, none, none, none])) 174 (100, 8, [])) 164 (12, 47, [some 165, some 166, some 167, some 168, some 169, some 170, some 171, some 172, none, none, none, none, none, none, none, none, none, none, some 173, none, none, none, some 174, none, none, none, none, none, none, none, none, none, none, none, none, none, none, none, none, none, none, none, none, none, none, none, none])) 175 (100, 8, [])) 164 (12, 47, [some 165, some 166, some 167, some 168, some 169, some 170, some 171, some 172, none, none, none, none, none, none, none, none, none, none, some 173, none, none, none, some 174, some 175, none, none, none, none, none, none, none, none, none, none, none, none, none, none, none, none, none, none, none, none, none, none, none])) 176 (100, 8, [])) 164 (12, 47, [some 165, some 166, some 167, some 168, some 169, some 170, some 171, some 172, none, none, none, none, none, none, none, none, none, none, some 173, none, none, none, some 174, some 175, some 176, none, none, none, none, none, none, none, none, none, none, none, none, none, none, none, none, none, none, none, none, none, none])) 177 (100, 800, [])) 164 (12, 47, [some 165, some 166, some 167, some 168, some 169, some 170, some 171, some 172, none, none, none, none, none, none, none, none, none, none, some 173, none, none, none, some 174, some 175, some 176, some 177, none, none, none, none, none, none, none, none, none, none, none, none, none, none, none, none, none, none, none, none, none])) 178 (100, 800, [])) 164 (12, 47, [some 165, some 166, some 167, some 168, some 169, some 170, some 171, some 172, none, none, none, none, none, none, none, none, none, none, some 173, none, none, none, some 174, some 175, some 176, some 177, some 178, none, none, none, none, none, none, none, none, none, none, none, none, none, none, none, none, none, none, none, none])) 179 (100, 800, [])) 164 (12, 47, [some 165, some 166, some 167, some 168, some 169, some 170, some 171, some 172, none, none, none, none, none, none, none, none, none, none, some 173, none, none, none, some 174, some 175, some 176, some 177, some 178, some 179, none, none, none, none, none, none, none, none, none, none, none, none, none, none, none, none, none, none, none])) 180 (100, 800, [])) 164 (12, 47, [some 165, some 166, some 167, some 168, some 169, some 170, some 171, some 172, none, none, none, none, none, none, none, none, none, none, some 173, none, none, none, some 174, some 175, some 176, some 177, some 178, some 179, some 180, none, none, none, none, none, none, none, none, none, none, none, none, none, none, none, none, none, none])) 181 (100, 4000, [])) 164 (12, 47, [some 165, some 166, some 167, some 168, some 169, some 170, some 171, some 172, none, none, none, none, none, none, none, none, none, none, some 173, none, none, none, some 174, some 175, some 176, some 177, some 178, some 179, some 180, some 181, none, none, none, none, none, none, none, none, none, none, none, none, none, none, none, none, none])) 182 (100, 16, [])) 164 (12, 47, [some 165, some 166, some 167, some 168, some 169, some 170, some 171, some 172, none, none, none, none, none, none, none, none, none, none, some 173, none, none, none, some 174, some 175, some 176, some 177, some 178, some 179, some 180, some 181, none, some 182, none, none, none, none, none, none, none, none, none, none, none, none, none, none, none])
def i_kc_mo (I : tb_I) : tb_I := tb_up (tb_row (tb_row (tb_row (tb_row (tb_row (tb_row (tb_row (tb_row (tb_row (tb_up (tb_row (tb_row (tb_row (tb_row (tb_row (tb_row (tb_row (tb_row (tb_row (I) 165 (fun _ => 0)) 166 (fun _ => 0)) 167 (fun _ => 0)) 168 (fun _ => 0)) 169 (fun _ => 0)) 170 (fun _ => 0)) 171 (fun _ => 0)) 172 (fun _ => 0)) 173 (fun _ => 0)) 164 20 (-1)) 174 (fun _ => 0)) 175 (fun _ => 0)) 176 (fun _ => 0)) 177 (fun _ => 0)) 178 (fun _ => 0)) 179 (fun _ => 0)) 180 (fun _ => 0)) 181 (fun _ => 0)) 182 (fun _ => 0)) 165 39 4
set_option maxHeartbeats 4000000 in
set_option maxRecDepth 100000 in
theorem kc_mo {l : Launch} {G : tb_G} (hl : l.stackTraces = false) (sh : Nat → tb_Sh) (I : tb_I) (h164 : sh 164 = (12, 47, [none, none, none, none, none, none, none, none, none, none, none, none, none, none, none, none, none, none, none, none, none, none, none, none, none, none, none, none, none, none, none, none, none, none, none, none, none, none, none, none, none, none, none, none, none, none, none])) : tb_Ok l G M_X12_init 1 18 19408 [.ref 164] 165 sh I (tb_Rd none 183 (s_kc_mo sh) (i_kc_mo I)) tb_Nx := by
  refine tb_Ok.of hl (by decide +kernel) rfl (tb_c1 rfl) (Nat.le_of_ble_eq_true rfl) ?_
  show tb_At l G M_X12_init (tb_rm 1 18 19408) none _ 0 0 165 sh I 0 [some (.ref 164)] []
  refine tb_aload_n (pc := 0) dX12_init_0 rfl rfl ?_
  refine tb_objInit (pc := 1) dX12_init_1 ml_X12_3 wk_obj2 wk_obj3 (Nat.le_of_ble_eq_true rfl) (Nat.le_of_ble_eq_true rfl) ?_
  refine tb_aload_n (pc := 4) dX12_init_4 rfl rfl ?_
  refine tb_sipush (pc := 5) (v := 5400) dX12_init_5 (by decide) ?_
  refine tb_newa (pc := 8) (len := 5400) (m1 := 1) (m2 := 5400) (n' := 166) dX12_init_8 wk_arr_int (Nat.le_of_ble_eq_true rfl) (by decide) (by decide) rfl rfl rfl (Nat.le_of_ble_eq_true rfl) (Nat.le_of_ble_eq_true rfl) ?_
  refine tb_putR (pc := 10) (rs := [none, none, none, none, none, none, none, none, none, none, none, none, none, none, none, none, none, none, none, none, none, none, none, none, none, none, none, none, none, none, none, none, none, none, none, none, none, none, none, none, none, none, none, none, none, none, none]) (rs2 := [some 165, none, none, none, none, none, none, none, none, none, none, none, none, none, none, none, none, none, none, none, none, none, none, none, none, none, none, none, none, none, none, none, none, none, none, none, none, none, none, none, none, none, none, none, none, none, none]) dX12_init_10 rfl ff_X12_9 h164 (by decide) (by decide) (by decide) (by decide) rfl rfl ?_
  refine tb_aload_n (pc := 13) dX12_init_13 rfl rfl ?_
  refine tb_sipush (pc := 14) (v := 1200) dX12_init_14 (by decide) ?_
  refine tb_newa (pc := 17) (len := 1200) (m1 := 2) (m2 := 6600) (n' := 167) dX12_init_17 wk_arr_int (Nat.le_of_ble_eq_true rfl) (by decide) (by decide) rfl rfl rfl (Nat.le_of_ble_eq_true rfl) (Nat.le_of_ble_eq_true rfl) ?_
  refine tb_putR (pc := 19) (rs := [some 165, none, none, none, none, none, none, none, none, none, none, none, none, none, none, none, none, none, none, none, none, none, none, none, none, none, none, none, none, none, none, none, none, none, none, none, none, none, none, none, none, none, none, none, none, none, none]) (rs2 := [some 165, some 166, none, none, none, none, none, none, none, none, none, none, none, none, none, none, none, none, none, none, none, none, none, none, none, none, none, none, none, none, none, none, none, none, none, none, none, none, none, none, none, none, none, none, none, none, none]) dX12_init_19 rfl ff_X12_13 rfl (by decide) (by decide) (by decide) (by decide) rfl rfl ?_
  refine tb_aload_n (pc := 22) dX12_init_22 rfl rfl ?_
  refine tb_sipush (pc := 23) (v := 3600) dX12_init_23 (by decide) ?_
  refine tb_newa (pc := 26) (len := 3600) (m1 := 3) (m2 := 10200) (n' := 168) dX12_init_26 wk_arr_int (Nat.le_of_ble_eq_true rfl) (by decide) (by decide) rfl rfl rfl (Nat.le_of_ble_eq_true rfl) (Nat.le_of_ble_eq_true rfl) ?_
  refine tb_putR (pc := 28) (rs := [some 165, some 166, none, none, none, none, none, none, none, none, none, none, none, none, none, none, none, none, none, none, none, none, none, none, none, none, none, none, none, none, none, none, none, none, none, none, none, none, none, none, none, none, none, none, none, none, none]) (rs2 := [some 165, some 166, some 167, none, none, none, none, none, none, none, none, none, none, none, none, none, none, none, none, none, none, none, none, none, none, none, none, none, none, none, none, none, none, none, none, none, none, none, none, none, none, none, none, none, none, none, none]) dX12_init_28 rfl ff_X12_16 rfl (by decide) (by decide) (by decide) (by decide) rfl rfl ?_
  refine tb_aload_n (pc := 31) dX12_init_31 rfl rfl ?_
  refine tb_sipush (pc := 32) (v := 1200) dX12_init_32 (by decide) ?_
  refine tb_newa (pc := 35) (len := 1200) (m1 := 4) (m2 := 11400) (n' := 169) dX12_init_35 wk_arr_int (Nat.le_of_ble_eq_true rfl) (by decide) (by decide) rfl rfl rfl (Nat.le_of_ble_eq_true rfl) (Nat.le_of_ble_eq_true rfl) ?_
  refine tb_putR (pc := 37) (rs := [some 165, some 166, some 167, none, none, none, none, none, none, none, none, none, none, none, none, none, none, none, none, none, none, none, none, none, none, none, none, none, none, none, none, none, none, none, none, none, none, none, none, none, none, none, none, none, none, none, none]) (rs2 := [some 165, some 166, some 167, some 168, none, none, none, none, none, none, none, none, none, none, none, none, none, none, none, none, none, none, none, none, none, none, none, none, none, none, none, none, none, none, none, none, none, none, none, none, none, none, none, none, none, none, none]) dX12_init_37 rfl ff_X12_19 rfl (by decide) (by decide) (by decide) (by decide) rfl rfl ?_
  refine tb_aload_n (pc := 40) dX12_init_40 rfl rfl ?_
  refine tb_bipush (pc := 41) (v := 20) dX12_init_41 (by decide) ?_
  refine tb_newa (pc := 43) (len := 20) (m1 := 5) (m2 := 11420) (n' := 170) dX12_init_43 wk_arr_int (Nat.le_of_ble_eq_true rfl) (by decide) (by decide) rfl rfl rfl (Nat.le_of_ble_eq_true rfl) (Nat.le_of_ble_eq_true rfl) ?_
  refine tb_putR (pc := 45) (rs := [some 165, some 166, some 167, some 168, none, none, none, none, none, none, none, none, none, none, none, none, none, none, none, none, none, none, none, none, none, none, none, none, none, none, none, none, none, none, none, none, none, none, none, none, none, none, none, none, none, none, none]) (rs2 := [some 165, some 166, some 167, some 168, some 169, none, none, none, none, none, none, none, none, none, none, none, none, none, none, none, none, none, none, none, none, none, none, none, none, none, none, none, none, none, none, none, none, none, none, none, none, none, none, none, none, none, none]) dX12_init_45 rfl ff_X12_22 rfl (by decide) (by decide) (by decide) (by decide) rfl rfl ?_
  refine tb_aload_n (pc := 48) dX12_init_48 rfl rfl ?_
  refine tb_bipush (pc := 49) (v := 20) dX12_init_49 (by decide) ?_
  refine tb_newa (pc := 51) (len := 20) (m1 := 6) (m2 := 11440) (n' := 171) dX12_init_51 wk_arr_int (Nat.le_of_ble_eq_true rfl) (by decide) (by decide) rfl rfl rfl (Nat.le_of_ble_eq_true rfl) (Nat.le_of_ble_eq_true rfl) ?_
  refine tb_putR (pc := 53) (rs := [some 165, some 166, some 167, some 168, some 169, none, none, none, none, none, none, none, none, none, none, none, none, none, none, none, none, none, none, none, none, none, none, none, none, none, none, none, none, none, none, none, none, none, none, none, none, none, none, none, none, none, none]) (rs2 := [some 165, some 166, some 167, some 168, some 169, some 170, none, none, none, none, none, none, none, none, none, none, none, none, none, none, none, none, none, none, none, none, none, none, none, none, none, none, none, none, none, none, none, none, none, none, none, none, none, none, none, none, none]) dX12_init_53 rfl ff_X12_25 rfl (by decide) (by decide) (by decide) (by decide) rfl rfl ?_
  refine tb_aload_n (pc := 56) dX12_init_56 rfl rfl ?_
  refine tb_bipush (pc := 57) (v := 20) dX12_init_57 (by decide) ?_
  refine tb_newa (pc := 59) (len := 20) (m1 := 7) (m2 := 11460) (n' := 172) dX12_init_59 wk_arr_int (Nat.le_of_ble_eq_true rfl) (by decide) (by decide) rfl rfl rfl (Nat.le_of_ble_eq_true rfl) (Nat.le_of_ble_eq_true rfl) ?_
  refine tb_putR (pc := 61) (rs := [some 165, some 166, some 167, some 168, some 169, some 170, none, none, none, none, none, none, none, none, none, none, none, none, none, none, none, none, none, none, none, none, none, none, none, none, none, none, none, none, none, none, none, none, none, none, none, none, none, none, none, none, none]) (rs2 := [some 165, some 166, some 167, some 168, some 169, some 170, some 171, none, none, none, none, none, none, none, none, none, none, none, none, none, none, none, none, none, none, none, none, none, none, none, none, none, none, none, none, none, none, none, none, none, none, none, none, none, none, none, none]) dX12_init_61 rfl ff_X12_28 rfl (by decide) (by decide) (by decide) (by decide) rfl rfl ?_
  refine tb_aload_n (pc := 64) dX12_init_64 rfl rfl ?_
  refine tb_bipush (pc := 65) (v := 8) dX12_init_65 (by decide) ?_
  refine tb_newa (pc := 67) (len := 8) (m1 := 8) (m2 := 11468) (n' := 173) dX12_init_67 wk_arr_int (Nat.le_of_ble_eq_true rfl) (by decide) (by decide) rfl rfl rfl (Nat.le_of_ble_eq_true rfl) (Nat.le_of_ble_eq_true rfl) ?_
  refine tb_putR (pc := 69) (rs := [some 165, some 166, some 167, some 168, some 169, some 170, some 171, none, none, none, none, none, none, none, none, none, none, none, none, none, none, none, none, none, none, none, none, none, none, none, none, none, none, none, none, none, none, none, none, none, none, none, none, none, none, none, none]) (rs2 := [some 165, some 166, some 167, some 168, some 169, some 170, some 171, some 172, none, none, none, none, none, none, none, none, none, none, none, none, none, none, none, none, none, none, none, none, none, none, none, none, none, none, none, none, none, none, none, none, none, none, none, none, none, none, none]) dX12_init_69 rfl ff_X12_31 rfl (by decide) (by decide) (by decide) (by decide) rfl rfl ?_
  refine tb_aload_n (pc := 72) dX12_init_72 rfl rfl ?_
  refine tb_sipush (pc := 73) (v := 700) dX12_init_73 (by decide) ?_
  refine tb_newa (pc := 76) (len := 700) (m1 := 9) (m2 := 12168) (n' := 174) dX12_init_76 wk_arr_int (Nat.le_of_ble_eq_true rfl) (by decide) (by decide) rfl rfl rfl (Nat.le_of_ble_eq_true rfl) (Nat.le_of_ble_eq_true rfl) ?_
  refine tb_putR (pc := 78) (rs := [some 165, some 166, some 167, some 168, some 169, some 170, some 171, some 172, none, none, none, none, none, none, none, none, none, none, none, none, none, none, none, none, none, none, none, none, none, none, none, none, none, none, none, none, none, none, none, none, none, none, none, none, none, none, none]) (rs2 := [some 165, some 166, some 167, some 168, some 169, some 170, some 171, some 172, none, none, none, none, none, none, none, none, none, none, some 173, none, none, none, none, none, none, none, none, none, none, none, none, none, none, none, none, none, none, none, none, none, none, none, none, none, none, none, none]) dX12_init_78 rfl ff_X12_34 rfl (by decide) (by decide) (by decide) (by decide) rfl rfl ?_
  refine tb_aload_n (pc := 81) dX12_init_81 rfl rfl ?_
  refine tb_iconst (pc := 82) (v := (-1)) dX12_init_82 (by decide) ?_
  refine tb_putI (pc := 83) dX12_init_83 fl_X12_37 rfl (by decide) (by decide) rfl ?_
  refine tb_aload_n (pc := 86) dX12_init_86 rfl rfl ?_
  refine tb_bipush (pc := 87) (v := 8) dX12_init_87 (by decide) ?_
  refine tb_newa (pc := 89) (len := 8) (m1 := 10) (m2 := 12176) (n' := 175) dX12_init_89 wk_arr_int (Nat.le_of_ble_eq_true rfl) (by decide) (by decide) rfl rfl rfl (Nat.le_of_ble_eq_true rfl) (Nat.le_of_ble_eq_true rfl) ?_
  refine tb_putR (pc := 91) (rs := [some 165, some 166, some 167, some 168, some 169, some 170, some 171, some 172, none, none, none, none, none, none, none, none, none, none, some 173, none, none, none, none, none, none, none, none, none, none, none, none, none, none, none, none, none, none, none, none, none, none, none, none, none, none, none, none]) (rs2 := [some 165, some 166, some 167, some 168, some 169, some 170, some 171, some 172, none, none, none, none, none, none, none, none, none, none, some 173, none, none, none, some 174, none, none, none, none, none, none, none, none, none, none, none, none, none, none, none, none, none, none, none, none, none, none, none, none]) dX12_init_91 rfl ff_X12_41 rfl (by decide) (by decide) (by decide) (by decide) rfl rfl ?_
  refine tb_aload_n (pc := 94) dX12_init_94 rfl rfl ?_
  refine tb_bipush (pc := 95) (v := 8) dX12_init_95 (by decide) ?_
  refine tb_newa (pc := 97) (len := 8) (m1 := 11) (m2 := 12184) (n' := 176) dX12_init_97 wk_arr_int (Nat.le_of_ble_eq_true rfl) (by decide) (by decide) rfl rfl rfl (Nat.le_of_ble_eq_true rfl) (Nat.le_of_ble_eq_true rfl) ?_
  refine tb_putR (pc := 99) (rs := [some 165, some 166, some 167, some 168, some 169, some 170, some 171, some 172, none, none, none, none, none, none, none, none, none, none, some 173, none, none, none, some 174, none, none, none, none, none, none, none, none, none, none, none, none, none, none, none, none, none, none, none, none, none, none, none, none]) (rs2 := [some 165, some 166, some 167, some 168, some 169, some 170, some 171, some 172, none, none, none, none, none, none, none, none, none, none, some 173, none, none, none, some 174, some 175, none, none, none, none, none, none, none, none, none, none, none, none, none, none, none, none, none, none, none, none, none, none, none]) dX12_init_99 rfl ff_X12_44 rfl (by decide) (by decide) (by decide) (by decide) rfl rfl ?_
  refine tb_aload_n (pc := 102) dX12_init_102 rfl rfl ?_
  refine tb_bipush (pc := 103) (v := 8) dX12_init_103 (by decide) ?_
  refine tb_newa (pc := 105) (len := 8) (m1 := 12) (m2 := 12192) (n' := 177) dX12_init_105 wk_arr_int (Nat.le_of_ble_eq_true rfl) (by decide) (by decide) rfl rfl rfl (Nat.le_of_ble_eq_true rfl) (Nat.le_of_ble_eq_true rfl) ?_
  refine tb_putR (pc := 107) (rs := [some 165, some 166, some 167, some 168, some 169, some 170, some 171, some 172, none, none, none, none, none, none, none, none, none, none, some 173, none, none, none, some 174, some 175, none, none, none, none, none, none, none, none, none, none, none, none, none, none, none, none, none, none, none, none, none, none, none]) (rs2 := [some 165, some 166, some 167, some 168, some 169, some 170, some 171, some 172, none, none, none, none, none, none, none, none, none, none, some 173, none, none, none, some 174, some 175, some 176, none, none, none, none, none, none, none, none, none, none, none, none, none, none, none, none, none, none, none, none, none, none]) dX12_init_107 rfl ff_X12_47 rfl (by decide) (by decide) (by decide) (by decide) rfl rfl ?_
  refine tb_aload_n (pc := 110) dX12_init_110 rfl rfl ?_
  refine tb_sipush (pc := 111) (v := 800) dX12_init_111 (by decide) ?_
  refine tb_newa (pc := 114) (len := 800) (m1 := 13) (m2 := 12992) (n' := 178) dX12_init_114 wk_arr_int (Nat.le_of_ble_eq_true rfl) (by decide) (by decide) rfl rfl rfl (Nat.le_of_ble_eq_true rfl) (Nat.le_of_ble_eq_true rfl) ?_
  refine tb_putR (pc := 116) (rs := [some 165, some 166, some 167, some 168, some 169, some 170, some 171, some 172, none, none, none, none, none, none, none, none, none, none, some 173, none, none, none, some 174, some 175, some 176, none, none, none, none, none, none, none, none, none, none, none, none, none, none, none, none, none, none, none, none, none, none]) (rs2 := [some 165, some 166, some 167, some 168, some 169, some 170, some 171, some 172, none, none, none, none, none, none, none, none, none, none, some 173, none, none, none, some 174, some 175, some 176, some 177, none, none, none, none, none, none, none, none, none, none, none, none, none, none, none, none, none, none, none, none, none]) dX12_init_116 rfl ff_X12_50 rfl (by decide) (by decide) (by decide) (by decide) rfl rfl ?_
  refine tb_aload_n (pc := 119) dX12_init_119 rfl rfl ?_
  refine tb_sipush (pc := 120) (v := 800) dX12_init_120 (by decide) ?_
  refine tb_newa (pc := 123) (len := 800) (m1 := 14) (m2 := 13792) (n' := 179) dX12_init_123 wk_arr_int (Nat.le_of_ble_eq_true rfl) (by decide) (by decide) rfl rfl rfl (Nat.le_of_ble_eq_true rfl) (Nat.le_of_ble_eq_true rfl) ?_
  refine tb_putR (pc := 125) (rs := [some 165, some 166, some 167, some 168, some 169, some 170, some 171, some 172, none, none, none, none, none, none, none, none, none, none, some 173, none, none, none, some 174, some 175, some 176, some 177, none, none, none, none, none, none, none, none, none, none, none, none, none, none, none, none, none, none, none, none, none]) (rs2 := [some 165, some 166, some 167, some 168, some 169, some 170, some 171, some 172, none, none, none, none, none, none, none, none, none, none, some 173, none, none, none, some 174, some 175, some 176, some 177, some 178, none, none, none, none, none, none, none, none, none, none, none, none, none, none, none, none, none, none, none, none]) dX12_init_125 rfl ff_X12_53 rfl (by decide) (by decide) (by decide) (by decide) rfl rfl ?_
  refine tb_aload_n (pc := 128) dX12_init_128 rfl rfl ?_
  refine tb_sipush (pc := 129) (v := 800) dX12_init_129 (by decide) ?_
  refine tb_newa (pc := 132) (len := 800) (m1 := 15) (m2 := 14592) (n' := 180) dX12_init_132 wk_arr_int (Nat.le_of_ble_eq_true rfl) (by decide) (by decide) rfl rfl rfl (Nat.le_of_ble_eq_true rfl) (Nat.le_of_ble_eq_true rfl) ?_
  refine tb_putR (pc := 134) (rs := [some 165, some 166, some 167, some 168, some 169, some 170, some 171, some 172, none, none, none, none, none, none, none, none, none, none, some 173, none, none, none, some 174, some 175, some 176, some 177, some 178, none, none, none, none, none, none, none, none, none, none, none, none, none, none, none, none, none, none, none, none]) (rs2 := [some 165, some 166, some 167, some 168, some 169, some 170, some 171, some 172, none, none, none, none, none, none, none, none, none, none, some 173, none, none, none, some 174, some 175, some 176, some 177, some 178, some 179, none, none, none, none, none, none, none, none, none, none, none, none, none, none, none, none, none, none, none]) dX12_init_134 rfl ff_X12_56 rfl (by decide) (by decide) (by decide) (by decide) rfl rfl ?_
  refine tb_aload_n (pc := 137) dX12_init_137 rfl rfl ?_
  refine tb_sipush (pc := 138) (v := 800) dX12_init_138 (by decide) ?_
  refine tb_newa (pc := 141) (len := 800) (m1 := 16) (m2 := 15392) (n' := 181) dX12_init_141 wk_arr_int (Nat.le_of_ble_eq_true rfl) (by decide) (by decide) rfl rfl rfl (Nat.le_of_ble_eq_true rfl) (Nat.le_of_ble_eq_true rfl) ?_
  refine tb_putR (pc := 143) (rs := [some 165, some 166, some 167, some 168, some 169, some 170, some 171, some 172, none, none, none, none, none, none, none, none, none, none, some 173, none, none, none, some 174, some 175, some 176, some 177, some 178, some 179, none, none, none, none, none, none, none, none, none, none, none, none, none, none, none, none, none, none, none]) (rs2 := [some 165, some 166, some 167, some 168, some 169, some 170, some 171, some 172, none, none, none, none, none, none, none, none, none, none, some 173, none, none, none, some 174, some 175, some 176, some 177, some 178, some 179, some 180, none, none, none, none, none, none, none, none, none, none, none, none, none, none, none, none, none, none]) dX12_init_143 rfl ff_X12_59 rfl (by decide) (by decide) (by decide) (by decide) rfl rfl ?_
  refine tb_aload_n (pc := 146) dX12_init_146 rfl rfl ?_
  refine tb_sipush (pc := 147) (v := 4000) dX12_init_147 (by decide) ?_
  refine tb_newa (pc := 150) (len := 4000) (m1 := 17) (m2 := 19392) (n' := 182) dX12_init_150 wk_arr_int (Nat.le_of_ble_eq_true rfl) (by decide) (by decide) rfl rfl rfl (Nat.le_of_ble_eq_true rfl) (Nat.le_of_ble_eq_true rfl) ?_
  refine tb_putR (pc := 152) (rs := [some 165, some 166, some 167, some 168, some 169, some 170, some 171, some 172, none, none, none, none, none, none, none, none, none, none, some 173, none, none, none, some 174, some 175, some 176, some 177, some 178, some 179, some 180, none, none, none, none, none, none, none, none, none, none, none, none, none, none, none, none, none, none]) (rs2 := [some 165, some 166, some 167, some 168, some 169, some 170, some 171, some 172, none, none, none, none, none, none, none, none, none, none, some 173, none, none, none, some 174, some 175, some 176, some 177, some 178, some 179, some 180, some 181, none, none, none, none, none, none, none, none, none, none, none, none, none, none, none, none, none]) dX12_init_152 rfl ff_X12_62 rfl (by decide) (by decide) (by decide) (by decide) rfl rfl ?_
  refine tb_aload_n (pc := 155) dX12_init_155 rfl rfl ?_
  refine tb_bipush (pc := 156) (v := 16) dX12_init_156 (by decide) ?_
  refine tb_newa (pc := 158) (len := 16) (m1 := 18) (m2 := 19408) (n' := 183) dX12_init_158 wk_arr_int (Nat.le_of_ble_eq_true rfl) (by decide) (by decide) rfl rfl rfl (Nat.le_of_ble_eq_true rfl) (Nat.le_of_ble_eq_true rfl) ?_
  refine tb_putR (pc := 160) (rs := [some 165, some 166, some 167, some 168, some 169, some 170, some 171, some 172, none, none, none, none, none, none, none, none, none, none, some 173, none, none, none, some 174, some 175, some 176, some 177, some 178, some 179, some 180, some 181, none, none, none, none, none, none, none, none, none, none, none, none, none, none, none, none, none]) (rs2 := [some 165, some 166, some 167, some 168, some 169, some 170, some 171, some 172, none, none, none, none, none, none, none, none, none, none, some 173, none, none, none, some 174, some 175, some 176, some 177, some 178, some 179, some 180, some 181, none, some 182, none, none, none, none, none, none, none, none, none, none, none, none, none, none, none]) dX12_init_160 rfl ff_X12_65 rfl (by decide) (by decide) (by decide) (by decide) rfl rfl ?_
  refine tb_aload_n (pc := 163) dX12_init_163 rfl rfl ?_
  refine tb_getR (pc := 164) (rs := [some 165, some 166, some 167, some 168, some 169, some 170, some 171, some 172, none, none, none, none, none, none, none, none, none, none, some 173, none, none, none, some 174, some 175, some 176, some 177, some 178, some 179, some 180, some 181, none, some 182, none, none, none, none, none, none, none, none, none, none, none, none, none, none, none]) dX12_init_164 fl_X12_9 rfl (by decide) (by decide) rfl rfl ?_
  refine tb_bipush (pc := 167) (v := 39) dX12_init_167 (by decide) ?_
  refine tb_iconst (pc := 169) (v := 4) dX12_init_169 (by decide) ?_
  refine tb_iast (pc := 170) (j := 39) (len := 5400) (rs := []) dX12_init_170 rfl (by decide) (by decide) (by decide) (by decide) ?_
  exact tb_vret (pc := 171) dX12_init_171 rfl (Nat.le_of_ble_eq_true rfl) (Nat.le_of_ble_eq_true rfl) ⟨rfl, rfl, rfl, rfl⟩
