/-! ===== a fresh object ===== -/
def tb_Iz : tb_I := fun _ _ => 0
def tb_I0 : tb_I := tb_row (i_kc_mo (tb_row (i_kc_tb (tb_row tb_Iz 0 (fun _ => 0))) 164 (fun _ => 0))) 183 (fun _ => 0)
def tb_Fr (I : tb_I) : Prop := ∀ c, c < 164 → I c = tb_I0 c
def tb_Fm (I : tb_I) : Prop := ∀ c, 164 ≤ c → c < 183 → I c = tb_I0 c
theorem tb_Fr.at {I : tb_I} (F : tb_Fr I) {c k : Nat} {v : Int32} (hc : c < 164) (z : tb_I0 c k = v) : I c k = v := (congrFun (F c hc) k).trans z
theorem tb_Fm.at {I : tb_I} (F : tb_Fm I) {c k : Nat} {v : Int32} (hc : 164 ≤ c ∧ c < 183) (z : tb_I0 c k = v) : I c k = v := (congrFun (F c hc.1 hc.2) k).trans z
def tb_Of (f : Nat → Bool) (I' I : tb_I) : Prop := ∀ c, f c = true → I' c = I c
theorem tb_Of.rf {f : Nat → Bool} {I : tb_I} : tb_Of f I I := fun _ _ => rfl
theorem tb_Of.row {f : Nat → Bool} {I' I : tb_I} {c : Nat} {g : Nat → Int32} (hc : f c = false) (h : tb_Of f I' I) : tb_Of f (tb_row I' c g) I := fun d hd => by
  have : ¬ d = c := fun e => by rw [e, hc] at hd; cases hd
  simp only [tb_row, this, if_false]
  exact h d hd
theorem tb_Of.up {f : Nat → Bool} {I' I : tb_I} {c k : Nat} {x : Int32} (hc : f c = false) (h : tb_Of f I' I) : tb_Of f (tb_up I' c k x) I := tb_Of.row hc h
theorem tb_Of.fl {f : Nat → Bool} {I' I : tb_I} {c k : Nat} {x : Int32} (hc : f c = false) (h : tb_Of f I' I) : tb_Of f (tb_fl I' c k x) I := tb_Of.row hc h
theorem tb_Of.an {f : Nat → Bool} {I' I : tb_I} {c : Nat} (hc : f c = false) (h : tb_Of f I' I) : tb_Of f (tb_anew I' c) I :=
  .up hc (.up hc (.up hc (.up hc (.up hc (.up hc (.up hc (.up hc (.up hc (.fl hc h)))))))))
theorem tb_Of.tr {f : Nat → Bool} {I3 I2 I1 : tb_I} (h : tb_Of f I3 I2) (h2 : tb_Of f I2 I1) : tb_Of f I3 I1 := fun c hc => (h c hc).trans (h2 c hc)
theorem tb_Of.mono {f g : Nat → Bool} {I2 I1 : tb_I} (h : tb_Of f I2 I1) (hg : ∀ c, g c = true → f c = true) : tb_Of g I2 I1 := fun c hc => h c (hg c hc)
/-- the model's cells, and the law's own -/
def tb_gm (c : Nat) : Bool := decide (164 ≤ c)
/-- all but the terms' cells -/
def tb_g6 (c : Nat) : Bool := decide (c < 6) || decide (17 < c)
theorem tb_g6_gm : ∀ c, tb_gm c = true → tb_g6 c = true := fun c h => by
  simp only [tb_gm, decide_eq_true_eq] at h
  simp only [tb_g6, Bool.or_eq_true, decide_eq_true_eq]
  omega
def tb_Pg (f : Nat → Bool) (v : Option Value) (n : Nat) (I : tb_I) : tb_Q := fun r n' sh' I' => r = v ∧ n' = n ∧ sh' = tb_shT ∧ tb_Of f I' I
def tb_Xe (f : Nat → Bool) (E : String) (n : Nat) (I : tb_I) : tb_X := fun E' n' sh' I' => E' = E ∧ n' = n ∧ sh' = tb_shT ∧ tb_Of f I' I
theorem z_0_13 : tb_I0 0 13 = 0 := by decide +kernel
theorem z_0_14 : tb_I0 0 14 = (-1) := by decide +kernel
theorem z_0_15 : tb_I0 0 15 = 0 := by decide +kernel
theorem z_1_3 : tb_I0 1 3 = 0 := by decide +kernel
theorem z_5_6 : tb_I0 5 6 = 0 := by decide +kernel
theorem z_6_12 : tb_I0 6 12 = 0 := by decide +kernel
theorem z_19_4 : tb_I0 19 4 = 0 := by decide +kernel
theorem z_19_5 : tb_I0 19 5 = 0 := by decide +kernel
theorem z_19_6 : tb_I0 19 6 = 0 := by decide +kernel
set_option maxHeartbeats 4000000 in
set_option maxRecDepth 100000 in
theorem k_sy_has0 {l : Launch} {G : tb_G} (hl : l.stackTraces = false) (n : Nat) (I : tb_I) (x : Int32) (h0 : I 1 3 = 0) : tb_Ok l G M_X8_has 0 0 0 [.ref 1, .int x] n tb_shT I (tb_Rd (some (.int 0)) n tb_shT I) tb_Nx := by
  refine tb_Ok.of hl (by decide +kernel) rfl (tb_c1 rfl) (Nat.le_of_ble_eq_true rfl) ?_
  show tb_At l G M_X8_has (tb_rm 0 0 0) none _ 0 0 n tb_shT I 0 [some (.ref 1), some (.int x)] []
  refine tb_iload_n (pc := 0) dX8_has_0 rfl rfl ?_
  refine tb_if_lt (pc := 1) (tgt := 16) dX8_has_1 (by decide) (fun h_1 => ?_) (fun h_1 => ?_)
  · refine tb_iconst (pc := 16) (v := 0) dX8_has_16 (by decide) ?_
    exact tb_iret (pc := 17) dX8_has_17 rfl rfl (Nat.le_of_ble_eq_true rfl) (Nat.le_of_ble_eq_true rfl) ⟨rfl, rfl, rfl, rfl⟩
  · refine tb_iload_n (pc := 4) dX8_has_4 rfl rfl ?_
    refine tb_aload_n (pc := 5) dX8_has_5 rfl rfl ?_
    refine tb_fIv (pc := 6) (v := 0) dX8_has_6 fl_X8_21 i_1_3 h0 ?_
    refine tb_icmp_geT (pc := 9) (tgt := 16) (Int32.not_lt.mp h_1) dX8_has_9 (by decide) ?_
    refine tb_iconst (pc := 16) (v := 0) dX8_has_16 (by decide) ?_
    exact tb_iret (pc := 17) dX8_has_17 rfl rfl (Nat.le_of_ble_eq_true rfl) (Nat.le_of_ble_eq_true rfl) ⟨rfl, rfl, rfl, rfl⟩

set_option maxHeartbeats 4000000 in
set_option maxRecDepth 100000 in
theorem k_te_has0 {l : Launch} {G : tb_G} (hl : l.stackTraces = false) (n : Nat) (I : tb_I) (x : Int32) (h0 : I 6 12 = 0) : tb_Ok l G M_X9_has 0 0 0 [.ref 6, .int x] n tb_shT I (tb_Rd (some (.int 0)) n tb_shT I) tb_Nx := by
  refine tb_Ok.of hl (by decide +kernel) rfl (tb_c1 rfl) (Nat.le_of_ble_eq_true rfl) ?_
  show tb_At l G M_X9_has (tb_rm 0 0 0) none _ 0 0 n tb_shT I 0 [some (.ref 6), some (.int x)] []
  refine tb_iload_n (pc := 0) dX9_has_0 rfl rfl ?_
  refine tb_if_lt (pc := 1) (tgt := 16) dX9_has_1 (by decide) (fun h_1 => ?_) (fun h_1 => ?_)
  · refine tb_iconst (pc := 16) (v := 0) dX9_has_16 (by decide) ?_
    exact tb_iret (pc := 17) dX9_has_17 rfl rfl (Nat.le_of_ble_eq_true rfl) (Nat.le_of_ble_eq_true rfl) ⟨rfl, rfl, rfl, rfl⟩
  · refine tb_iload_n (pc := 4) dX9_has_4 rfl rfl ?_
    refine tb_aload_n (pc := 5) dX9_has_5 rfl rfl ?_
    refine tb_fIv (pc := 6) (v := 0) dX9_has_6 fl_X9_45 i_6_12 h0 ?_
    refine tb_icmp_geT (pc := 9) (tgt := 16) (Int32.not_lt.mp h_1) dX9_has_9 (by decide) ?_
    refine tb_iconst (pc := 16) (v := 0) dX9_has_16 (by decide) ?_
    exact tb_iret (pc := 17) dX9_has_17 rfl rfl (Nat.le_of_ble_eq_true rfl) (Nat.le_of_ble_eq_true rfl) ⟨rfl, rfl, rfl, rfl⟩

set_option maxHeartbeats 4000000 in
set_option maxRecDepth 100000 in
theorem k_isVar {l : Launch} {G : tb_G} (hl : l.stackTraces = false) (n : Nat) (I : tb_I) (x : Int32)  : tb_Ok l G M_X11_isVariableNumber 0 0 0 [.int x] n tb_shT I (tb_Rd (some (.int (if x < 0 then 0 else if 8 ≤ x then 0 else 1))) n tb_shT I) tb_Nx := by
  refine tb_Ok.of hl (by decide +kernel) rfl (tb_c1 rfl) (Nat.le_of_ble_eq_true rfl) ?_
  show tb_At l G M_X11_isVariableNumber (tb_rm 0 0 0) none _ 0 0 n tb_shT I 0 [some (.int x)] []
  refine tb_iload_n (pc := 0) dX11_isVariableNumber_0 rfl rfl ?_
  refine tb_if_lt (pc := 1) (tgt := 14) dX11_isVariableNumber_1 (by decide) (fun h_1 => ?_) (fun h_1 => ?_)
  · refine tb_iconst (pc := 14) (v := 0) dX11_isVariableNumber_14 (by decide) ?_
    exact tb_iret (pc := 15) dX11_isVariableNumber_15 rfl rfl (Nat.le_of_ble_eq_true rfl) (Nat.le_of_ble_eq_true rfl) ⟨by simp [h_1], rfl, rfl, rfl⟩
  · refine tb_iload_n (pc := 4) dX11_isVariableNumber_4 rfl rfl ?_
    refine tb_bipush (pc := 5) (v := 8) dX11_isVariableNumber_5 (by decide) ?_
    refine tb_icmp_ge (pc := 7) (tgt := 14) dX11_isVariableNumber_7 (by decide) (fun h_7 => ?_) (fun h_7 => ?_)
    · refine tb_iconst (pc := 14) (v := 0) dX11_isVariableNumber_14 (by decide) ?_
      exact tb_iret (pc := 15) dX11_isVariableNumber_15 rfl rfl (Nat.le_of_ble_eq_true rfl) (Nat.le_of_ble_eq_true rfl) ⟨by simp [h_1, h_7], rfl, rfl, rfl⟩
    · refine tb_iconst (pc := 10) (v := 1) dX11_isVariableNumber_10 (by decide) ?_
      refine tb_goto (pc := 11) (tgt := 15) dX11_isVariableNumber_11 (by decide) ?_
      exact tb_iret (pc := 15) dX11_isVariableNumber_15 rfl rfl (Nat.le_of_ble_eq_true rfl) (Nat.le_of_ble_eq_true rfl) ⟨by simp [h_1, h_7], rfl, rfl, rfl⟩

set_option maxHeartbeats 4000000 in
set_option maxRecDepth 100000 in
theorem k_refused1 {l : Launch} {G : tb_G} (hl : l.stackTraces = false) (n : Nat) (I : tb_I) (a : Int32)  : tb_Ok l G M_X11_refused 0 0 0 [.ref 0, .int 1, .int a] n tb_shT I (tb_Rd (some (.int a)) n tb_shT (tb_up I 62 1 (I 62 1 + 1))) tb_Nx := by
  refine tb_Ok.of hl (by decide +kernel) rfl (tb_c1 rfl) (Nat.le_of_ble_eq_true rfl) ?_
  show tb_At l G M_X11_refused (tb_rm 0 0 0) none _ 0 0 n tb_shT I 0 [some (.ref 0), some (.int 1), some (.int a)] []
  refine tb_aload_n (pc := 0) dX11_refused_0 rfl rfl ?_
  refine tb_fR (pc := 1) dX11_refused_1 fl_X11_29 r_0_1 ?_
  refine tb_fR (pc := 4) dX11_refused_4 fl_X11_142 r_5_4 ?_
  refine tb_iload_n (pc := 7) dX11_refused_7 rfl rfl ?_
  refine tb_dup2 (pc := 8) dX11_refused_8 rfl rfl ?_
  refine tb_aL (pc := 9) (j := 1) dX11_refused_9 a_62 (by decide) (by decide) ?_
  refine tb_iconst (pc := 10) (v := 1) dX11_refused_10 (by decide) ?_
  refine tb_iadd (pc := 11) dX11_refused_11 ?_
  refine tb_aS (pc := 12) (j := 1) dX11_refused_12 a_62 (by decide) (by decide) ?_
  refine tb_iload_n (pc := 13) dX11_refused_13 rfl rfl ?_
  exact tb_iret (pc := 14) dX11_refused_14 rfl rfl (Nat.le_of_ble_eq_true rfl) (Nat.le_of_ble_eq_true rfl) ⟨rfl, rfl, rfl, rfl⟩

set_option maxHeartbeats 4000000 in
set_option maxRecDepth 100000 in
theorem k_refused2 {l : Launch} {G : tb_G} (hl : l.stackTraces = false) (n : Nat) (I : tb_I) (a : Int32)  : tb_Ok l G M_X11_refused 0 0 0 [.ref 0, .int 2, .int a] n tb_shT I (tb_Rd (some (.int a)) n tb_shT (tb_up I 62 2 (I 62 2 + 1))) tb_Nx := by
  refine tb_Ok.of hl (by decide +kernel) rfl (tb_c1 rfl) (Nat.le_of_ble_eq_true rfl) ?_
  show tb_At l G M_X11_refused (tb_rm 0 0 0) none _ 0 0 n tb_shT I 0 [some (.ref 0), some (.int 2), some (.int a)] []
  refine tb_aload_n (pc := 0) dX11_refused_0 rfl rfl ?_
  refine tb_fR (pc := 1) dX11_refused_1 fl_X11_29 r_0_1 ?_
  refine tb_fR (pc := 4) dX11_refused_4 fl_X11_142 r_5_4 ?_
  refine tb_iload_n (pc := 7) dX11_refused_7 rfl rfl ?_
  refine tb_dup2 (pc := 8) dX11_refused_8 rfl rfl ?_
  refine tb_aL (pc := 9) (j := 2) dX11_refused_9 a_62 (by decide) (by decide) ?_
  refine tb_iconst (pc := 10) (v := 1) dX11_refused_10 (by decide) ?_
  refine tb_iadd (pc := 11) dX11_refused_11 ?_
  refine tb_aS (pc := 12) (j := 2) dX11_refused_12 a_62 (by decide) (by decide) ?_
  refine tb_iload_n (pc := 13) dX11_refused_13 rfl rfl ?_
  exact tb_iret (pc := 14) dX11_refused_14 rfl rfl (Nat.le_of_ble_eq_true rfl) (Nat.le_of_ble_eq_true rfl) ⟨rfl, rfl, rfl, rfl⟩

set_option maxHeartbeats 4000000 in
set_option maxRecDepth 100000 in
theorem k_refused3 {l : Launch} {G : tb_G} (hl : l.stackTraces = false) (n : Nat) (I : tb_I) (a : Int32)  : tb_Ok l G M_X11_refused 0 0 0 [.ref 0, .int 3, .int a] n tb_shT I (tb_Rd (some (.int a)) n tb_shT (tb_up I 62 3 (I 62 3 + 1))) tb_Nx := by
  refine tb_Ok.of hl (by decide +kernel) rfl (tb_c1 rfl) (Nat.le_of_ble_eq_true rfl) ?_
  show tb_At l G M_X11_refused (tb_rm 0 0 0) none _ 0 0 n tb_shT I 0 [some (.ref 0), some (.int 3), some (.int a)] []
  refine tb_aload_n (pc := 0) dX11_refused_0 rfl rfl ?_
  refine tb_fR (pc := 1) dX11_refused_1 fl_X11_29 r_0_1 ?_
  refine tb_fR (pc := 4) dX11_refused_4 fl_X11_142 r_5_4 ?_
  refine tb_iload_n (pc := 7) dX11_refused_7 rfl rfl ?_
  refine tb_dup2 (pc := 8) dX11_refused_8 rfl rfl ?_
  refine tb_aL (pc := 9) (j := 3) dX11_refused_9 a_62 (by decide) (by decide) ?_
  refine tb_iconst (pc := 10) (v := 1) dX11_refused_10 (by decide) ?_
  refine tb_iadd (pc := 11) dX11_refused_11 ?_
  refine tb_aS (pc := 12) (j := 3) dX11_refused_12 a_62 (by decide) (by decide) ?_
  refine tb_iload_n (pc := 13) dX11_refused_13 rfl rfl ?_
  exact tb_iret (pc := 14) dX11_refused_14 rfl rfl (Nat.le_of_ble_eq_true rfl) (Nat.le_of_ble_eq_true rfl) ⟨rfl, rfl, rfl, rfl⟩

set_option maxHeartbeats 4000000 in
set_option maxRecDepth 100000 in
theorem k_needTerm0 {l : Launch} {G : tb_G} (hl : l.stackTraces = false) (n : Nat) (I : tb_I) (x : Int32) (h0 : I 6 12 = 0) : tb_Ok l G M_X11_needTerm 6 1 6 [.ref 0, .int x] n tb_shT I (fun _ _ _ _ => False) (tb_Xe (fun _ => true) "java/util/NoSuchElementException" n I) := by
  refine tb_Ok.of hl (by decide +kernel) rfl (tb_c1 rfl) (Nat.le_of_ble_eq_true rfl) ?_
  show tb_At l G M_X11_needTerm (tb_rm 6 1 6) none _ 0 0 n tb_shT I 0 [some (.ref 0), some (.int x)] []
  refine tb_aload_n (pc := 0) dX11_needTerm_0 rfl rfl ?_
  refine tb_fR (pc := 1) dX11_needTerm_1 fl_X11_29 r_0_1 ?_
  refine tb_fR (pc := 4) dX11_needTerm_4 fl_X11_49 r_5_0 ?_
  refine tb_iload_n (pc := 7) dX11_needTerm_7 rfl rfl ?_
  refine tb_cV (pc := 8) (k_te_has0 hl _ I x h0) vl_X11_304 dX11_needTerm_8 o_6 rfl rfl (Nat.le_of_ble_eq_true rfl) ⟨(Nat.le_of_ble_eq_true rfl), (Nat.le_of_ble_eq_true rfl)⟩ rfl rfl (Nat.le_of_ble_eq_true rfl) (Nat.le_of_ble_eq_true rfl) (fun r9 n9 sh9 I9 hq9 => ?_)
  obtain ⟨rfl, rfl, rfl, rfl⟩ := hq9
  refine tb_if_neF (pc := 11) (tgt := 25) (by decide) dX11_needTerm_11 (by decide) ?_
  exact tb_throwNW (pc := 14) (text := "no such term") th_X11_188_192 (by decide +kernel) rfl dX11_needTerm_14 dX11_needTerm_17 dX11_needTerm_18 dX11_needTerm_21 dX11_needTerm_24 (Nat.le_of_ble_eq_true rfl) (Nat.le_of_ble_eq_true rfl) (Nat.le_of_ble_eq_true rfl) (Nat.le_of_ble_eq_true rfl) (Nat.le_of_ble_eq_true rfl) (Nat.le_of_ble_eq_true rfl) ⟨rfl, rfl, rfl, tb_Of.rf⟩

set_option maxHeartbeats 4000000 in
set_option maxRecDepth 100000 in
theorem k_tape0 {l : Launch} {G : tb_G} (hl : l.stackTraces = false) (n : Nat) (I : tb_I) (x : Int32) (h0 : I 0 13 = 0) : tb_Ok l G M_X11_tapeNumber 0 0 0 [.ref 0, .int x] n tb_shT I (fun r n' sh' I' => r = none ∧ n' = n ∧ sh' = tb_shT ∧ I' 0 13 = 4 ∧ tb_Of tb_gm I' I) tb_Nx := by
  refine tb_Ok.of hl (by decide +kernel) rfl (tb_c1 rfl) (Nat.le_of_ble_eq_true rfl) ?_
  show tb_At l G M_X11_tapeNumber (tb_rm 0 0 0) none _ 0 0 n tb_shT I 0 [some (.ref 0), some (.int x), none] []
  refine tb_bipush (pc := 0) (v := 24) dX11_tapeNumber_0 (by decide) ?_
  refine tb_istore_n (pc := 2) (L2 := [_, _, _]) dX11_tapeNumber_2 rfl (by decide) rfl ?_
  refine tb_iload_n (pc := 3) dX11_tapeNumber_3 rfl rfl ?_
  refine tb_if_ltF (pc := 4) (tgt := 49) (by decide) dX11_tapeNumber_4 (by decide) ?_
  refine tb_aload_n (pc := 7) dX11_tapeNumber_7 rfl rfl ?_
  refine tb_fIv (pc := 8) (v := 0) dX11_tapeNumber_8 fl_X11_107 i_0_13 h0 ?_
  refine tb_sipush (pc := 11) (v := 700) dX11_tapeNumber_11 (by decide) ?_
  refine tb_icmp_geF (pc := 14) (tgt := 49) (by decide) dX11_tapeNumber_14 (by decide) ?_
  refine tb_aload_n (pc := 17) dX11_tapeNumber_17 rfl rfl ?_
  refine tb_fR (pc := 18) dX11_tapeNumber_18 fl_X11_94 r_0_12 ?_
  refine tb_aload_n (pc := 21) dX11_tapeNumber_21 rfl rfl ?_
  refine tb_fIv (pc := 22) (v := 0) dX11_tapeNumber_22 fl_X11_107 i_0_13 h0 ?_
  refine tb_iload_n (pc := 25) dX11_tapeNumber_25 rfl rfl ?_
  refine tb_iload_n (pc := 26) dX11_tapeNumber_26 rfl rfl ?_
  refine tb_iushr (pc := 27) dX11_tapeNumber_27 rfl ?_
  refine tb_sipush (pc := 28) (v := 255) dX11_tapeNumber_28 (by decide) ?_
  refine tb_iand (pc := 31) dX11_tapeNumber_31 ?_
  refine tb_aS (pc := 32) (j := 0) dX11_tapeNumber_32 a_162 (by decide) (by decide) ?_
  refine tb_aload_n (pc := 33) dX11_tapeNumber_33 rfl rfl ?_
  refine tb_dup (pc := 34) dX11_tapeNumber_34 rfl ?_
  refine tb_fIv (pc := 35) (v := 0) dX11_tapeNumber_35 fl_X11_107 i_0_13 h0 ?_
  refine tb_iconst (pc := 38) (v := 1) dX11_tapeNumber_38 (by decide) ?_
  refine tb_iaddv (pc := 39) (v := 1) dX11_tapeNumber_39 (by decide) ?_
  refine tb_pI (pc := 40) dX11_tapeNumber_40 fl_X11_107 i_0_13 rfl ?_
  refine tb_iinc (pc := 43) (v := 16) (L2 := [_, _, _]) dX11_tapeNumber_43 rfl (by decide) rfl ?_
  refine tb_goto (pc := 46) (tgt := 3) dX11_tapeNumber_46 (by decide) ?_
  refine tb_iload_n (pc := 3) dX11_tapeNumber_3 rfl rfl ?_
  refine tb_if_ltF (pc := 4) (tgt := 49) (by decide) dX11_tapeNumber_4 (by decide) ?_
  refine tb_aload_n (pc := 7) dX11_tapeNumber_7 rfl rfl ?_
  refine tb_fIv (pc := 8) (v := 1) dX11_tapeNumber_8 fl_X11_107 i_0_13 rfl ?_
  refine tb_sipush (pc := 11) (v := 700) dX11_tapeNumber_11 (by decide) ?_
  refine tb_icmp_geF (pc := 14) (tgt := 49) (by decide) dX11_tapeNumber_14 (by decide) ?_
  refine tb_aload_n (pc := 17) dX11_tapeNumber_17 rfl rfl ?_
  refine tb_fR (pc := 18) dX11_tapeNumber_18 fl_X11_94 r_0_12 ?_
  refine tb_aload_n (pc := 21) dX11_tapeNumber_21 rfl rfl ?_
  refine tb_fIv (pc := 22) (v := 1) dX11_tapeNumber_22 fl_X11_107 i_0_13 rfl ?_
  refine tb_iload_n (pc := 25) dX11_tapeNumber_25 rfl rfl ?_
  refine tb_iload_n (pc := 26) dX11_tapeNumber_26 rfl rfl ?_
  refine tb_iushr (pc := 27) dX11_tapeNumber_27 rfl ?_
  refine tb_sipush (pc := 28) (v := 255) dX11_tapeNumber_28 (by decide) ?_
  refine tb_iand (pc := 31) dX11_tapeNumber_31 ?_
  refine tb_aS (pc := 32) (j := 1) dX11_tapeNumber_32 a_162 (by decide) (by decide) ?_
  refine tb_aload_n (pc := 33) dX11_tapeNumber_33 rfl rfl ?_
  refine tb_dup (pc := 34) dX11_tapeNumber_34 rfl ?_
  refine tb_fIv (pc := 35) (v := 1) dX11_tapeNumber_35 fl_X11_107 i_0_13 rfl ?_
  refine tb_iconst (pc := 38) (v := 1) dX11_tapeNumber_38 (by decide) ?_
  refine tb_iaddv (pc := 39) (v := 2) dX11_tapeNumber_39 (by decide) ?_
  refine tb_pI (pc := 40) dX11_tapeNumber_40 fl_X11_107 i_0_13 rfl ?_
  refine tb_iinc (pc := 43) (v := 8) (L2 := [_, _, _]) dX11_tapeNumber_43 rfl (by decide) rfl ?_
  refine tb_goto (pc := 46) (tgt := 3) dX11_tapeNumber_46 (by decide) ?_
  refine tb_iload_n (pc := 3) dX11_tapeNumber_3 rfl rfl ?_
  refine tb_if_ltF (pc := 4) (tgt := 49) (by decide) dX11_tapeNumber_4 (by decide) ?_
  refine tb_aload_n (pc := 7) dX11_tapeNumber_7 rfl rfl ?_
  refine tb_fIv (pc := 8) (v := 2) dX11_tapeNumber_8 fl_X11_107 i_0_13 rfl ?_
  refine tb_sipush (pc := 11) (v := 700) dX11_tapeNumber_11 (by decide) ?_
  refine tb_icmp_geF (pc := 14) (tgt := 49) (by decide) dX11_tapeNumber_14 (by decide) ?_
  refine tb_aload_n (pc := 17) dX11_tapeNumber_17 rfl rfl ?_
  refine tb_fR (pc := 18) dX11_tapeNumber_18 fl_X11_94 r_0_12 ?_
  refine tb_aload_n (pc := 21) dX11_tapeNumber_21 rfl rfl ?_
  refine tb_fIv (pc := 22) (v := 2) dX11_tapeNumber_22 fl_X11_107 i_0_13 rfl ?_
  refine tb_iload_n (pc := 25) dX11_tapeNumber_25 rfl rfl ?_
  refine tb_iload_n (pc := 26) dX11_tapeNumber_26 rfl rfl ?_
  refine tb_iushr (pc := 27) dX11_tapeNumber_27 rfl ?_
  refine tb_sipush (pc := 28) (v := 255) dX11_tapeNumber_28 (by decide) ?_
  refine tb_iand (pc := 31) dX11_tapeNumber_31 ?_
  refine tb_aS (pc := 32) (j := 2) dX11_tapeNumber_32 a_162 (by decide) (by decide) ?_
  refine tb_aload_n (pc := 33) dX11_tapeNumber_33 rfl rfl ?_
  refine tb_dup (pc := 34) dX11_tapeNumber_34 rfl ?_
  refine tb_fIv (pc := 35) (v := 2) dX11_tapeNumber_35 fl_X11_107 i_0_13 rfl ?_
  refine tb_iconst (pc := 38) (v := 1) dX11_tapeNumber_38 (by decide) ?_
  refine tb_iaddv (pc := 39) (v := 3) dX11_tapeNumber_39 (by decide) ?_
  refine tb_pI (pc := 40) dX11_tapeNumber_40 fl_X11_107 i_0_13 rfl ?_
  refine tb_iinc (pc := 43) (v := 0) (L2 := [_, _, _]) dX11_tapeNumber_43 rfl (by decide) rfl ?_
  refine tb_goto (pc := 46) (tgt := 3) dX11_tapeNumber_46 (by decide) ?_
  refine tb_iload_n (pc := 3) dX11_tapeNumber_3 rfl rfl ?_
  refine tb_if_ltF (pc := 4) (tgt := 49) (by decide) dX11_tapeNumber_4 (by decide) ?_
  refine tb_aload_n (pc := 7) dX11_tapeNumber_7 rfl rfl ?_
  refine tb_fIv (pc := 8) (v := 3) dX11_tapeNumber_8 fl_X11_107 i_0_13 rfl ?_
  refine tb_sipush (pc := 11) (v := 700) dX11_tapeNumber_11 (by decide) ?_
  refine tb_icmp_geF (pc := 14) (tgt := 49) (by decide) dX11_tapeNumber_14 (by decide) ?_
  refine tb_aload_n (pc := 17) dX11_tapeNumber_17 rfl rfl ?_
  refine tb_fR (pc := 18) dX11_tapeNumber_18 fl_X11_94 r_0_12 ?_
  refine tb_aload_n (pc := 21) dX11_tapeNumber_21 rfl rfl ?_
  refine tb_fIv (pc := 22) (v := 3) dX11_tapeNumber_22 fl_X11_107 i_0_13 rfl ?_
  refine tb_iload_n (pc := 25) dX11_tapeNumber_25 rfl rfl ?_
  refine tb_iload_n (pc := 26) dX11_tapeNumber_26 rfl rfl ?_
  refine tb_iushr (pc := 27) dX11_tapeNumber_27 rfl ?_
  refine tb_sipush (pc := 28) (v := 255) dX11_tapeNumber_28 (by decide) ?_
  refine tb_iand (pc := 31) dX11_tapeNumber_31 ?_
  refine tb_aS (pc := 32) (j := 3) dX11_tapeNumber_32 a_162 (by decide) (by decide) ?_
  refine tb_aload_n (pc := 33) dX11_tapeNumber_33 rfl rfl ?_
  refine tb_dup (pc := 34) dX11_tapeNumber_34 rfl ?_
  refine tb_fIv (pc := 35) (v := 3) dX11_tapeNumber_35 fl_X11_107 i_0_13 rfl ?_
  refine tb_iconst (pc := 38) (v := 1) dX11_tapeNumber_38 (by decide) ?_
  refine tb_iaddv (pc := 39) (v := 4) dX11_tapeNumber_39 (by decide) ?_
  refine tb_pI (pc := 40) dX11_tapeNumber_40 fl_X11_107 i_0_13 rfl ?_
  refine tb_iinc (pc := 43) (v := (-8)) (L2 := [_, _, _]) dX11_tapeNumber_43 rfl (by decide) rfl ?_
  refine tb_goto (pc := 46) (tgt := 3) dX11_tapeNumber_46 (by decide) ?_
  refine tb_iload_n (pc := 3) dX11_tapeNumber_3 rfl rfl ?_
  refine tb_if_ltT (pc := 4) (tgt := 49) (by decide) dX11_tapeNumber_4 (by decide) ?_
  exact tb_vret (pc := 49) dX11_tapeNumber_49 rfl (Nat.le_of_ble_eq_true rfl) (Nat.le_of_ble_eq_true rfl) ⟨rfl, rfl, rfl, rfl, (by repeat (first | exact tb_Of.rf | assumption | refine tb_Of.up rfl ?_ | refine tb_Of.row rfl ?_ | refine tb_Of.fl rfl ?_ | refine tb_Of.an rfl ?_ | refine tb_Of.tr (by assumption) ?_))⟩

set_option maxHeartbeats 4000000 in
set_option maxRecDepth 100000 in
theorem k_tape4 {l : Launch} {G : tb_G} (hl : l.stackTraces = false) (n : Nat) (I : tb_I) (x : Int32) (h0 : I 0 13 = 4) : tb_Ok l G M_X11_tapeNumber 0 0 0 [.ref 0, .int x] n tb_shT I (fun r n' sh' I' => r = none ∧ n' = n ∧ sh' = tb_shT ∧ I' 0 13 = 8 ∧ tb_Of tb_gm I' I) tb_Nx := by
  refine tb_Ok.of hl (by decide +kernel) rfl (tb_c1 rfl) (Nat.le_of_ble_eq_true rfl) ?_
  show tb_At l G M_X11_tapeNumber (tb_rm 0 0 0) none _ 0 0 n tb_shT I 0 [some (.ref 0), some (.int x), none] []
  refine tb_bipush (pc := 0) (v := 24) dX11_tapeNumber_0 (by decide) ?_
  refine tb_istore_n (pc := 2) (L2 := [_, _, _]) dX11_tapeNumber_2 rfl (by decide) rfl ?_
  refine tb_iload_n (pc := 3) dX11_tapeNumber_3 rfl rfl ?_
  refine tb_if_ltF (pc := 4) (tgt := 49) (by decide) dX11_tapeNumber_4 (by decide) ?_
  refine tb_aload_n (pc := 7) dX11_tapeNumber_7 rfl rfl ?_
  refine tb_fIv (pc := 8) (v := 4) dX11_tapeNumber_8 fl_X11_107 i_0_13 h0 ?_
  refine tb_sipush (pc := 11) (v := 700) dX11_tapeNumber_11 (by decide) ?_
  refine tb_icmp_geF (pc := 14) (tgt := 49) (by decide) dX11_tapeNumber_14 (by decide) ?_
  refine tb_aload_n (pc := 17) dX11_tapeNumber_17 rfl rfl ?_
  refine tb_fR (pc := 18) dX11_tapeNumber_18 fl_X11_94 r_0_12 ?_
  refine tb_aload_n (pc := 21) dX11_tapeNumber_21 rfl rfl ?_
  refine tb_fIv (pc := 22) (v := 4) dX11_tapeNumber_22 fl_X11_107 i_0_13 h0 ?_
  refine tb_iload_n (pc := 25) dX11_tapeNumber_25 rfl rfl ?_
  refine tb_iload_n (pc := 26) dX11_tapeNumber_26 rfl rfl ?_
  refine tb_iushr (pc := 27) dX11_tapeNumber_27 rfl ?_
  refine tb_sipush (pc := 28) (v := 255) dX11_tapeNumber_28 (by decide) ?_
  refine tb_iand (pc := 31) dX11_tapeNumber_31 ?_
  refine tb_aS (pc := 32) (j := 4) dX11_tapeNumber_32 a_162 (by decide) (by decide) ?_
  refine tb_aload_n (pc := 33) dX11_tapeNumber_33 rfl rfl ?_
  refine tb_dup (pc := 34) dX11_tapeNumber_34 rfl ?_
  refine tb_fIv (pc := 35) (v := 4) dX11_tapeNumber_35 fl_X11_107 i_0_13 h0 ?_
  refine tb_iconst (pc := 38) (v := 1) dX11_tapeNumber_38 (by decide) ?_
  refine tb_iaddv (pc := 39) (v := 5) dX11_tapeNumber_39 (by decide) ?_
  refine tb_pI (pc := 40) dX11_tapeNumber_40 fl_X11_107 i_0_13 rfl ?_
  refine tb_iinc (pc := 43) (v := 16) (L2 := [_, _, _]) dX11_tapeNumber_43 rfl (by decide) rfl ?_
  refine tb_goto (pc := 46) (tgt := 3) dX11_tapeNumber_46 (by decide) ?_
  refine tb_iload_n (pc := 3) dX11_tapeNumber_3 rfl rfl ?_
  refine tb_if_ltF (pc := 4) (tgt := 49) (by decide) dX11_tapeNumber_4 (by decide) ?_
  refine tb_aload_n (pc := 7) dX11_tapeNumber_7 rfl rfl ?_
  refine tb_fIv (pc := 8) (v := 5) dX11_tapeNumber_8 fl_X11_107 i_0_13 rfl ?_
  refine tb_sipush (pc := 11) (v := 700) dX11_tapeNumber_11 (by decide) ?_
  refine tb_icmp_geF (pc := 14) (tgt := 49) (by decide) dX11_tapeNumber_14 (by decide) ?_
  refine tb_aload_n (pc := 17) dX11_tapeNumber_17 rfl rfl ?_
  refine tb_fR (pc := 18) dX11_tapeNumber_18 fl_X11_94 r_0_12 ?_
  refine tb_aload_n (pc := 21) dX11_tapeNumber_21 rfl rfl ?_
  refine tb_fIv (pc := 22) (v := 5) dX11_tapeNumber_22 fl_X11_107 i_0_13 rfl ?_
  refine tb_iload_n (pc := 25) dX11_tapeNumber_25 rfl rfl ?_
  refine tb_iload_n (pc := 26) dX11_tapeNumber_26 rfl rfl ?_
  refine tb_iushr (pc := 27) dX11_tapeNumber_27 rfl ?_
  refine tb_sipush (pc := 28) (v := 255) dX11_tapeNumber_28 (by decide) ?_
  refine tb_iand (pc := 31) dX11_tapeNumber_31 ?_
  refine tb_aS (pc := 32) (j := 5) dX11_tapeNumber_32 a_162 (by decide) (by decide) ?_
  refine tb_aload_n (pc := 33) dX11_tapeNumber_33 rfl rfl ?_
  refine tb_dup (pc := 34) dX11_tapeNumber_34 rfl ?_
  refine tb_fIv (pc := 35) (v := 5) dX11_tapeNumber_35 fl_X11_107 i_0_13 rfl ?_
  refine tb_iconst (pc := 38) (v := 1) dX11_tapeNumber_38 (by decide) ?_
  refine tb_iaddv (pc := 39) (v := 6) dX11_tapeNumber_39 (by decide) ?_
  refine tb_pI (pc := 40) dX11_tapeNumber_40 fl_X11_107 i_0_13 rfl ?_
  refine tb_iinc (pc := 43) (v := 8) (L2 := [_, _, _]) dX11_tapeNumber_43 rfl (by decide) rfl ?_
  refine tb_goto (pc := 46) (tgt := 3) dX11_tapeNumber_46 (by decide) ?_
  refine tb_iload_n (pc := 3) dX11_tapeNumber_3 rfl rfl ?_
  refine tb_if_ltF (pc := 4) (tgt := 49) (by decide) dX11_tapeNumber_4 (by decide) ?_
  refine tb_aload_n (pc := 7) dX11_tapeNumber_7 rfl rfl ?_
  refine tb_fIv (pc := 8) (v := 6) dX11_tapeNumber_8 fl_X11_107 i_0_13 rfl ?_
  refine tb_sipush (pc := 11) (v := 700) dX11_tapeNumber_11 (by decide) ?_
  refine tb_icmp_geF (pc := 14) (tgt := 49) (by decide) dX11_tapeNumber_14 (by decide) ?_
  refine tb_aload_n (pc := 17) dX11_tapeNumber_17 rfl rfl ?_
  refine tb_fR (pc := 18) dX11_tapeNumber_18 fl_X11_94 r_0_12 ?_
  refine tb_aload_n (pc := 21) dX11_tapeNumber_21 rfl rfl ?_
  refine tb_fIv (pc := 22) (v := 6) dX11_tapeNumber_22 fl_X11_107 i_0_13 rfl ?_
  refine tb_iload_n (pc := 25) dX11_tapeNumber_25 rfl rfl ?_
  refine tb_iload_n (pc := 26) dX11_tapeNumber_26 rfl rfl ?_
  refine tb_iushr (pc := 27) dX11_tapeNumber_27 rfl ?_
  refine tb_sipush (pc := 28) (v := 255) dX11_tapeNumber_28 (by decide) ?_
  refine tb_iand (pc := 31) dX11_tapeNumber_31 ?_
  refine tb_aS (pc := 32) (j := 6) dX11_tapeNumber_32 a_162 (by decide) (by decide) ?_
  refine tb_aload_n (pc := 33) dX11_tapeNumber_33 rfl rfl ?_
  refine tb_dup (pc := 34) dX11_tapeNumber_34 rfl ?_
  refine tb_fIv (pc := 35) (v := 6) dX11_tapeNumber_35 fl_X11_107 i_0_13 rfl ?_
  refine tb_iconst (pc := 38) (v := 1) dX11_tapeNumber_38 (by decide) ?_
  refine tb_iaddv (pc := 39) (v := 7) dX11_tapeNumber_39 (by decide) ?_
  refine tb_pI (pc := 40) dX11_tapeNumber_40 fl_X11_107 i_0_13 rfl ?_
  refine tb_iinc (pc := 43) (v := 0) (L2 := [_, _, _]) dX11_tapeNumber_43 rfl (by decide) rfl ?_
  refine tb_goto (pc := 46) (tgt := 3) dX11_tapeNumber_46 (by decide) ?_
  refine tb_iload_n (pc := 3) dX11_tapeNumber_3 rfl rfl ?_
  refine tb_if_ltF (pc := 4) (tgt := 49) (by decide) dX11_tapeNumber_4 (by decide) ?_
  refine tb_aload_n (pc := 7) dX11_tapeNumber_7 rfl rfl ?_
  refine tb_fIv (pc := 8) (v := 7) dX11_tapeNumber_8 fl_X11_107 i_0_13 rfl ?_
  refine tb_sipush (pc := 11) (v := 700) dX11_tapeNumber_11 (by decide) ?_
  refine tb_icmp_geF (pc := 14) (tgt := 49) (by decide) dX11_tapeNumber_14 (by decide) ?_
  refine tb_aload_n (pc := 17) dX11_tapeNumber_17 rfl rfl ?_
  refine tb_fR (pc := 18) dX11_tapeNumber_18 fl_X11_94 r_0_12 ?_
  refine tb_aload_n (pc := 21) dX11_tapeNumber_21 rfl rfl ?_
  refine tb_fIv (pc := 22) (v := 7) dX11_tapeNumber_22 fl_X11_107 i_0_13 rfl ?_
  refine tb_iload_n (pc := 25) dX11_tapeNumber_25 rfl rfl ?_
  refine tb_iload_n (pc := 26) dX11_tapeNumber_26 rfl rfl ?_
  refine tb_iushr (pc := 27) dX11_tapeNumber_27 rfl ?_
  refine tb_sipush (pc := 28) (v := 255) dX11_tapeNumber_28 (by decide) ?_
  refine tb_iand (pc := 31) dX11_tapeNumber_31 ?_
  refine tb_aS (pc := 32) (j := 7) dX11_tapeNumber_32 a_162 (by decide) (by decide) ?_
  refine tb_aload_n (pc := 33) dX11_tapeNumber_33 rfl rfl ?_
  refine tb_dup (pc := 34) dX11_tapeNumber_34 rfl ?_
  refine tb_fIv (pc := 35) (v := 7) dX11_tapeNumber_35 fl_X11_107 i_0_13 rfl ?_
  refine tb_iconst (pc := 38) (v := 1) dX11_tapeNumber_38 (by decide) ?_
  refine tb_iaddv (pc := 39) (v := 8) dX11_tapeNumber_39 (by decide) ?_
  refine tb_pI (pc := 40) dX11_tapeNumber_40 fl_X11_107 i_0_13 rfl ?_
  refine tb_iinc (pc := 43) (v := (-8)) (L2 := [_, _, _]) dX11_tapeNumber_43 rfl (by decide) rfl ?_
  refine tb_goto (pc := 46) (tgt := 3) dX11_tapeNumber_46 (by decide) ?_
  refine tb_iload_n (pc := 3) dX11_tapeNumber_3 rfl rfl ?_
  refine tb_if_ltT (pc := 4) (tgt := 49) (by decide) dX11_tapeNumber_4 (by decide) ?_
  exact tb_vret (pc := 49) dX11_tapeNumber_49 rfl (Nat.le_of_ble_eq_true rfl) (Nat.le_of_ble_eq_true rfl) ⟨rfl, rfl, rfl, rfl, (by repeat (first | exact tb_Of.rf | assumption | refine tb_Of.up rfl ?_ | refine tb_Of.row rfl ?_ | refine tb_Of.fl rfl ?_ | refine tb_Of.an rfl ?_ | refine tb_Of.tr (by assumption) ?_))⟩

set_option maxHeartbeats 4000000 in
set_option maxRecDepth 100000 in
theorem k_tape8 {l : Launch} {G : tb_G} (hl : l.stackTraces = false) (n : Nat) (I : tb_I) (x : Int32) (h0 : I 0 13 = 8) : tb_Ok l G M_X11_tapeNumber 0 0 0 [.ref 0, .int x] n tb_shT I (fun r n' sh' I' => r = none ∧ n' = n ∧ sh' = tb_shT ∧ I' 0 13 = 12 ∧ tb_Of tb_gm I' I) tb_Nx := by
  refine tb_Ok.of hl (by decide +kernel) rfl (tb_c1 rfl) (Nat.le_of_ble_eq_true rfl) ?_
  show tb_At l G M_X11_tapeNumber (tb_rm 0 0 0) none _ 0 0 n tb_shT I 0 [some (.ref 0), some (.int x), none] []
  refine tb_bipush (pc := 0) (v := 24) dX11_tapeNumber_0 (by decide) ?_
  refine tb_istore_n (pc := 2) (L2 := [_, _, _]) dX11_tapeNumber_2 rfl (by decide) rfl ?_
  refine tb_iload_n (pc := 3) dX11_tapeNumber_3 rfl rfl ?_
  refine tb_if_ltF (pc := 4) (tgt := 49) (by decide) dX11_tapeNumber_4 (by decide) ?_
  refine tb_aload_n (pc := 7) dX11_tapeNumber_7 rfl rfl ?_
  refine tb_fIv (pc := 8) (v := 8) dX11_tapeNumber_8 fl_X11_107 i_0_13 h0 ?_
  refine tb_sipush (pc := 11) (v := 700) dX11_tapeNumber_11 (by decide) ?_
  refine tb_icmp_geF (pc := 14) (tgt := 49) (by decide) dX11_tapeNumber_14 (by decide) ?_
  refine tb_aload_n (pc := 17) dX11_tapeNumber_17 rfl rfl ?_
  refine tb_fR (pc := 18) dX11_tapeNumber_18 fl_X11_94 r_0_12 ?_
  refine tb_aload_n (pc := 21) dX11_tapeNumber_21 rfl rfl ?_
  refine tb_fIv (pc := 22) (v := 8) dX11_tapeNumber_22 fl_X11_107 i_0_13 h0 ?_
  refine tb_iload_n (pc := 25) dX11_tapeNumber_25 rfl rfl ?_
  refine tb_iload_n (pc := 26) dX11_tapeNumber_26 rfl rfl ?_
  refine tb_iushr (pc := 27) dX11_tapeNumber_27 rfl ?_
  refine tb_sipush (pc := 28) (v := 255) dX11_tapeNumber_28 (by decide) ?_
  refine tb_iand (pc := 31) dX11_tapeNumber_31 ?_
  refine tb_aS (pc := 32) (j := 8) dX11_tapeNumber_32 a_162 (by decide) (by decide) ?_
  refine tb_aload_n (pc := 33) dX11_tapeNumber_33 rfl rfl ?_
  refine tb_dup (pc := 34) dX11_tapeNumber_34 rfl ?_
  refine tb_fIv (pc := 35) (v := 8) dX11_tapeNumber_35 fl_X11_107 i_0_13 h0 ?_
  refine tb_iconst (pc := 38) (v := 1) dX11_tapeNumber_38 (by decide) ?_
  refine tb_iaddv (pc := 39) (v := 9) dX11_tapeNumber_39 (by decide) ?_
  refine tb_pI (pc := 40) dX11_tapeNumber_40 fl_X11_107 i_0_13 rfl ?_
  refine tb_iinc (pc := 43) (v := 16) (L2 := [_, _, _]) dX11_tapeNumber_43 rfl (by decide) rfl ?_
  refine tb_goto (pc := 46) (tgt := 3) dX11_tapeNumber_46 (by decide) ?_
  refine tb_iload_n (pc := 3) dX11_tapeNumber_3 rfl rfl ?_
  refine tb_if_ltF (pc := 4) (tgt := 49) (by decide) dX11_tapeNumber_4 (by decide) ?_
  refine tb_aload_n (pc := 7) dX11_tapeNumber_7 rfl rfl ?_
  refine tb_fIv (pc := 8) (v := 9) dX11_tapeNumber_8 fl_X11_107 i_0_13 rfl ?_
  refine tb_sipush (pc := 11) (v := 700) dX11_tapeNumber_11 (by decide) ?_
  refine tb_icmp_geF (pc := 14) (tgt := 49) (by decide) dX11_tapeNumber_14 (by decide) ?_
  refine tb_aload_n (pc := 17) dX11_tapeNumber_17 rfl rfl ?_
  refine tb_fR (pc := 18) dX11_tapeNumber_18 fl_X11_94 r_0_12 ?_
  refine tb_aload_n (pc := 21) dX11_tapeNumber_21 rfl rfl ?_
  refine tb_fIv (pc := 22) (v := 9) dX11_tapeNumber_22 fl_X11_107 i_0_13 rfl ?_
  refine tb_iload_n (pc := 25) dX11_tapeNumber_25 rfl rfl ?_
  refine tb_iload_n (pc := 26) dX11_tapeNumber_26 rfl rfl ?_
  refine tb_iushr (pc := 27) dX11_tapeNumber_27 rfl ?_
  refine tb_sipush (pc := 28) (v := 255) dX11_tapeNumber_28 (by decide) ?_
  refine tb_iand (pc := 31) dX11_tapeNumber_31 ?_
  refine tb_aS (pc := 32) (j := 9) dX11_tapeNumber_32 a_162 (by decide) (by decide) ?_
  refine tb_aload_n (pc := 33) dX11_tapeNumber_33 rfl rfl ?_
  refine tb_dup (pc := 34) dX11_tapeNumber_34 rfl ?_
  refine tb_fIv (pc := 35) (v := 9) dX11_tapeNumber_35 fl_X11_107 i_0_13 rfl ?_
  refine tb_iconst (pc := 38) (v := 1) dX11_tapeNumber_38 (by decide) ?_
  refine tb_iaddv (pc := 39) (v := 10) dX11_tapeNumber_39 (by decide) ?_
  refine tb_pI (pc := 40) dX11_tapeNumber_40 fl_X11_107 i_0_13 rfl ?_
  refine tb_iinc (pc := 43) (v := 8) (L2 := [_, _, _]) dX11_tapeNumber_43 rfl (by decide) rfl ?_
  refine tb_goto (pc := 46) (tgt := 3) dX11_tapeNumber_46 (by decide) ?_
  refine tb_iload_n (pc := 3) dX11_tapeNumber_3 rfl rfl ?_
  refine tb_if_ltF (pc := 4) (tgt := 49) (by decide) dX11_tapeNumber_4 (by decide) ?_
  refine tb_aload_n (pc := 7) dX11_tapeNumber_7 rfl rfl ?_
  refine tb_fIv (pc := 8) (v := 10) dX11_tapeNumber_8 fl_X11_107 i_0_13 rfl ?_
  refine tb_sipush (pc := 11) (v := 700) dX11_tapeNumber_11 (by decide) ?_
  refine tb_icmp_geF (pc := 14) (tgt := 49) (by decide) dX11_tapeNumber_14 (by decide) ?_
  refine tb_aload_n (pc := 17) dX11_tapeNumber_17 rfl rfl ?_
  refine tb_fR (pc := 18) dX11_tapeNumber_18 fl_X11_94 r_0_12 ?_
  refine tb_aload_n (pc := 21) dX11_tapeNumber_21 rfl rfl ?_
  refine tb_fIv (pc := 22) (v := 10) dX11_tapeNumber_22 fl_X11_107 i_0_13 rfl ?_
  refine tb_iload_n (pc := 25) dX11_tapeNumber_25 rfl rfl ?_
  refine tb_iload_n (pc := 26) dX11_tapeNumber_26 rfl rfl ?_
  refine tb_iushr (pc := 27) dX11_tapeNumber_27 rfl ?_
  refine tb_sipush (pc := 28) (v := 255) dX11_tapeNumber_28 (by decide) ?_
  refine tb_iand (pc := 31) dX11_tapeNumber_31 ?_
  refine tb_aS (pc := 32) (j := 10) dX11_tapeNumber_32 a_162 (by decide) (by decide) ?_
  refine tb_aload_n (pc := 33) dX11_tapeNumber_33 rfl rfl ?_
  refine tb_dup (pc := 34) dX11_tapeNumber_34 rfl ?_
  refine tb_fIv (pc := 35) (v := 10) dX11_tapeNumber_35 fl_X11_107 i_0_13 rfl ?_
  refine tb_iconst (pc := 38) (v := 1) dX11_tapeNumber_38 (by decide) ?_
  refine tb_iaddv (pc := 39) (v := 11) dX11_tapeNumber_39 (by decide) ?_
  refine tb_pI (pc := 40) dX11_tapeNumber_40 fl_X11_107 i_0_13 rfl ?_
  refine tb_iinc (pc := 43) (v := 0) (L2 := [_, _, _]) dX11_tapeNumber_43 rfl (by decide) rfl ?_
  refine tb_goto (pc := 46) (tgt := 3) dX11_tapeNumber_46 (by decide) ?_
  refine tb_iload_n (pc := 3) dX11_tapeNumber_3 rfl rfl ?_
  refine tb_if_ltF (pc := 4) (tgt := 49) (by decide) dX11_tapeNumber_4 (by decide) ?_
  refine tb_aload_n (pc := 7) dX11_tapeNumber_7 rfl rfl ?_
  refine tb_fIv (pc := 8) (v := 11) dX11_tapeNumber_8 fl_X11_107 i_0_13 rfl ?_
  refine tb_sipush (pc := 11) (v := 700) dX11_tapeNumber_11 (by decide) ?_
  refine tb_icmp_geF (pc := 14) (tgt := 49) (by decide) dX11_tapeNumber_14 (by decide) ?_
  refine tb_aload_n (pc := 17) dX11_tapeNumber_17 rfl rfl ?_
  refine tb_fR (pc := 18) dX11_tapeNumber_18 fl_X11_94 r_0_12 ?_
  refine tb_aload_n (pc := 21) dX11_tapeNumber_21 rfl rfl ?_
  refine tb_fIv (pc := 22) (v := 11) dX11_tapeNumber_22 fl_X11_107 i_0_13 rfl ?_
  refine tb_iload_n (pc := 25) dX11_tapeNumber_25 rfl rfl ?_
  refine tb_iload_n (pc := 26) dX11_tapeNumber_26 rfl rfl ?_
  refine tb_iushr (pc := 27) dX11_tapeNumber_27 rfl ?_
  refine tb_sipush (pc := 28) (v := 255) dX11_tapeNumber_28 (by decide) ?_
  refine tb_iand (pc := 31) dX11_tapeNumber_31 ?_
  refine tb_aS (pc := 32) (j := 11) dX11_tapeNumber_32 a_162 (by decide) (by decide) ?_
  refine tb_aload_n (pc := 33) dX11_tapeNumber_33 rfl rfl ?_
  refine tb_dup (pc := 34) dX11_tapeNumber_34 rfl ?_
  refine tb_fIv (pc := 35) (v := 11) dX11_tapeNumber_35 fl_X11_107 i_0_13 rfl ?_
  refine tb_iconst (pc := 38) (v := 1) dX11_tapeNumber_38 (by decide) ?_
  refine tb_iaddv (pc := 39) (v := 12) dX11_tapeNumber_39 (by decide) ?_
  refine tb_pI (pc := 40) dX11_tapeNumber_40 fl_X11_107 i_0_13 rfl ?_
  refine tb_iinc (pc := 43) (v := (-8)) (L2 := [_, _, _]) dX11_tapeNumber_43 rfl (by decide) rfl ?_
  refine tb_goto (pc := 46) (tgt := 3) dX11_tapeNumber_46 (by decide) ?_
  refine tb_iload_n (pc := 3) dX11_tapeNumber_3 rfl rfl ?_
  refine tb_if_ltT (pc := 4) (tgt := 49) (by decide) dX11_tapeNumber_4 (by decide) ?_
  exact tb_vret (pc := 49) dX11_tapeNumber_49 rfl (Nat.le_of_ble_eq_true rfl) (Nat.le_of_ble_eq_true rfl) ⟨rfl, rfl, rfl, rfl, (by repeat (first | exact tb_Of.rf | assumption | refine tb_Of.up rfl ?_ | refine tb_Of.row rfl ?_ | refine tb_Of.fl rfl ?_ | refine tb_Of.an rfl ?_ | refine tb_Of.tr (by assumption) ?_))⟩

set_option maxHeartbeats 4000000 in
set_option maxRecDepth 100000 in
theorem k_tape12 {l : Launch} {G : tb_G} (hl : l.stackTraces = false) (n : Nat) (I : tb_I) (x : Int32) (h0 : I 0 13 = 12) : tb_Ok l G M_X11_tapeNumber 0 0 0 [.ref 0, .int x] n tb_shT I (fun r n' sh' I' => r = none ∧ n' = n ∧ sh' = tb_shT ∧ I' 0 13 = 16 ∧ tb_Of tb_gm I' I) tb_Nx := by
  refine tb_Ok.of hl (by decide +kernel) rfl (tb_c1 rfl) (Nat.le_of_ble_eq_true rfl) ?_
  show tb_At l G M_X11_tapeNumber (tb_rm 0 0 0) none _ 0 0 n tb_shT I 0 [some (.ref 0), some (.int x), none] []
  refine tb_bipush (pc := 0) (v := 24) dX11_tapeNumber_0 (by decide) ?_
  refine tb_istore_n (pc := 2) (L2 := [_, _, _]) dX11_tapeNumber_2 rfl (by decide) rfl ?_
  refine tb_iload_n (pc := 3) dX11_tapeNumber_3 rfl rfl ?_
  refine tb_if_ltF (pc := 4) (tgt := 49) (by decide) dX11_tapeNumber_4 (by decide) ?_
  refine tb_aload_n (pc := 7) dX11_tapeNumber_7 rfl rfl ?_
  refine tb_fIv (pc := 8) (v := 12) dX11_tapeNumber_8 fl_X11_107 i_0_13 h0 ?_
  refine tb_sipush (pc := 11) (v := 700) dX11_tapeNumber_11 (by decide) ?_
  refine tb_icmp_geF (pc := 14) (tgt := 49) (by decide) dX11_tapeNumber_14 (by decide) ?_
  refine tb_aload_n (pc := 17) dX11_tapeNumber_17 rfl rfl ?_
  refine tb_fR (pc := 18) dX11_tapeNumber_18 fl_X11_94 r_0_12 ?_
  refine tb_aload_n (pc := 21) dX11_tapeNumber_21 rfl rfl ?_
  refine tb_fIv (pc := 22) (v := 12) dX11_tapeNumber_22 fl_X11_107 i_0_13 h0 ?_
  refine tb_iload_n (pc := 25) dX11_tapeNumber_25 rfl rfl ?_
  refine tb_iload_n (pc := 26) dX11_tapeNumber_26 rfl rfl ?_
  refine tb_iushr (pc := 27) dX11_tapeNumber_27 rfl ?_
  refine tb_sipush (pc := 28) (v := 255) dX11_tapeNumber_28 (by decide) ?_
  refine tb_iand (pc := 31) dX11_tapeNumber_31 ?_
  refine tb_aS (pc := 32) (j := 12) dX11_tapeNumber_32 a_162 (by decide) (by decide) ?_
  refine tb_aload_n (pc := 33) dX11_tapeNumber_33 rfl rfl ?_
  refine tb_dup (pc := 34) dX11_tapeNumber_34 rfl ?_
  refine tb_fIv (pc := 35) (v := 12) dX11_tapeNumber_35 fl_X11_107 i_0_13 h0 ?_
  refine tb_iconst (pc := 38) (v := 1) dX11_tapeNumber_38 (by decide) ?_
  refine tb_iaddv (pc := 39) (v := 13) dX11_tapeNumber_39 (by decide) ?_
  refine tb_pI (pc := 40) dX11_tapeNumber_40 fl_X11_107 i_0_13 rfl ?_
  refine tb_iinc (pc := 43) (v := 16) (L2 := [_, _, _]) dX11_tapeNumber_43 rfl (by decide) rfl ?_
  refine tb_goto (pc := 46) (tgt := 3) dX11_tapeNumber_46 (by decide) ?_
  refine tb_iload_n (pc := 3) dX11_tapeNumber_3 rfl rfl ?_
  refine tb_if_ltF (pc := 4) (tgt := 49) (by decide) dX11_tapeNumber_4 (by decide) ?_
  refine tb_aload_n (pc := 7) dX11_tapeNumber_7 rfl rfl ?_
  refine tb_fIv (pc := 8) (v := 13) dX11_tapeNumber_8 fl_X11_107 i_0_13 rfl ?_
  refine tb_sipush (pc := 11) (v := 700) dX11_tapeNumber_11 (by decide) ?_
  refine tb_icmp_geF (pc := 14) (tgt := 49) (by decide) dX11_tapeNumber_14 (by decide) ?_
  refine tb_aload_n (pc := 17) dX11_tapeNumber_17 rfl rfl ?_
  refine tb_fR (pc := 18) dX11_tapeNumber_18 fl_X11_94 r_0_12 ?_
  refine tb_aload_n (pc := 21) dX11_tapeNumber_21 rfl rfl ?_
  refine tb_fIv (pc := 22) (v := 13) dX11_tapeNumber_22 fl_X11_107 i_0_13 rfl ?_
  refine tb_iload_n (pc := 25) dX11_tapeNumber_25 rfl rfl ?_
  refine tb_iload_n (pc := 26) dX11_tapeNumber_26 rfl rfl ?_
  refine tb_iushr (pc := 27) dX11_tapeNumber_27 rfl ?_
  refine tb_sipush (pc := 28) (v := 255) dX11_tapeNumber_28 (by decide) ?_
  refine tb_iand (pc := 31) dX11_tapeNumber_31 ?_
  refine tb_aS (pc := 32) (j := 13) dX11_tapeNumber_32 a_162 (by decide) (by decide) ?_
  refine tb_aload_n (pc := 33) dX11_tapeNumber_33 rfl rfl ?_
  refine tb_dup (pc := 34) dX11_tapeNumber_34 rfl ?_
  refine tb_fIv (pc := 35) (v := 13) dX11_tapeNumber_35 fl_X11_107 i_0_13 rfl ?_
  refine tb_iconst (pc := 38) (v := 1) dX11_tapeNumber_38 (by decide) ?_
  refine tb_iaddv (pc := 39) (v := 14) dX11_tapeNumber_39 (by decide) ?_
  refine tb_pI (pc := 40) dX11_tapeNumber_40 fl_X11_107 i_0_13 rfl ?_
  refine tb_iinc (pc := 43) (v := 8) (L2 := [_, _, _]) dX11_tapeNumber_43 rfl (by decide) rfl ?_
  refine tb_goto (pc := 46) (tgt := 3) dX11_tapeNumber_46 (by decide) ?_
  refine tb_iload_n (pc := 3) dX11_tapeNumber_3 rfl rfl ?_
  refine tb_if_ltF (pc := 4) (tgt := 49) (by decide) dX11_tapeNumber_4 (by decide) ?_
  refine tb_aload_n (pc := 7) dX11_tapeNumber_7 rfl rfl ?_
  refine tb_fIv (pc := 8) (v := 14) dX11_tapeNumber_8 fl_X11_107 i_0_13 rfl ?_
  refine tb_sipush (pc := 11) (v := 700) dX11_tapeNumber_11 (by decide) ?_
  refine tb_icmp_geF (pc := 14) (tgt := 49) (by decide) dX11_tapeNumber_14 (by decide) ?_
  refine tb_aload_n (pc := 17) dX11_tapeNumber_17 rfl rfl ?_
  refine tb_fR (pc := 18) dX11_tapeNumber_18 fl_X11_94 r_0_12 ?_
  refine tb_aload_n (pc := 21) dX11_tapeNumber_21 rfl rfl ?_
  refine tb_fIv (pc := 22) (v := 14) dX11_tapeNumber_22 fl_X11_107 i_0_13 rfl ?_
  refine tb_iload_n (pc := 25) dX11_tapeNumber_25 rfl rfl ?_
  refine tb_iload_n (pc := 26) dX11_tapeNumber_26 rfl rfl ?_
  refine tb_iushr (pc := 27) dX11_tapeNumber_27 rfl ?_
  refine tb_sipush (pc := 28) (v := 255) dX11_tapeNumber_28 (by decide) ?_
  refine tb_iand (pc := 31) dX11_tapeNumber_31 ?_
  refine tb_aS (pc := 32) (j := 14) dX11_tapeNumber_32 a_162 (by decide) (by decide) ?_
  refine tb_aload_n (pc := 33) dX11_tapeNumber_33 rfl rfl ?_
  refine tb_dup (pc := 34) dX11_tapeNumber_34 rfl ?_
  refine tb_fIv (pc := 35) (v := 14) dX11_tapeNumber_35 fl_X11_107 i_0_13 rfl ?_
  refine tb_iconst (pc := 38) (v := 1) dX11_tapeNumber_38 (by decide) ?_
  refine tb_iaddv (pc := 39) (v := 15) dX11_tapeNumber_39 (by decide) ?_
  refine tb_pI (pc := 40) dX11_tapeNumber_40 fl_X11_107 i_0_13 rfl ?_
  refine tb_iinc (pc := 43) (v := 0) (L2 := [_, _, _]) dX11_tapeNumber_43 rfl (by decide) rfl ?_
  refine tb_goto (pc := 46) (tgt := 3) dX11_tapeNumber_46 (by decide) ?_
  refine tb_iload_n (pc := 3) dX11_tapeNumber_3 rfl rfl ?_
  refine tb_if_ltF (pc := 4) (tgt := 49) (by decide) dX11_tapeNumber_4 (by decide) ?_
  refine tb_aload_n (pc := 7) dX11_tapeNumber_7 rfl rfl ?_
  refine tb_fIv (pc := 8) (v := 15) dX11_tapeNumber_8 fl_X11_107 i_0_13 rfl ?_
  refine tb_sipush (pc := 11) (v := 700) dX11_tapeNumber_11 (by decide) ?_
  refine tb_icmp_geF (pc := 14) (tgt := 49) (by decide) dX11_tapeNumber_14 (by decide) ?_
  refine tb_aload_n (pc := 17) dX11_tapeNumber_17 rfl rfl ?_
  refine tb_fR (pc := 18) dX11_tapeNumber_18 fl_X11_94 r_0_12 ?_
  refine tb_aload_n (pc := 21) dX11_tapeNumber_21 rfl rfl ?_
  refine tb_fIv (pc := 22) (v := 15) dX11_tapeNumber_22 fl_X11_107 i_0_13 rfl ?_
  refine tb_iload_n (pc := 25) dX11_tapeNumber_25 rfl rfl ?_
  refine tb_iload_n (pc := 26) dX11_tapeNumber_26 rfl rfl ?_
  refine tb_iushr (pc := 27) dX11_tapeNumber_27 rfl ?_
  refine tb_sipush (pc := 28) (v := 255) dX11_tapeNumber_28 (by decide) ?_
  refine tb_iand (pc := 31) dX11_tapeNumber_31 ?_
  refine tb_aS (pc := 32) (j := 15) dX11_tapeNumber_32 a_162 (by decide) (by decide) ?_
  refine tb_aload_n (pc := 33) dX11_tapeNumber_33 rfl rfl ?_
  refine tb_dup (pc := 34) dX11_tapeNumber_34 rfl ?_
  refine tb_fIv (pc := 35) (v := 15) dX11_tapeNumber_35 fl_X11_107 i_0_13 rfl ?_
  refine tb_iconst (pc := 38) (v := 1) dX11_tapeNumber_38 (by decide) ?_
  refine tb_iaddv (pc := 39) (v := 16) dX11_tapeNumber_39 (by decide) ?_
  refine tb_pI (pc := 40) dX11_tapeNumber_40 fl_X11_107 i_0_13 rfl ?_
  refine tb_iinc (pc := 43) (v := (-8)) (L2 := [_, _, _]) dX11_tapeNumber_43 rfl (by decide) rfl ?_
  refine tb_goto (pc := 46) (tgt := 3) dX11_tapeNumber_46 (by decide) ?_
  refine tb_iload_n (pc := 3) dX11_tapeNumber_3 rfl rfl ?_
  refine tb_if_ltT (pc := 4) (tgt := 49) (by decide) dX11_tapeNumber_4 (by decide) ?_
  exact tb_vret (pc := 49) dX11_tapeNumber_49 rfl (Nat.le_of_ble_eq_true rfl) (Nat.le_of_ble_eq_true rfl) ⟨rfl, rfl, rfl, rfl, (by repeat (first | exact tb_Of.rf | assumption | refine tb_Of.up rfl ?_ | refine tb_Of.row rfl ?_ | refine tb_Of.fl rfl ?_ | refine tb_Of.an rfl ?_ | refine tb_Of.tr (by assumption) ?_))⟩

set_option maxHeartbeats 4000000 in
set_option maxRecDepth 100000 in
theorem k_tape16 {l : Launch} {G : tb_G} (hl : l.stackTraces = false) (n : Nat) (I : tb_I) (x : Int32) (h0 : I 0 13 = 16) : tb_Ok l G M_X11_tapeNumber 0 0 0 [.ref 0, .int x] n tb_shT I (fun r n' sh' I' => r = none ∧ n' = n ∧ sh' = tb_shT ∧ I' 0 13 = 20 ∧ tb_Of tb_gm I' I) tb_Nx := by
  refine tb_Ok.of hl (by decide +kernel) rfl (tb_c1 rfl) (Nat.le_of_ble_eq_true rfl) ?_
  show tb_At l G M_X11_tapeNumber (tb_rm 0 0 0) none _ 0 0 n tb_shT I 0 [some (.ref 0), some (.int x), none] []
  refine tb_bipush (pc := 0) (v := 24) dX11_tapeNumber_0 (by decide) ?_
  refine tb_istore_n (pc := 2) (L2 := [_, _, _]) dX11_tapeNumber_2 rfl (by decide) rfl ?_
  refine tb_iload_n (pc := 3) dX11_tapeNumber_3 rfl rfl ?_
  refine tb_if_ltF (pc := 4) (tgt := 49) (by decide) dX11_tapeNumber_4 (by decide) ?_
  refine tb_aload_n (pc := 7) dX11_tapeNumber_7 rfl rfl ?_
  refine tb_fIv (pc := 8) (v := 16) dX11_tapeNumber_8 fl_X11_107 i_0_13 h0 ?_
  refine tb_sipush (pc := 11) (v := 700) dX11_tapeNumber_11 (by decide) ?_
  refine tb_icmp_geF (pc := 14) (tgt := 49) (by decide) dX11_tapeNumber_14 (by decide) ?_
  refine tb_aload_n (pc := 17) dX11_tapeNumber_17 rfl rfl ?_
  refine tb_fR (pc := 18) dX11_tapeNumber_18 fl_X11_94 r_0_12 ?_
  refine tb_aload_n (pc := 21) dX11_tapeNumber_21 rfl rfl ?_
  refine tb_fIv (pc := 22) (v := 16) dX11_tapeNumber_22 fl_X11_107 i_0_13 h0 ?_
  refine tb_iload_n (pc := 25) dX11_tapeNumber_25 rfl rfl ?_
  refine tb_iload_n (pc := 26) dX11_tapeNumber_26 rfl rfl ?_
  refine tb_iushr (pc := 27) dX11_tapeNumber_27 rfl ?_
  refine tb_sipush (pc := 28) (v := 255) dX11_tapeNumber_28 (by decide) ?_
  refine tb_iand (pc := 31) dX11_tapeNumber_31 ?_
  refine tb_aS (pc := 32) (j := 16) dX11_tapeNumber_32 a_162 (by decide) (by decide) ?_
  refine tb_aload_n (pc := 33) dX11_tapeNumber_33 rfl rfl ?_
  refine tb_dup (pc := 34) dX11_tapeNumber_34 rfl ?_
  refine tb_fIv (pc := 35) (v := 16) dX11_tapeNumber_35 fl_X11_107 i_0_13 h0 ?_
  refine tb_iconst (pc := 38) (v := 1) dX11_tapeNumber_38 (by decide) ?_
  refine tb_iaddv (pc := 39) (v := 17) dX11_tapeNumber_39 (by decide) ?_
  refine tb_pI (pc := 40) dX11_tapeNumber_40 fl_X11_107 i_0_13 rfl ?_
  refine tb_iinc (pc := 43) (v := 16) (L2 := [_, _, _]) dX11_tapeNumber_43 rfl (by decide) rfl ?_
  refine tb_goto (pc := 46) (tgt := 3) dX11_tapeNumber_46 (by decide) ?_
  refine tb_iload_n (pc := 3) dX11_tapeNumber_3 rfl rfl ?_
  refine tb_if_ltF (pc := 4) (tgt := 49) (by decide) dX11_tapeNumber_4 (by decide) ?_
  refine tb_aload_n (pc := 7) dX11_tapeNumber_7 rfl rfl ?_
  refine tb_fIv (pc := 8) (v := 17) dX11_tapeNumber_8 fl_X11_107 i_0_13 rfl ?_
  refine tb_sipush (pc := 11) (v := 700) dX11_tapeNumber_11 (by decide) ?_
  refine tb_icmp_geF (pc := 14) (tgt := 49) (by decide) dX11_tapeNumber_14 (by decide) ?_
  refine tb_aload_n (pc := 17) dX11_tapeNumber_17 rfl rfl ?_
  refine tb_fR (pc := 18) dX11_tapeNumber_18 fl_X11_94 r_0_12 ?_
  refine tb_aload_n (pc := 21) dX11_tapeNumber_21 rfl rfl ?_
  refine tb_fIv (pc := 22) (v := 17) dX11_tapeNumber_22 fl_X11_107 i_0_13 rfl ?_
  refine tb_iload_n (pc := 25) dX11_tapeNumber_25 rfl rfl ?_
  refine tb_iload_n (pc := 26) dX11_tapeNumber_26 rfl rfl ?_
  refine tb_iushr (pc := 27) dX11_tapeNumber_27 rfl ?_
  refine tb_sipush (pc := 28) (v := 255) dX11_tapeNumber_28 (by decide) ?_
  refine tb_iand (pc := 31) dX11_tapeNumber_31 ?_
  refine tb_aS (pc := 32) (j := 17) dX11_tapeNumber_32 a_162 (by decide) (by decide) ?_
  refine tb_aload_n (pc := 33) dX11_tapeNumber_33 rfl rfl ?_
  refine tb_dup (pc := 34) dX11_tapeNumber_34 rfl ?_
  refine tb_fIv (pc := 35) (v := 17) dX11_tapeNumber_35 fl_X11_107 i_0_13 rfl ?_
  refine tb_iconst (pc := 38) (v := 1) dX11_tapeNumber_38 (by decide) ?_
  refine tb_iaddv (pc := 39) (v := 18) dX11_tapeNumber_39 (by decide) ?_
  refine tb_pI (pc := 40) dX11_tapeNumber_40 fl_X11_107 i_0_13 rfl ?_
  refine tb_iinc (pc := 43) (v := 8) (L2 := [_, _, _]) dX11_tapeNumber_43 rfl (by decide) rfl ?_
  refine tb_goto (pc := 46) (tgt := 3) dX11_tapeNumber_46 (by decide) ?_
  refine tb_iload_n (pc := 3) dX11_tapeNumber_3 rfl rfl ?_
  refine tb_if_ltF (pc := 4) (tgt := 49) (by decide) dX11_tapeNumber_4 (by decide) ?_
  refine tb_aload_n (pc := 7) dX11_tapeNumber_7 rfl rfl ?_
  refine tb_fIv (pc := 8) (v := 18) dX11_tapeNumber_8 fl_X11_107 i_0_13 rfl ?_
  refine tb_sipush (pc := 11) (v := 700) dX11_tapeNumber_11 (by decide) ?_
  refine tb_icmp_geF (pc := 14) (tgt := 49) (by decide) dX11_tapeNumber_14 (by decide) ?_
  refine tb_aload_n (pc := 17) dX11_tapeNumber_17 rfl rfl ?_
  refine tb_fR (pc := 18) dX11_tapeNumber_18 fl_X11_94 r_0_12 ?_
  refine tb_aload_n (pc := 21) dX11_tapeNumber_21 rfl rfl ?_
  refine tb_fIv (pc := 22) (v := 18) dX11_tapeNumber_22 fl_X11_107 i_0_13 rfl ?_
  refine tb_iload_n (pc := 25) dX11_tapeNumber_25 rfl rfl ?_
  refine tb_iload_n (pc := 26) dX11_tapeNumber_26 rfl rfl ?_
  refine tb_iushr (pc := 27) dX11_tapeNumber_27 rfl ?_
  refine tb_sipush (pc := 28) (v := 255) dX11_tapeNumber_28 (by decide) ?_
  refine tb_iand (pc := 31) dX11_tapeNumber_31 ?_
  refine tb_aS (pc := 32) (j := 18) dX11_tapeNumber_32 a_162 (by decide) (by decide) ?_
  refine tb_aload_n (pc := 33) dX11_tapeNumber_33 rfl rfl ?_
  refine tb_dup (pc := 34) dX11_tapeNumber_34 rfl ?_
  refine tb_fIv (pc := 35) (v := 18) dX11_tapeNumber_35 fl_X11_107 i_0_13 rfl ?_
  refine tb_iconst (pc := 38) (v := 1) dX11_tapeNumber_38 (by decide) ?_
  refine tb_iaddv (pc := 39) (v := 19) dX11_tapeNumber_39 (by decide) ?_
  refine tb_pI (pc := 40) dX11_tapeNumber_40 fl_X11_107 i_0_13 rfl ?_
  refine tb_iinc (pc := 43) (v := 0) (L2 := [_, _, _]) dX11_tapeNumber_43 rfl (by decide) rfl ?_
  refine tb_goto (pc := 46) (tgt := 3) dX11_tapeNumber_46 (by decide) ?_
  refine tb_iload_n (pc := 3) dX11_tapeNumber_3 rfl rfl ?_
  refine tb_if_ltF (pc := 4) (tgt := 49) (by decide) dX11_tapeNumber_4 (by decide) ?_
  refine tb_aload_n (pc := 7) dX11_tapeNumber_7 rfl rfl ?_
  refine tb_fIv (pc := 8) (v := 19) dX11_tapeNumber_8 fl_X11_107 i_0_13 rfl ?_
  refine tb_sipush (pc := 11) (v := 700) dX11_tapeNumber_11 (by decide) ?_
  refine tb_icmp_geF (pc := 14) (tgt := 49) (by decide) dX11_tapeNumber_14 (by decide) ?_
  refine tb_aload_n (pc := 17) dX11_tapeNumber_17 rfl rfl ?_
  refine tb_fR (pc := 18) dX11_tapeNumber_18 fl_X11_94 r_0_12 ?_
  refine tb_aload_n (pc := 21) dX11_tapeNumber_21 rfl rfl ?_
  refine tb_fIv (pc := 22) (v := 19) dX11_tapeNumber_22 fl_X11_107 i_0_13 rfl ?_
  refine tb_iload_n (pc := 25) dX11_tapeNumber_25 rfl rfl ?_
  refine tb_iload_n (pc := 26) dX11_tapeNumber_26 rfl rfl ?_
  refine tb_iushr (pc := 27) dX11_tapeNumber_27 rfl ?_
  refine tb_sipush (pc := 28) (v := 255) dX11_tapeNumber_28 (by decide) ?_
  refine tb_iand (pc := 31) dX11_tapeNumber_31 ?_
  refine tb_aS (pc := 32) (j := 19) dX11_tapeNumber_32 a_162 (by decide) (by decide) ?_
  refine tb_aload_n (pc := 33) dX11_tapeNumber_33 rfl rfl ?_
  refine tb_dup (pc := 34) dX11_tapeNumber_34 rfl ?_
  refine tb_fIv (pc := 35) (v := 19) dX11_tapeNumber_35 fl_X11_107 i_0_13 rfl ?_
  refine tb_iconst (pc := 38) (v := 1) dX11_tapeNumber_38 (by decide) ?_
  refine tb_iaddv (pc := 39) (v := 20) dX11_tapeNumber_39 (by decide) ?_
  refine tb_pI (pc := 40) dX11_tapeNumber_40 fl_X11_107 i_0_13 rfl ?_
  refine tb_iinc (pc := 43) (v := (-8)) (L2 := [_, _, _]) dX11_tapeNumber_43 rfl (by decide) rfl ?_
  refine tb_goto (pc := 46) (tgt := 3) dX11_tapeNumber_46 (by decide) ?_
  refine tb_iload_n (pc := 3) dX11_tapeNumber_3 rfl rfl ?_
  refine tb_if_ltT (pc := 4) (tgt := 49) (by decide) dX11_tapeNumber_4 (by decide) ?_
  exact tb_vret (pc := 49) dX11_tapeNumber_49 rfl (Nat.le_of_ble_eq_true rfl) (Nat.le_of_ble_eq_true rfl) ⟨rfl, rfl, rfl, rfl, (by repeat (first | exact tb_Of.rf | assumption | refine tb_Of.up rfl ?_ | refine tb_Of.row rfl ?_ | refine tb_Of.fl rfl ?_ | refine tb_Of.an rfl ?_ | refine tb_Of.tr (by assumption) ?_))⟩

set_option maxHeartbeats 4000000 in
set_option maxRecDepth 100000 in
theorem k1_feed {l : Launch} {G : tb_G} (hl : l.stackTraces = false) (n : Nat) (I : tb_I) (a b c d e : Int32) (F : tb_Fr I) : tb_Ok l G M_X11_feed 1 0 0 [.ref 0, .int a, .int b, .int c, .int d, .int e] n tb_shT I (tb_Pg tb_gm (some (.int 20)) n I) tb_Nx := by
  refine tb_Ok.of hl (by decide +kernel) rfl (tb_c1 rfl) (Nat.le_of_ble_eq_true rfl) ?_
  show tb_At l G M_X11_feed (tb_rm 1 0 0) none _ 0 0 n tb_shT I 0 [some (.ref 0), some (.int a), some (.int b), some (.int c), some (.int d), some (.int e)] []
  refine tb_aload_n (pc := 0) dX11_feed_0 rfl rfl ?_
  refine tb_fIv (pc := 1) (v := 0) dX11_feed_1 fl_X11_107 i_0_13 (F.at (by decide) z_0_13) ?_
  refine tb_bipush (pc := 4) (v := 20) dX11_feed_4 (by decide) ?_
  refine tb_iaddv (pc := 6) (v := 20) dX11_feed_6 (by decide) ?_
  refine tb_sipush (pc := 7) (v := 700) dX11_feed_7 (by decide) ?_
  refine tb_icmp_leT (pc := 10) (tgt := 15) (by decide) dX11_feed_10 (by decide) ?_
  refine tb_aload_n (pc := 15) dX11_feed_15 rfl rfl ?_
  refine tb_iload_n (pc := 16) dX11_feed_16 rfl rfl ?_
  refine tb_cV (pc := 17) (k_tape0 hl _ _ _ (F.at (by decide) z_0_13)) vl_X11_118 dX11_feed_17 o_0 rfl rfl (Nat.le_of_ble_eq_true rfl) ⟨(Nat.le_of_ble_eq_true rfl), (Nat.le_of_ble_eq_true rfl)⟩ rfl rfl (Nat.le_of_ble_eq_true rfl) (Nat.le_of_ble_eq_true rfl) (fun r9 n9 sh9 I9 hq9 => ?_)
  obtain ⟨rfl, rfl, rfl, g4, f4⟩ := hq9
  refine tb_aload_n (pc := 20) dX11_feed_20 rfl rfl ?_
  refine tb_iload_n (pc := 21) dX11_feed_21 rfl rfl ?_
  refine tb_cV (pc := 22) (k_tape4 hl _ _ _ g4) vl_X11_118 dX11_feed_22 o_0 rfl rfl (Nat.le_of_ble_eq_true rfl) ⟨(Nat.le_of_ble_eq_true rfl), (Nat.le_of_ble_eq_true rfl)⟩ rfl rfl (Nat.le_of_ble_eq_true rfl) (Nat.le_of_ble_eq_true rfl) (fun r9 n9 sh9 I9 hq9 => ?_)
  obtain ⟨rfl, rfl, rfl, g8, f8⟩ := hq9
  refine tb_aload_n (pc := 25) dX11_feed_25 rfl rfl ?_
  refine tb_iload_n (pc := 26) dX11_feed_26 rfl rfl ?_
  refine tb_cV (pc := 27) (k_tape8 hl _ _ _ g8) vl_X11_118 dX11_feed_27 o_0 rfl rfl (Nat.le_of_ble_eq_true rfl) ⟨(Nat.le_of_ble_eq_true rfl), (Nat.le_of_ble_eq_true rfl)⟩ rfl rfl (Nat.le_of_ble_eq_true rfl) (Nat.le_of_ble_eq_true rfl) (fun r9 n9 sh9 I9 hq9 => ?_)
  obtain ⟨rfl, rfl, rfl, g12, f12⟩ := hq9
  refine tb_aload_n (pc := 30) dX11_feed_30 rfl rfl ?_
  refine tb_iload (pc := 31) dX11_feed_31 rfl ?_
  refine tb_cV (pc := 33) (k_tape12 hl _ _ _ g12) vl_X11_118 dX11_feed_33 o_0 rfl rfl (Nat.le_of_ble_eq_true rfl) ⟨(Nat.le_of_ble_eq_true rfl), (Nat.le_of_ble_eq_true rfl)⟩ rfl rfl (Nat.le_of_ble_eq_true rfl) (Nat.le_of_ble_eq_true rfl) (fun r9 n9 sh9 I9 hq9 => ?_)
  obtain ⟨rfl, rfl, rfl, g16, f16⟩ := hq9
  refine tb_aload_n (pc := 36) dX11_feed_36 rfl rfl ?_
  refine tb_iload (pc := 37) dX11_feed_37 rfl ?_
  refine tb_cV (pc := 39) (k_tape16 hl _ _ _ g16) vl_X11_118 dX11_feed_39 o_0 rfl rfl (Nat.le_of_ble_eq_true rfl) ⟨(Nat.le_of_ble_eq_true rfl), (Nat.le_of_ble_eq_true rfl)⟩ rfl rfl (Nat.le_of_ble_eq_true rfl) (Nat.le_of_ble_eq_true rfl) (fun r9 n9 sh9 I9 hq9 => ?_)
  obtain ⟨rfl, rfl, rfl, g20, f20⟩ := hq9
  refine tb_aload_n (pc := 42) dX11_feed_42 rfl rfl ?_
  refine tb_fIv (pc := 43) (v := 20) dX11_feed_43 fl_X11_107 i_0_13 g20 ?_
  exact tb_iret (pc := 46) dX11_feed_46 rfl rfl (Nat.le_of_ble_eq_true rfl) (Nat.le_of_ble_eq_true rfl) ⟨rfl, rfl, rfl, (by repeat (first | exact tb_Of.rf | assumption | refine tb_Of.up rfl ?_ | refine tb_Of.row rfl ?_ | refine tb_Of.fl rfl ?_ | refine tb_Of.an rfl ?_ | refine tb_Of.tr (by assumption) ?_))⟩

set_option maxHeartbeats 4000000 in
set_option maxRecDepth 100000 in
theorem k1_fault {l : Launch} {G : tb_G} (hl : l.stackTraces = false) (n : Nat) (I : tb_I)  (F : tb_Fr I) : tb_Ok l G M_X11_fault 0 0 0 [.ref 0] n tb_shT I (tb_Pg tb_gm (some (.int (-1))) n I) tb_Nx := by
  refine tb_Ok.of hl (by decide +kernel) rfl (tb_c1 rfl) (Nat.le_of_ble_eq_true rfl) ?_
  show tb_At l G M_X11_fault (tb_rm 0 0 0) none _ 0 0 n tb_shT I 0 [some (.ref 0)] []
  refine tb_aload_n (pc := 0) dX11_fault_0 rfl rfl ?_
  refine tb_fIv (pc := 1) (v := (-1)) dX11_fault_1 fl_X11_111 i_0_14 (F.at (by decide) z_0_14) ?_
  exact tb_iret (pc := 4) dX11_fault_4 rfl rfl (Nat.le_of_ble_eq_true rfl) (Nat.le_of_ble_eq_true rfl) ⟨rfl, rfl, rfl, tb_Of.rf⟩

set_option maxHeartbeats 4000000 in
set_option maxRecDepth 100000 in
theorem k1_apply {l : Launch} {G : tb_G} (hl : l.stackTraces = false) (n : Nat) (I : tb_I) (a : Int32) (F : tb_Fr I) : tb_Ok l G M_X11_apply 1 0 0 [.ref 0, .int a] n tb_shT I (tb_Pg tb_gm (some (.int (-1))) n I) tb_Nx := by
  refine tb_Ok.of hl (by decide +kernel) rfl (tb_c1 rfl) (Nat.le_of_ble_eq_true rfl) ?_
  show tb_At l G M_X11_apply (tb_rm 1 0 0) none _ 0 0 n tb_shT I 0 [some (.ref 0), some (.int a)] []
  refine tb_aload_n (pc := 0) dX11_apply_0 rfl rfl ?_
  refine tb_fR (pc := 1) dX11_apply_1 fl_X11_29 r_0_1 ?_
  refine tb_fR (pc := 4) dX11_apply_4 fl_X11_49 r_5_0 ?_
  refine tb_iload_n (pc := 7) dX11_apply_7 rfl rfl ?_
  refine tb_cV (pc := 8) (k_te_has0 hl _ _ _ (F.at (by decide) z_6_12)) vl_X11_304 dX11_apply_8 o_6 rfl rfl (Nat.le_of_ble_eq_true rfl) ⟨(Nat.le_of_ble_eq_true rfl), (Nat.le_of_ble_eq_true rfl)⟩ rfl rfl (Nat.le_of_ble_eq_true rfl) (Nat.le_of_ble_eq_true rfl) (fun r9 n9 sh9 I9 hq9 => ?_)
  obtain ⟨rfl, rfl, rfl, rfl⟩ := hq9
  refine tb_if_neF (pc := 11) (tgt := 21) (by decide) dX11_apply_11 (by decide) ?_
  refine tb_aload_n (pc := 14) dX11_apply_14 rfl rfl ?_
  refine tb_iconst (pc := 15) (v := 1) dX11_apply_15 (by decide) ?_
  refine tb_iconst (pc := 16) (v := (-1)) dX11_apply_16 (by decide) ?_
  refine tb_cV (pc := 17) (k_refused1 hl _ _ _) vl_X11_284 dX11_apply_17 o_0 rfl rfl (Nat.le_of_ble_eq_true rfl) ⟨(Nat.le_of_ble_eq_true rfl), (Nat.le_of_ble_eq_true rfl)⟩ rfl rfl (Nat.le_of_ble_eq_true rfl) (Nat.le_of_ble_eq_true rfl) (fun r9 n9 sh9 I9 hq9 => ?_)
  obtain ⟨rfl, rfl, rfl, rfl⟩ := hq9
  exact tb_iret (pc := 20) dX11_apply_20 rfl rfl (Nat.le_of_ble_eq_true rfl) (Nat.le_of_ble_eq_true rfl) ⟨rfl, rfl, rfl, (by repeat (first | exact tb_Of.rf | assumption | refine tb_Of.up rfl ?_ | refine tb_Of.row rfl ?_ | refine tb_Of.fl rfl ?_ | refine tb_Of.an rfl ?_ | refine tb_Of.tr (by assumption) ?_))⟩

set_option maxHeartbeats 4000000 in
set_option maxRecDepth 100000 in
theorem k1_close {l : Launch} {G : tb_G} (hl : l.stackTraces = false) (n : Nat) (I : tb_I) (a : Int32) (F : tb_Fr I) : tb_Ok l G M_X11_close 1 0 0 [.ref 0, .int a] n tb_shT I (tb_Pg tb_gm (some (.int (-1))) n I) tb_Nx := by
  refine tb_Ok.of hl (by decide +kernel) rfl (tb_c1 rfl) (Nat.le_of_ble_eq_true rfl) ?_
  show tb_At l G M_X11_close (tb_rm 1 0 0) none _ 0 0 n tb_shT I 0 [some (.ref 0), some (.int a)] []
  refine tb_aload_n (pc := 0) dX11_close_0 rfl rfl ?_
  refine tb_fR (pc := 1) dX11_close_1 fl_X11_29 r_0_1 ?_
  refine tb_fR (pc := 4) dX11_close_4 fl_X11_49 r_5_0 ?_
  refine tb_iload_n (pc := 7) dX11_close_7 rfl rfl ?_
  refine tb_cV (pc := 8) (k_te_has0 hl _ _ _ (F.at (by decide) z_6_12)) vl_X11_304 dX11_close_8 o_6 rfl rfl (Nat.le_of_ble_eq_true rfl) ⟨(Nat.le_of_ble_eq_true rfl), (Nat.le_of_ble_eq_true rfl)⟩ rfl rfl (Nat.le_of_ble_eq_true rfl) (Nat.le_of_ble_eq_true rfl) (fun r9 n9 sh9 I9 hq9 => ?_)
  obtain ⟨rfl, rfl, rfl, rfl⟩ := hq9
  refine tb_if_neF (pc := 11) (tgt := 21) (by decide) dX11_close_11 (by decide) ?_
  refine tb_aload_n (pc := 14) dX11_close_14 rfl rfl ?_
  refine tb_iconst (pc := 15) (v := 1) dX11_close_15 (by decide) ?_
  refine tb_iconst (pc := 16) (v := (-1)) dX11_close_16 (by decide) ?_
  refine tb_cV (pc := 17) (k_refused1 hl _ _ _) vl_X11_284 dX11_close_17 o_0 rfl rfl (Nat.le_of_ble_eq_true rfl) ⟨(Nat.le_of_ble_eq_true rfl), (Nat.le_of_ble_eq_true rfl)⟩ rfl rfl (Nat.le_of_ble_eq_true rfl) (Nat.le_of_ble_eq_true rfl) (fun r9 n9 sh9 I9 hq9 => ?_)
  obtain ⟨rfl, rfl, rfl, rfl⟩ := hq9
  exact tb_iret (pc := 20) dX11_close_20 rfl rfl (Nat.le_of_ble_eq_true rfl) (Nat.le_of_ble_eq_true rfl) ⟨rfl, rfl, rfl, (by repeat (first | exact tb_Of.rf | assumption | refine tb_Of.up rfl ?_ | refine tb_Of.row rfl ?_ | refine tb_Of.fl rfl ?_ | refine tb_Of.an rfl ?_ | refine tb_Of.tr (by assumption) ?_))⟩

set_option maxHeartbeats 4000000 in
set_option maxRecDepth 100000 in
theorem k1_unify {l : Launch} {G : tb_G} (hl : l.stackTraces = false) (n : Nat) (I : tb_I) (a b : Int32) (F : tb_Fr I) : tb_Ok l G M_X11_unify 1 0 0 [.ref 0, .int a, .int b] n tb_shT I (tb_Pg tb_gm (some (.int (-1))) n I) tb_Nx := by
  refine tb_Ok.of hl (by decide +kernel) rfl (tb_c1 rfl) (Nat.le_of_ble_eq_true rfl) ?_
  show tb_At l G M_X11_unify (tb_rm 1 0 0) none _ 0 0 n tb_shT I 0 [some (.ref 0), some (.int a), some (.int b), none, none] []
  refine tb_aload_n (pc := 0) dX11_unify_0 rfl rfl ?_
  refine tb_fR (pc := 1) dX11_unify_1 fl_X11_29 r_0_1 ?_
  refine tb_fR (pc := 4) dX11_unify_4 fl_X11_49 r_5_0 ?_
  refine tb_iload_n (pc := 7) dX11_unify_7 rfl rfl ?_
  refine tb_cV (pc := 8) (k_te_has0 hl _ _ _ (F.at (by decide) z_6_12)) vl_X11_304 dX11_unify_8 o_6 rfl rfl (Nat.le_of_ble_eq_true rfl) ⟨(Nat.le_of_ble_eq_true rfl), (Nat.le_of_ble_eq_true rfl)⟩ rfl rfl (Nat.le_of_ble_eq_true rfl) (Nat.le_of_ble_eq_true rfl) (fun r9 n9 sh9 I9 hq9 => ?_)
  obtain ⟨rfl, rfl, rfl, rfl⟩ := hq9
  refine tb_if_eqT (pc := 11) (tgt := 28) (by decide) dX11_unify_11 (by decide) ?_
  refine tb_aload_n (pc := 28) dX11_unify_28 rfl rfl ?_
  refine tb_iconst (pc := 29) (v := 1) dX11_unify_29 (by decide) ?_
  refine tb_iconst (pc := 30) (v := (-1)) dX11_unify_30 (by decide) ?_
  refine tb_cV (pc := 31) (k_refused1 hl _ _ _) vl_X11_284 dX11_unify_31 o_0 rfl rfl (Nat.le_of_ble_eq_true rfl) ⟨(Nat.le_of_ble_eq_true rfl), (Nat.le_of_ble_eq_true rfl)⟩ rfl rfl (Nat.le_of_ble_eq_true rfl) (Nat.le_of_ble_eq_true rfl) (fun r9 n9 sh9 I9 hq9 => ?_)
  obtain ⟨rfl, rfl, rfl, rfl⟩ := hq9
  exact tb_iret (pc := 34) dX11_unify_34 rfl rfl (Nat.le_of_ble_eq_true rfl) (Nat.le_of_ble_eq_true rfl) ⟨rfl, rfl, rfl, (by repeat (first | exact tb_Of.rf | assumption | refine tb_Of.up rfl ?_ | refine tb_Of.row rfl ?_ | refine tb_Of.fl rfl ?_ | refine tb_Of.an rfl ?_ | refine tb_Of.tr (by assumption) ?_))⟩

set_option maxHeartbeats 4000000 in
set_option maxRecDepth 100000 in
theorem k1_match {l : Launch} {G : tb_G} (hl : l.stackTraces = false) (n : Nat) (I : tb_I) (a b : Int32) (F : tb_Fr I) : tb_Ok l G M_X11_match 1 0 0 [.ref 0, .int a, .int b] n tb_shT I (tb_Pg tb_gm (some (.int (-1))) n I) tb_Nx := by
  refine tb_Ok.of hl (by decide +kernel) rfl (tb_c1 rfl) (Nat.le_of_ble_eq_true rfl) ?_
  show tb_At l G M_X11_match (tb_rm 1 0 0) none _ 0 0 n tb_shT I 0 [some (.ref 0), some (.int a), some (.int b)] []
  refine tb_aload_n (pc := 0) dX11_match_0 rfl rfl ?_
  refine tb_fR (pc := 1) dX11_match_1 fl_X11_29 r_0_1 ?_
  refine tb_fR (pc := 4) dX11_match_4 fl_X11_49 r_5_0 ?_
  refine tb_iload_n (pc := 7) dX11_match_7 rfl rfl ?_
  refine tb_cV (pc := 8) (k_te_has0 hl _ _ _ (F.at (by decide) z_6_12)) vl_X11_304 dX11_match_8 o_6 rfl rfl (Nat.le_of_ble_eq_true rfl) ⟨(Nat.le_of_ble_eq_true rfl), (Nat.le_of_ble_eq_true rfl)⟩ rfl rfl (Nat.le_of_ble_eq_true rfl) (Nat.le_of_ble_eq_true rfl) (fun r9 n9 sh9 I9 hq9 => ?_)
  obtain ⟨rfl, rfl, rfl, rfl⟩ := hq9
  refine tb_if_eqT (pc := 11) (tgt := 28) (by decide) dX11_match_11 (by decide) ?_
  refine tb_aload_n (pc := 28) dX11_match_28 rfl rfl ?_
  refine tb_iconst (pc := 29) (v := 1) dX11_match_29 (by decide) ?_
  refine tb_iconst (pc := 30) (v := (-1)) dX11_match_30 (by decide) ?_
  refine tb_cV (pc := 31) (k_refused1 hl _ _ _) vl_X11_284 dX11_match_31 o_0 rfl rfl (Nat.le_of_ble_eq_true rfl) ⟨(Nat.le_of_ble_eq_true rfl), (Nat.le_of_ble_eq_true rfl)⟩ rfl rfl (Nat.le_of_ble_eq_true rfl) (Nat.le_of_ble_eq_true rfl) (fun r9 n9 sh9 I9 hq9 => ?_)
  obtain ⟨rfl, rfl, rfl, rfl⟩ := hq9
  exact tb_iret (pc := 34) dX11_match_34 rfl rfl (Nat.le_of_ble_eq_true rfl) (Nat.le_of_ble_eq_true rfl) ⟨rfl, rfl, rfl, (by repeat (first | exact tb_Of.rf | assumption | refine tb_Of.up rfl ?_ | refine tb_Of.row rfl ?_ | refine tb_Of.fl rfl ?_ | refine tb_Of.an rfl ?_ | refine tb_Of.tr (by assumption) ?_))⟩

set_option maxHeartbeats 4000000 in
set_option maxRecDepth 100000 in
theorem k1_common {l : Launch} {G : tb_G} (hl : l.stackTraces = false) (n : Nat) (I : tb_I) (a b : Int32) (F : tb_Fr I) : tb_Ok l G M_X11_common 1 0 0 [.ref 0, .int a, .int b] n tb_shT I (tb_Pg tb_gm (some (.int (-1))) n I) tb_Nx := by
  refine tb_Ok.of hl (by decide +kernel) rfl (tb_c1 rfl) (Nat.le_of_ble_eq_true rfl) ?_
  show tb_At l G M_X11_common (tb_rm 1 0 0) none _ 0 0 n tb_shT I 0 [some (.ref 0), some (.int a), some (.int b)] []
  refine tb_aload_n (pc := 0) dX11_common_0 rfl rfl ?_
  refine tb_fR (pc := 1) dX11_common_1 fl_X11_29 r_0_1 ?_
  refine tb_fR (pc := 4) dX11_common_4 fl_X11_49 r_5_0 ?_
  refine tb_iload_n (pc := 7) dX11_common_7 rfl rfl ?_
  refine tb_cV (pc := 8) (k_te_has0 hl _ _ _ (F.at (by decide) z_6_12)) vl_X11_304 dX11_common_8 o_6 rfl rfl (Nat.le_of_ble_eq_true rfl) ⟨(Nat.le_of_ble_eq_true rfl), (Nat.le_of_ble_eq_true rfl)⟩ rfl rfl (Nat.le_of_ble_eq_true rfl) (Nat.le_of_ble_eq_true rfl) (fun r9 n9 sh9 I9 hq9 => ?_)
  obtain ⟨rfl, rfl, rfl, rfl⟩ := hq9
  refine tb_if_eqT (pc := 11) (tgt := 28) (by decide) dX11_common_11 (by decide) ?_
  refine tb_aload_n (pc := 28) dX11_common_28 rfl rfl ?_
  refine tb_iconst (pc := 29) (v := 1) dX11_common_29 (by decide) ?_
  refine tb_iconst (pc := 30) (v := (-1)) dX11_common_30 (by decide) ?_
  refine tb_cV (pc := 31) (k_refused1 hl _ _ _) vl_X11_284 dX11_common_31 o_0 rfl rfl (Nat.le_of_ble_eq_true rfl) ⟨(Nat.le_of_ble_eq_true rfl), (Nat.le_of_ble_eq_true rfl)⟩ rfl rfl (Nat.le_of_ble_eq_true rfl) (Nat.le_of_ble_eq_true rfl) (fun r9 n9 sh9 I9 hq9 => ?_)
  obtain ⟨rfl, rfl, rfl, rfl⟩ := hq9
  exact tb_iret (pc := 34) dX11_common_34 rfl rfl (Nat.le_of_ble_eq_true rfl) (Nat.le_of_ble_eq_true rfl) ⟨rfl, rfl, rfl, (by repeat (first | exact tb_Of.rf | assumption | refine tb_Of.up rfl ?_ | refine tb_Of.row rfl ?_ | refine tb_Of.fl rfl ?_ | refine tb_Of.an rfl ?_ | refine tb_Of.tr (by assumption) ?_))⟩

set_option maxHeartbeats 4000000 in
set_option maxRecDepth 100000 in
theorem k1_normal {l : Launch} {G : tb_G} (hl : l.stackTraces = false) (n : Nat) (I : tb_I) (a : Int32) (F : tb_Fr I) : tb_Ok l G M_X11_normal 1 0 0 [.ref 0, .int a] n tb_shT I (tb_Pg tb_gm (some (.int (-1))) n I) tb_Nx := by
  refine tb_Ok.of hl (by decide +kernel) rfl (tb_c1 rfl) (Nat.le_of_ble_eq_true rfl) ?_
  show tb_At l G M_X11_normal (tb_rm 1 0 0) none _ 0 0 n tb_shT I 0 [some (.ref 0), some (.int a)] []
  refine tb_aload_n (pc := 0) dX11_normal_0 rfl rfl ?_
  refine tb_fR (pc := 1) dX11_normal_1 fl_X11_29 r_0_1 ?_
  refine tb_fR (pc := 4) dX11_normal_4 fl_X11_49 r_5_0 ?_
  refine tb_iload_n (pc := 7) dX11_normal_7 rfl rfl ?_
  refine tb_cV (pc := 8) (k_te_has0 hl _ _ _ (F.at (by decide) z_6_12)) vl_X11_304 dX11_normal_8 o_6 rfl rfl (Nat.le_of_ble_eq_true rfl) ⟨(Nat.le_of_ble_eq_true rfl), (Nat.le_of_ble_eq_true rfl)⟩ rfl rfl (Nat.le_of_ble_eq_true rfl) (Nat.le_of_ble_eq_true rfl) (fun r9 n9 sh9 I9 hq9 => ?_)
  obtain ⟨rfl, rfl, rfl, rfl⟩ := hq9
  refine tb_if_neF (pc := 11) (tgt := 21) (by decide) dX11_normal_11 (by decide) ?_
  refine tb_aload_n (pc := 14) dX11_normal_14 rfl rfl ?_
  refine tb_iconst (pc := 15) (v := 1) dX11_normal_15 (by decide) ?_
  refine tb_iconst (pc := 16) (v := (-1)) dX11_normal_16 (by decide) ?_
  refine tb_cV (pc := 17) (k_refused1 hl _ _ _) vl_X11_284 dX11_normal_17 o_0 rfl rfl (Nat.le_of_ble_eq_true rfl) ⟨(Nat.le_of_ble_eq_true rfl), (Nat.le_of_ble_eq_true rfl)⟩ rfl rfl (Nat.le_of_ble_eq_true rfl) (Nat.le_of_ble_eq_true rfl) (fun r9 n9 sh9 I9 hq9 => ?_)
  obtain ⟨rfl, rfl, rfl, rfl⟩ := hq9
  exact tb_iret (pc := 20) dX11_normal_20 rfl rfl (Nat.le_of_ble_eq_true rfl) (Nat.le_of_ble_eq_true rfl) ⟨rfl, rfl, rfl, (by repeat (first | exact tb_Of.rf | assumption | refine tb_Of.up rfl ?_ | refine tb_Of.row rfl ?_ | refine tb_Of.fl rfl ?_ | refine tb_Of.an rfl ?_ | refine tb_Of.tr (by assumption) ?_))⟩

set_option maxHeartbeats 4000000 in
set_option maxRecDepth 100000 in
theorem k1_put {l : Launch} {G : tb_G} (hl : l.stackTraces = false) (n : Nat) (I : tb_I) (a b c : Int32) (F : tb_Fr I) : tb_Ok l G M_X11_put 1 0 0 [.ref 0, .int a, .int b, .int c] n tb_shT I (tb_Pg tb_gm (some (.int (-1))) n I) tb_Nx := by
  refine tb_Ok.of hl (by decide +kernel) rfl (tb_c1 rfl) (Nat.le_of_ble_eq_true rfl) ?_
  show tb_At l G M_X11_put (tb_rm 1 0 0) none _ 0 0 n tb_shT I 0 [some (.ref 0), some (.int a), some (.int b), some (.int c), none] []
  refine tb_aload_n (pc := 0) dX11_put_0 rfl rfl ?_
  refine tb_fR (pc := 1) dX11_put_1 fl_X11_29 r_0_1 ?_
  refine tb_fR (pc := 4) dX11_put_4 fl_X11_49 r_5_0 ?_
  refine tb_astore (pc := 7) (L2 := [_, _, _, _, _]) dX11_put_7 (by decide) rfl ?_
  refine tb_aload (pc := 9) dX11_put_9 rfl ?_
  refine tb_iload_n (pc := 11) dX11_put_11 rfl rfl ?_
  refine tb_cV (pc := 12) (k_te_has0 hl _ _ _ (F.at (by decide) z_6_12)) vl_X11_304 dX11_put_12 o_6 rfl rfl (Nat.le_of_ble_eq_true rfl) ⟨(Nat.le_of_ble_eq_true rfl), (Nat.le_of_ble_eq_true rfl)⟩ rfl rfl (Nat.le_of_ble_eq_true rfl) (Nat.le_of_ble_eq_true rfl) (fun r9 n9 sh9 I9 hq9 => ?_)
  obtain ⟨rfl, rfl, rfl, rfl⟩ := hq9
  refine tb_if_eqT (pc := 15) (tgt := 37) (by decide) dX11_put_15 (by decide) ?_
  refine tb_aload_n (pc := 37) dX11_put_37 rfl rfl ?_
  refine tb_iconst (pc := 38) (v := 1) dX11_put_38 (by decide) ?_
  refine tb_iconst (pc := 39) (v := (-1)) dX11_put_39 (by decide) ?_
  refine tb_cV (pc := 40) (k_refused1 hl _ _ _) vl_X11_284 dX11_put_40 o_0 rfl rfl (Nat.le_of_ble_eq_true rfl) ⟨(Nat.le_of_ble_eq_true rfl), (Nat.le_of_ble_eq_true rfl)⟩ rfl rfl (Nat.le_of_ble_eq_true rfl) (Nat.le_of_ble_eq_true rfl) (fun r9 n9 sh9 I9 hq9 => ?_)
  obtain ⟨rfl, rfl, rfl, rfl⟩ := hq9
  exact tb_iret (pc := 43) dX11_put_43 rfl rfl (Nat.le_of_ble_eq_true rfl) (Nat.le_of_ble_eq_true rfl) ⟨rfl, rfl, rfl, (by repeat (first | exact tb_Of.rf | assumption | refine tb_Of.up rfl ?_ | refine tb_Of.row rfl ?_ | refine tb_Of.fl rfl ?_ | refine tb_Of.an rfl ?_ | refine tb_Of.tr (by assumption) ?_))⟩

set_option maxHeartbeats 4000000 in
set_option maxRecDepth 100000 in
theorem k1_leave {l : Launch} {G : tb_G} (hl : l.stackTraces = false) (n : Nat) (I : tb_I) (a : Int32) (F : tb_Fr I) : tb_Ok l G M_X11_leave 1 0 0 [.ref 0, .int a] n tb_shT I (tb_Pg tb_gm (some (.int (-1))) n I) tb_Nx := by
  refine tb_Ok.of hl (by decide +kernel) rfl (tb_c1 rfl) (Nat.le_of_ble_eq_true rfl) ?_
  show tb_At l G M_X11_leave (tb_rm 1 0 0) none _ 0 0 n tb_shT I 0 [some (.ref 0), some (.int a), none, none] []
  refine tb_aload_n (pc := 0) dX11_leave_0 rfl rfl ?_
  refine tb_fR (pc := 1) dX11_leave_1 fl_X11_29 r_0_1 ?_
  refine tb_fR (pc := 4) dX11_leave_4 fl_X11_156 r_5_1 ?_
  refine tb_astore_n (pc := 7) (L2 := [_, _, _, _]) dX11_leave_7 rfl (by decide) rfl ?_
  refine tb_aload_n (pc := 8) dX11_leave_8 rfl rfl ?_
  refine tb_fR (pc := 9) dX11_leave_9 fl_X11_29 r_0_1 ?_
  refine tb_fR (pc := 12) dX11_leave_12 fl_X11_49 r_5_0 ?_
  refine tb_iload_n (pc := 15) dX11_leave_15 rfl rfl ?_
  refine tb_cV (pc := 16) (k_te_has0 hl _ _ _ (F.at (by decide) z_6_12)) vl_X11_304 dX11_leave_16 o_6 rfl rfl (Nat.le_of_ble_eq_true rfl) ⟨(Nat.le_of_ble_eq_true rfl), (Nat.le_of_ble_eq_true rfl)⟩ rfl rfl (Nat.le_of_ble_eq_true rfl) (Nat.le_of_ble_eq_true rfl) (fun r9 n9 sh9 I9 hq9 => ?_)
  obtain ⟨rfl, rfl, rfl, rfl⟩ := hq9
  refine tb_if_eqT (pc := 19) (tgt := 30) (by decide) dX11_leave_19 (by decide) ?_
  refine tb_iconst (pc := 30) (v := (-1)) dX11_leave_30 (by decide) ?_
  refine tb_istore_n (pc := 31) (L2 := [_, _, _, _]) dX11_leave_31 rfl (by decide) rfl ?_
  refine tb_iload_n (pc := 32) dX11_leave_32 rfl rfl ?_
  refine tb_iconst (pc := 33) (v := (-1)) dX11_leave_33 (by decide) ?_
  refine tb_icmp_neF (pc := 34) (tgt := 44) (by decide) dX11_leave_34 (by decide) ?_
  refine tb_aload_n (pc := 37) dX11_leave_37 rfl rfl ?_
  refine tb_iconst (pc := 38) (v := 1) dX11_leave_38 (by decide) ?_
  refine tb_iconst (pc := 39) (v := (-1)) dX11_leave_39 (by decide) ?_
  refine tb_cV (pc := 40) (k_refused1 hl _ _ _) vl_X11_284 dX11_leave_40 o_0 rfl rfl (Nat.le_of_ble_eq_true rfl) ⟨(Nat.le_of_ble_eq_true rfl), (Nat.le_of_ble_eq_true rfl)⟩ rfl rfl (Nat.le_of_ble_eq_true rfl) (Nat.le_of_ble_eq_true rfl) (fun r9 n9 sh9 I9 hq9 => ?_)
  obtain ⟨rfl, rfl, rfl, rfl⟩ := hq9
  exact tb_iret (pc := 43) dX11_leave_43 rfl rfl (Nat.le_of_ble_eq_true rfl) (Nat.le_of_ble_eq_true rfl) ⟨rfl, rfl, rfl, (by repeat (first | exact tb_Of.rf | assumption | refine tb_Of.up rfl ?_ | refine tb_Of.row rfl ?_ | refine tb_Of.fl rfl ?_ | refine tb_Of.an rfl ?_ | refine tb_Of.tr (by assumption) ?_))⟩

set_option maxHeartbeats 4000000 in
set_option maxRecDepth 100000 in
theorem k1_enter {l : Launch} {G : tb_G} (hl : l.stackTraces = false) (n : Nat) (I : tb_I) (a : Int32) (F : tb_Fr I) : tb_Ok l G M_X11_enter 1 0 0 [.ref 0, .int a] n tb_shT I (tb_Pg tb_gm (some (.int (-1))) n I) tb_Nx := by
  refine tb_Ok.of hl (by decide +kernel) rfl (tb_c1 rfl) (Nat.le_of_ble_eq_true rfl) ?_
  show tb_At l G M_X11_enter (tb_rm 1 0 0) none _ 0 0 n tb_shT I 0 [some (.ref 0), some (.int a), none] []
  refine tb_aload_n (pc := 0) dX11_enter_0 rfl rfl ?_
  refine tb_fR (pc := 1) dX11_enter_1 fl_X11_29 r_0_1 ?_
  refine tb_fR (pc := 4) dX11_enter_4 fl_X11_156 r_5_1 ?_
  refine tb_astore_n (pc := 7) (L2 := [_, _, _]) dX11_enter_7 rfl (by decide) rfl ?_
  refine tb_aload_n (pc := 8) dX11_enter_8 rfl rfl ?_
  refine tb_fR (pc := 9) dX11_enter_9 fl_X11_29 r_0_1 ?_
  refine tb_fR (pc := 12) dX11_enter_12 fl_X11_49 r_5_0 ?_
  refine tb_iload_n (pc := 15) dX11_enter_15 rfl rfl ?_
  refine tb_cV (pc := 16) (k_te_has0 hl _ _ _ (F.at (by decide) z_6_12)) vl_X11_304 dX11_enter_16 o_6 rfl rfl (Nat.le_of_ble_eq_true rfl) ⟨(Nat.le_of_ble_eq_true rfl), (Nat.le_of_ble_eq_true rfl)⟩ rfl rfl (Nat.le_of_ble_eq_true rfl) (Nat.le_of_ble_eq_true rfl) (fun r9 n9 sh9 I9 hq9 => ?_)
  obtain ⟨rfl, rfl, rfl, rfl⟩ := hq9
  refine tb_if_eqT (pc := 19) (tgt := 42) (by decide) dX11_enter_19 (by decide) ?_
  refine tb_aload_n (pc := 42) dX11_enter_42 rfl rfl ?_
  refine tb_iconst (pc := 43) (v := 1) dX11_enter_43 (by decide) ?_
  refine tb_iconst (pc := 44) (v := (-1)) dX11_enter_44 (by decide) ?_
  refine tb_cV (pc := 45) (k_refused1 hl _ _ _) vl_X11_284 dX11_enter_45 o_0 rfl rfl (Nat.le_of_ble_eq_true rfl) ⟨(Nat.le_of_ble_eq_true rfl), (Nat.le_of_ble_eq_true rfl)⟩ rfl rfl (Nat.le_of_ble_eq_true rfl) (Nat.le_of_ble_eq_true rfl) (fun r9 n9 sh9 I9 hq9 => ?_)
  obtain ⟨rfl, rfl, rfl, rfl⟩ := hq9
  exact tb_iret (pc := 48) dX11_enter_48 rfl rfl (Nat.le_of_ble_eq_true rfl) (Nat.le_of_ble_eq_true rfl) ⟨rfl, rfl, rfl, (by repeat (first | exact tb_Of.rf | assumption | refine tb_Of.up rfl ?_ | refine tb_Of.row rfl ?_ | refine tb_Of.fl rfl ?_ | refine tb_Of.an rfl ?_ | refine tb_Of.tr (by assumption) ?_))⟩

set_option maxHeartbeats 4000000 in
set_option maxRecDepth 100000 in
theorem k1_make {l : Launch} {G : tb_G} (hl : l.stackTraces = false) (n : Nat) (I : tb_I) (a b c d : Int32) (F : tb_Fr I) : tb_Ok l G M_X11_make 1 0 0 [.ref 0, .int a, .int b, .int c, .int d] n tb_shT I (tb_Pg tb_gm (some (.int (-1))) n I) tb_Nx := by
  refine tb_Ok.of hl (by decide +kernel) rfl (tb_c1 rfl) (Nat.le_of_ble_eq_true rfl) ?_
  show tb_At l G M_X11_make (tb_rm 1 0 0) none _ 0 0 n tb_shT I 0 [some (.ref 0), some (.int a), some (.int b), some (.int c), some (.int d)] []
  refine tb_aload_n (pc := 0) dX11_make_0 rfl rfl ?_
  refine tb_fR (pc := 1) dX11_make_1 fl_X11_10 r_0_0 ?_
  refine tb_iload_n (pc := 4) dX11_make_4 rfl rfl ?_
  refine tb_cV (pc := 5) (k_sy_has0 hl _ _ _ (F.at (by decide) z_1_3)) vl_X11_193 dX11_make_5 o_1 rfl rfl (Nat.le_of_ble_eq_true rfl) ⟨(Nat.le_of_ble_eq_true rfl), (Nat.le_of_ble_eq_true rfl)⟩ rfl rfl (Nat.le_of_ble_eq_true rfl) (Nat.le_of_ble_eq_true rfl) (fun r9 n9 sh9 I9 hq9 => ?_)
  obtain ⟨rfl, rfl, rfl, rfl⟩ := hq9
  refine tb_if_eqT (pc := 8) (tgt := 31) (by decide) dX11_make_8 (by decide) ?_
  refine tb_aload_n (pc := 31) dX11_make_31 rfl rfl ?_
  refine tb_iconst (pc := 32) (v := 1) dX11_make_32 (by decide) ?_
  refine tb_iconst (pc := 33) (v := (-1)) dX11_make_33 (by decide) ?_
  refine tb_cV (pc := 34) (k_refused1 hl _ _ _) vl_X11_284 dX11_make_34 o_0 rfl rfl (Nat.le_of_ble_eq_true rfl) ⟨(Nat.le_of_ble_eq_true rfl), (Nat.le_of_ble_eq_true rfl)⟩ rfl rfl (Nat.le_of_ble_eq_true rfl) (Nat.le_of_ble_eq_true rfl) (fun r9 n9 sh9 I9 hq9 => ?_)
  obtain ⟨rfl, rfl, rfl, rfl⟩ := hq9
  exact tb_iret (pc := 37) dX11_make_37 rfl rfl (Nat.le_of_ble_eq_true rfl) (Nat.le_of_ble_eq_true rfl) ⟨rfl, rfl, rfl, (by repeat (first | exact tb_Of.rf | assumption | refine tb_Of.up rfl ?_ | refine tb_Of.row rfl ?_ | refine tb_Of.fl rfl ?_ | refine tb_Of.an rfl ?_ | refine tb_Of.tr (by assumption) ?_))⟩

set_option maxHeartbeats 4000000 in
set_option maxRecDepth 100000 in
theorem k_isRule0 {l : Launch} {G : tb_G} (hl : l.stackTraces = false) (n : Nat) (I : tb_I) (a b : Int32) (F : tb_Fr I) : tb_Ok l G M_X7_isRule 1 0 0 [.ref 155, .int a, .int b] n tb_shT I (tb_Rd (some (.int 0)) n tb_shT I) tb_Nx := by
  refine tb_Ok.of hl (by decide +kernel) rfl (tb_c1 rfl) (Nat.le_of_ble_eq_true rfl) ?_
  show tb_At l G M_X7_isRule (tb_rm 1 0 0) none _ 0 0 n tb_shT I 0 [some (.ref 155), some (.int a), some (.int b)] []
  refine tb_aload_n (pc := 0) dX7_isRule_0 rfl rfl ?_
  refine tb_fR (pc := 1) dX7_isRule_1 fl_X7_21 r_155_1 ?_
  refine tb_iload_n (pc := 4) dX7_isRule_4 rfl rfl ?_
  refine tb_cV (pc := 5) (k_te_has0 hl _ _ _ (F.at (by decide) z_6_12)) vl_X7_40 dX7_isRule_5 o_6 rfl rfl (Nat.le_of_ble_eq_true rfl) ⟨(Nat.le_of_ble_eq_true rfl), (Nat.le_of_ble_eq_true rfl)⟩ rfl rfl (Nat.le_of_ble_eq_true rfl) (Nat.le_of_ble_eq_true rfl) (fun r9 n9 sh9 I9 hq9 => ?_)
  obtain ⟨rfl, rfl, rfl, rfl⟩ := hq9
  refine tb_if_eqT (pc := 8) (tgt := 77) (by decide) dX7_isRule_8 (by decide) ?_
  refine tb_iconst (pc := 77) (v := 0) dX7_isRule_77 (by decide) ?_
  exact tb_iret (pc := 78) dX7_isRule_78 rfl rfl (Nat.le_of_ble_eq_true rfl) (Nat.le_of_ble_eq_true rfl) ⟨rfl, rfl, rfl, rfl⟩

set_option maxHeartbeats 4000000 in
set_option maxRecDepth 100000 in
theorem k1_rules {l : Launch} {G : tb_G} (hl : l.stackTraces = false) (n : Nat) (I : tb_I) (a b : Int32) (F : tb_Fr I) : tb_Ok l G M_X11_rules 2 0 0 [.ref 0, .int a, .int b] n tb_shT I (tb_Pg tb_gm (some (.int (-1))) n I) tb_Nx := by
  refine tb_Ok.of hl (by decide +kernel) rfl (tb_c1 rfl) (Nat.le_of_ble_eq_true rfl) ?_
  show tb_At l G M_X11_rules (tb_rm 2 0 0) none _ 0 0 n tb_shT I 0 [some (.ref 0), some (.int a), some (.int b), none] []
  refine tb_aload_n (pc := 0) dX11_rules_0 rfl rfl ?_
  refine tb_fR (pc := 1) dX11_rules_1 fl_X11_29 r_0_1 ?_
  refine tb_fR (pc := 4) dX11_rules_4 fl_X11_156 r_5_1 ?_
  refine tb_astore_n (pc := 7) (L2 := [_, _, _, _]) dX11_rules_7 rfl (by decide) rfl ?_
  refine tb_aload_n (pc := 8) dX11_rules_8 rfl rfl ?_
  refine tb_fR (pc := 9) dX11_rules_9 fl_X11_167 r_18_0 ?_
  refine tb_iconst (pc := 12) (v := 4) dX11_rules_12 (by decide) ?_
  refine tb_aLv (pc := 13) (j := 4) (v := 0) dX11_rules_13 a_19 (by decide) (by decide) (F.at (by decide) z_19_4) ?_
  refine tb_bipush (pc := 14) (v := 8) dX11_rules_14 (by decide) ?_
  refine tb_icmp_geF (pc := 16) (tgt := 31) (by decide) dX11_rules_16 (by decide) ?_
  refine tb_aload_n (pc := 19) dX11_rules_19 rfl rfl ?_
  refine tb_fR (pc := 20) dX11_rules_20 fl_X11_81 r_0_9 ?_
  refine tb_iload_n (pc := 23) dX11_rules_23 rfl rfl ?_
  refine tb_iload_n (pc := 24) dX11_rules_24 rfl rfl ?_
  refine tb_cV (pc := 25) (k_isRule0 hl _ _ _ _ F) vl_X11_353 dX11_rules_25 o_155 rfl rfl (Nat.le_of_ble_eq_true rfl) ⟨(Nat.le_of_ble_eq_true rfl), (Nat.le_of_ble_eq_true rfl)⟩ rfl rfl (Nat.le_of_ble_eq_true rfl) (Nat.le_of_ble_eq_true rfl) (fun r9 n9 sh9 I9 hq9 => ?_)
  obtain ⟨rfl, rfl, rfl, rfl⟩ := hq9
  refine tb_if_neF (pc := 28) (tgt := 38) (by decide) dX11_rules_28 (by decide) ?_
  refine tb_aload_n (pc := 31) dX11_rules_31 rfl rfl ?_
  refine tb_iconst (pc := 32) (v := 1) dX11_rules_32 (by decide) ?_
  refine tb_iconst (pc := 33) (v := (-1)) dX11_rules_33 (by decide) ?_
  refine tb_cV (pc := 34) (k_refused1 hl _ _ _) vl_X11_284 dX11_rules_34 o_0 rfl rfl (Nat.le_of_ble_eq_true rfl) ⟨(Nat.le_of_ble_eq_true rfl), (Nat.le_of_ble_eq_true rfl)⟩ rfl rfl (Nat.le_of_ble_eq_true rfl) (Nat.le_of_ble_eq_true rfl) (fun r9 n9 sh9 I9 hq9 => ?_)
  obtain ⟨rfl, rfl, rfl, rfl⟩ := hq9
  exact tb_iret (pc := 37) dX11_rules_37 rfl rfl (Nat.le_of_ble_eq_true rfl) (Nat.le_of_ble_eq_true rfl) ⟨rfl, rfl, rfl, (by repeat (first | exact tb_Of.rf | assumption | refine tb_Of.up rfl ?_ | refine tb_Of.row rfl ?_ | refine tb_Of.fl rfl ?_ | refine tb_Of.an rfl ?_ | refine tb_Of.tr (by assumption) ?_))⟩

set_option maxHeartbeats 4000000 in
set_option maxRecDepth 100000 in
theorem k1_term {l : Launch} {G : tb_G} (hl : l.stackTraces = false) (n : Nat) (I : tb_I) (a b : Int32) (F : tb_Fr I) : tb_Ok l G M_X11_term 7 1 6 [.ref 0, .int a, .int b] n tb_shT I (fun _ _ _ _ => False) (tb_Xe tb_gm "java/util/NoSuchElementException" n I) := by
  refine tb_Ok.of hl (by decide +kernel) rfl (tb_c1 rfl) (Nat.le_of_ble_eq_true rfl) ?_
  show tb_At l G M_X11_term (tb_rm 7 1 6) none _ 0 0 n tb_shT I 0 [some (.ref 0), some (.int a), some (.int b), none] []
  refine tb_aload_n (pc := 0) dX11_term_0 rfl rfl ?_
  refine tb_iload_n (pc := 1) dX11_term_1 rfl rfl ?_
  refine tb_cVX (pc := 2) (k_needTerm0 hl _ _ _ (F.at (by decide) z_6_12)) vl_X11_216 dX11_term_2 o_0 rfl rfl (Nat.le_of_ble_eq_true rfl) ⟨(Nat.le_of_ble_eq_true rfl), (Nat.le_of_ble_eq_true rfl)⟩ rfl rfl (Nat.le_of_ble_eq_true rfl) (Nat.le_of_ble_eq_true rfl) (fun r9 n9 sh9 I9 hq9 => ?_) (fun E9 n9 sh9 I9 hx9 => ?_)
  · exact (hq9).elim
  · exact tb_out rfl (Nat.le_of_ble_eq_true rfl) (Nat.le_of_ble_eq_true rfl) ⟨hx9.1, hx9.2.1, hx9.2.2.1, hx9.2.2.2.mono (fun _ _ => rfl)⟩

set_option maxHeartbeats 4000000 in
set_option maxRecDepth 100000 in
theorem k1_argument {l : Launch} {G : tb_G} (hl : l.stackTraces = false) (n : Nat) (I : tb_I) (a b : Int32) (F : tb_Fr I) : tb_Ok l G M_X11_argument 7 1 6 [.ref 0, .int a, .int b] n tb_shT I (fun _ _ _ _ => False) (tb_Xe tb_gm "java/util/NoSuchElementException" n I) := by
  refine tb_Ok.of hl (by decide +kernel) rfl (tb_c1 rfl) (Nat.le_of_ble_eq_true rfl) ?_
  show tb_At l G M_X11_argument (tb_rm 7 1 6) none _ 0 0 n tb_shT I 0 [some (.ref 0), some (.int a), some (.int b)] []
  refine tb_aload_n (pc := 0) dX11_argument_0 rfl rfl ?_
  refine tb_iload_n (pc := 1) dX11_argument_1 rfl rfl ?_
  refine tb_cVX (pc := 2) (k_needTerm0 hl _ _ _ (F.at (by decide) z_6_12)) vl_X11_216 dX11_argument_2 o_0 rfl rfl (Nat.le_of_ble_eq_true rfl) ⟨(Nat.le_of_ble_eq_true rfl), (Nat.le_of_ble_eq_true rfl)⟩ rfl rfl (Nat.le_of_ble_eq_true rfl) (Nat.le_of_ble_eq_true rfl) (fun r9 n9 sh9 I9 hq9 => ?_) (fun E9 n9 sh9 I9 hx9 => ?_)
  · exact (hq9).elim
  · exact tb_out rfl (Nat.le_of_ble_eq_true rfl) (Nat.le_of_ble_eq_true rfl) ⟨hx9.1, hx9.2.1, hx9.2.2.1, hx9.2.2.2.mono (fun _ _ => rfl)⟩

set_option maxHeartbeats 4000000 in
set_option maxRecDepth 100000 in
theorem k1_place {l : Launch} {G : tb_G} (hl : l.stackTraces = false) (n : Nat) (I : tb_I) (a b : Int32) (F : tb_Fr I) : tb_Ok l G M_X11_place 7 1 6 [.ref 0, .int a, .int b] n tb_shT I (fun _ _ _ _ => False) (tb_Xe tb_gm "java/util/NoSuchElementException" n I) := by
  refine tb_Ok.of hl (by decide +kernel) rfl (tb_c1 rfl) (Nat.le_of_ble_eq_true rfl) ?_
  show tb_At l G M_X11_place (tb_rm 7 1 6) none _ 0 0 n tb_shT I 0 [some (.ref 0), some (.int a), some (.int b)] []
  refine tb_aload_n (pc := 0) dX11_place_0 rfl rfl ?_
  refine tb_iload_n (pc := 1) dX11_place_1 rfl rfl ?_
  refine tb_cVX (pc := 2) (k_needTerm0 hl _ _ _ (F.at (by decide) z_6_12)) vl_X11_216 dX11_place_2 o_0 rfl rfl (Nat.le_of_ble_eq_true rfl) ⟨(Nat.le_of_ble_eq_true rfl), (Nat.le_of_ble_eq_true rfl)⟩ rfl rfl (Nat.le_of_ble_eq_true rfl) (Nat.le_of_ble_eq_true rfl) (fun r9 n9 sh9 I9 hq9 => ?_) (fun E9 n9 sh9 I9 hx9 => ?_)
  · exact (hq9).elim
  · exact tb_out rfl (Nat.le_of_ble_eq_true rfl) (Nat.le_of_ble_eq_true rfl) ⟨hx9.1, hx9.2.1, hx9.2.2.1, hx9.2.2.2.mono (fun _ _ => rfl)⟩

set_option maxHeartbeats 4000000 in
set_option maxRecDepth 100000 in
theorem k1_order {l : Launch} {G : tb_G} (hl : l.stackTraces = false) (n : Nat) (I : tb_I) (a b : Int32) (F : tb_Fr I) : tb_Ok l G M_X11_order 7 1 6 [.ref 0, .int a, .int b] n tb_shT I (fun _ _ _ _ => False) (tb_Xe tb_gm "java/util/NoSuchElementException" n I) := by
  refine tb_Ok.of hl (by decide +kernel) rfl (tb_c1 rfl) (Nat.le_of_ble_eq_true rfl) ?_
  show tb_At l G M_X11_order (tb_rm 7 1 6) none _ 0 0 n tb_shT I 0 [some (.ref 0), some (.int a), some (.int b)] []
  refine tb_aload_n (pc := 0) dX11_order_0 rfl rfl ?_
  refine tb_iload_n (pc := 1) dX11_order_1 rfl rfl ?_
  refine tb_cVX (pc := 2) (k_needTerm0 hl _ _ _ (F.at (by decide) z_6_12)) vl_X11_216 dX11_order_2 o_0 rfl rfl (Nat.le_of_ble_eq_true rfl) ⟨(Nat.le_of_ble_eq_true rfl), (Nat.le_of_ble_eq_true rfl)⟩ rfl rfl (Nat.le_of_ble_eq_true rfl) (Nat.le_of_ble_eq_true rfl) (fun r9 n9 sh9 I9 hq9 => ?_) (fun E9 n9 sh9 I9 hx9 => ?_)
  · exact (hq9).elim
  · exact tb_out rfl (Nat.le_of_ble_eq_true rfl) (Nat.le_of_ble_eq_true rfl) ⟨hx9.1, hx9.2.1, hx9.2.2.1, hx9.2.2.2.mono (fun _ _ => rfl)⟩

set_option maxHeartbeats 4000000 in
set_option maxRecDepth 100000 in
theorem k1_find {l : Launch} {G : tb_G} (hl : l.stackTraces = false) (n : Nat) (I : tb_I) (a b : Int32) (F : tb_Fr I) : tb_Ok l G M_X11_find 7 1 6 [.ref 0, .int a, .int b] n tb_shT I (fun _ _ _ _ => False) (tb_Xe tb_gm "java/util/NoSuchElementException" n I) := by
  refine tb_Ok.of hl (by decide +kernel) rfl (tb_c1 rfl) (Nat.le_of_ble_eq_true rfl) ?_
  show tb_At l G M_X11_find (tb_rm 7 1 6) none _ 0 0 n tb_shT I 0 [some (.ref 0), some (.int a), some (.int b)] []
  refine tb_aload_n (pc := 0) dX11_find_0 rfl rfl ?_
  refine tb_iload_n (pc := 1) dX11_find_1 rfl rfl ?_
  refine tb_cVX (pc := 2) (k_needTerm0 hl _ _ _ (F.at (by decide) z_6_12)) vl_X11_216 dX11_find_2 o_0 rfl rfl (Nat.le_of_ble_eq_true rfl) ⟨(Nat.le_of_ble_eq_true rfl), (Nat.le_of_ble_eq_true rfl)⟩ rfl rfl (Nat.le_of_ble_eq_true rfl) (Nat.le_of_ble_eq_true rfl) (fun r9 n9 sh9 I9 hq9 => ?_) (fun E9 n9 sh9 I9 hx9 => ?_)
  · exact (hq9).elim
  · exact tb_out rfl (Nat.le_of_ble_eq_true rfl) (Nat.le_of_ble_eq_true rfl) ⟨hx9.1, hx9.2.1, hx9.2.2.1, hx9.2.2.2.mono (fun _ _ => rfl)⟩

set_option maxHeartbeats 4000000 in
set_option maxRecDepth 100000 in
theorem k1_symbol {l : Launch} {G : tb_G} (hl : l.stackTraces = false) (n : Nat) (I : tb_I) (a b : Int32) (F : tb_Fr I) : tb_Ok l G M_X11_symbol 6 1 6 [.ref 0, .int a, .int b] n tb_shT I (fun _ _ _ _ => False) (tb_Xe tb_gm "java/util/NoSuchElementException" n I) := by
  refine tb_Ok.of hl (by decide +kernel) rfl (tb_c1 rfl) (Nat.le_of_ble_eq_true rfl) ?_
  show tb_At l G M_X11_symbol (tb_rm 6 1 6) none _ 0 0 n tb_shT I 0 [some (.ref 0), some (.int a), some (.int b)] []
  refine tb_aload_n (pc := 0) dX11_symbol_0 rfl rfl ?_
  refine tb_fR (pc := 1) dX11_symbol_1 fl_X11_10 r_0_0 ?_
  refine tb_iload_n (pc := 4) dX11_symbol_4 rfl rfl ?_
  refine tb_cV (pc := 5) (k_sy_has0 hl _ _ _ (F.at (by decide) z_1_3)) vl_X11_193 dX11_symbol_5 o_1 rfl rfl (Nat.le_of_ble_eq_true rfl) ⟨(Nat.le_of_ble_eq_true rfl), (Nat.le_of_ble_eq_true rfl)⟩ rfl rfl (Nat.le_of_ble_eq_true rfl) (Nat.le_of_ble_eq_true rfl) (fun r9 n9 sh9 I9 hq9 => ?_)
  obtain ⟨rfl, rfl, rfl, rfl⟩ := hq9
  refine tb_if_neF (pc := 8) (tgt := 21) (by decide) dX11_symbol_8 (by decide) ?_
  exact tb_throwN (pc := 11) (text := "no such symbol") th_X11_188_192 (by decide +kernel) rfl dX11_symbol_11 dX11_symbol_14 dX11_symbol_15 dX11_symbol_17 dX11_symbol_20 (Nat.le_of_ble_eq_true rfl) (Nat.le_of_ble_eq_true rfl) (Nat.le_of_ble_eq_true rfl) (Nat.le_of_ble_eq_true rfl) (Nat.le_of_ble_eq_true rfl) (Nat.le_of_ble_eq_true rfl) ⟨rfl, rfl, rfl, (by repeat (first | exact tb_Of.rf | assumption | refine tb_Of.up rfl ?_ | refine tb_Of.row rfl ?_ | refine tb_Of.fl rfl ?_ | refine tb_Of.an rfl ?_ | refine tb_Of.tr (by assumption) ?_))⟩

set_option maxHeartbeats 4000000 in
set_option maxRecDepth 100000 in
theorem k1_rule {l : Launch} {G : tb_G} (hl : l.stackTraces = false) (n : Nat) (I : tb_I) (a b : Int32) (F : tb_Fr I) : tb_Ok l G M_X11_rule 6 1 6 [.ref 0, .int a, .int b] n tb_shT I (fun _ _ _ _ => False) (tb_Xe tb_gm "java/util/NoSuchElementException" n I) := by
  refine tb_Ok.of hl (by decide +kernel) rfl (tb_c1 rfl) (Nat.le_of_ble_eq_true rfl) ?_
  show tb_At l G M_X11_rule (tb_rm 6 1 6) none _ 0 0 n tb_shT I 0 [some (.ref 0), some (.int a), some (.int b), none] []
  refine tb_aload_n (pc := 0) dX11_rule_0 rfl rfl ?_
  refine tb_fR (pc := 1) dX11_rule_1 fl_X11_29 r_0_1 ?_
  refine tb_fR (pc := 4) dX11_rule_4 fl_X11_156 r_5_1 ?_
  refine tb_fR (pc := 7) dX11_rule_7 fl_X11_167 r_18_0 ?_
  refine tb_astore_n (pc := 10) (L2 := [_, _, _, _]) dX11_rule_10 rfl (by decide) rfl ?_
  refine tb_iload_n (pc := 11) dX11_rule_11 rfl rfl ?_
  refine tb_if_lt (pc := 12) (tgt := 31) dX11_rule_12 (by decide) (fun h_12 => ?_) (fun h_12 => ?_)
  · exact tb_throwNW (pc := 31) (text := "no such rule or side") th_X11_188_192 (by decide +kernel) rfl dX11_rule_31 dX11_rule_34 dX11_rule_35 dX11_rule_38 dX11_rule_41 (Nat.le_of_ble_eq_true rfl) (Nat.le_of_ble_eq_true rfl) (Nat.le_of_ble_eq_true rfl) (Nat.le_of_ble_eq_true rfl) (Nat.le_of_ble_eq_true rfl) (Nat.le_of_ble_eq_true rfl) ⟨rfl, rfl, rfl, (by repeat (first | exact tb_Of.rf | assumption | refine tb_Of.up rfl ?_ | refine tb_Of.row rfl ?_ | refine tb_Of.fl rfl ?_ | refine tb_Of.an rfl ?_ | refine tb_Of.tr (by assumption) ?_))⟩
  · refine tb_iload_n (pc := 15) dX11_rule_15 rfl rfl ?_
    refine tb_aload_n (pc := 16) dX11_rule_16 rfl rfl ?_
    refine tb_iconst (pc := 17) (v := 4) dX11_rule_17 (by decide) ?_
    refine tb_aLv (pc := 18) (j := 4) (v := 0) dX11_rule_18 a_19 (by decide) (by decide) (F.at (by decide) z_19_4) ?_
    refine tb_icmp_geT (pc := 19) (tgt := 31) (Int32.not_lt.mp h_12) dX11_rule_19 (by decide) ?_
    exact tb_throwNW (pc := 31) (text := "no such rule or side") th_X11_188_192 (by decide +kernel) rfl dX11_rule_31 dX11_rule_34 dX11_rule_35 dX11_rule_38 dX11_rule_41 (Nat.le_of_ble_eq_true rfl) (Nat.le_of_ble_eq_true rfl) (Nat.le_of_ble_eq_true rfl) (Nat.le_of_ble_eq_true rfl) (Nat.le_of_ble_eq_true rfl) (Nat.le_of_ble_eq_true rfl) ⟨rfl, rfl, rfl, (by repeat (first | exact tb_Of.rf | assumption | refine tb_Of.up rfl ?_ | refine tb_Of.row rfl ?_ | refine tb_Of.fl rfl ?_ | refine tb_Of.an rfl ?_ | refine tb_Of.tr (by assumption) ?_))⟩

set_option maxHeartbeats 4000000 in
set_option maxRecDepth 100000 in
theorem k1_memo {l : Launch} {G : tb_G} (hl : l.stackTraces = false) (n : Nat) (I : tb_I) (a b : Int32) (F : tb_Fr I) : tb_Ok l G M_X11_memo 6 1 6 [.ref 0, .int a, .int b] n tb_shT I (fun _ _ _ _ => False) (tb_Xe tb_gm "java/util/NoSuchElementException" n I) := by
  refine tb_Ok.of hl (by decide +kernel) rfl (tb_c1 rfl) (Nat.le_of_ble_eq_true rfl) ?_
  show tb_At l G M_X11_memo (tb_rm 6 1 6) none _ 0 0 n tb_shT I 0 [some (.ref 0), some (.int a), some (.int b), none] []
  refine tb_aload_n (pc := 0) dX11_memo_0 rfl rfl ?_
  refine tb_fR (pc := 1) dX11_memo_1 fl_X11_29 r_0_1 ?_
  refine tb_fR (pc := 4) dX11_memo_4 fl_X11_156 r_5_1 ?_
  refine tb_fR (pc := 7) dX11_memo_7 fl_X11_167 r_18_0 ?_
  refine tb_astore_n (pc := 10) (L2 := [_, _, _, _]) dX11_memo_10 rfl (by decide) rfl ?_
  refine tb_iload_n (pc := 11) dX11_memo_11 rfl rfl ?_
  refine tb_if_lt (pc := 12) (tgt := 32) dX11_memo_12 (by decide) (fun h_12 => ?_) (fun h_12 => ?_)
  · exact tb_throwNW (pc := 32) (text := "no such memo or side") th_X11_188_192 (by decide +kernel) rfl dX11_memo_32 dX11_memo_35 dX11_memo_36 dX11_memo_39 dX11_memo_42 (Nat.le_of_ble_eq_true rfl) (Nat.le_of_ble_eq_true rfl) (Nat.le_of_ble_eq_true rfl) (Nat.le_of_ble_eq_true rfl) (Nat.le_of_ble_eq_true rfl) (Nat.le_of_ble_eq_true rfl) ⟨rfl, rfl, rfl, (by repeat (first | exact tb_Of.rf | assumption | refine tb_Of.up rfl ?_ | refine tb_Of.row rfl ?_ | refine tb_Of.fl rfl ?_ | refine tb_Of.an rfl ?_ | refine tb_Of.tr (by assumption) ?_))⟩
  · refine tb_iload_n (pc := 15) dX11_memo_15 rfl rfl ?_
    refine tb_aload_n (pc := 16) dX11_memo_16 rfl rfl ?_
    refine tb_bipush (pc := 17) (v := 6) dX11_memo_17 (by decide) ?_
    refine tb_aLv (pc := 19) (j := 6) (v := 0) dX11_memo_19 a_19 (by decide) (by decide) (F.at (by decide) z_19_6) ?_
    refine tb_icmp_geT (pc := 20) (tgt := 32) (Int32.not_lt.mp h_12) dX11_memo_20 (by decide) ?_
    exact tb_throwNW (pc := 32) (text := "no such memo or side") th_X11_188_192 (by decide +kernel) rfl dX11_memo_32 dX11_memo_35 dX11_memo_36 dX11_memo_39 dX11_memo_42 (Nat.le_of_ble_eq_true rfl) (Nat.le_of_ble_eq_true rfl) (Nat.le_of_ble_eq_true rfl) (Nat.le_of_ble_eq_true rfl) (Nat.le_of_ble_eq_true rfl) (Nat.le_of_ble_eq_true rfl) ⟨rfl, rfl, rfl, (by repeat (first | exact tb_Of.rf | assumption | refine tb_Of.up rfl ?_ | refine tb_Of.row rfl ?_ | refine tb_Of.fl rfl ?_ | refine tb_Of.an rfl ?_ | refine tb_Of.tr (by assumption) ?_))⟩

set_option maxHeartbeats 4000000 in
set_option maxRecDepth 100000 in
theorem k1_entry {l : Launch} {G : tb_G} (hl : l.stackTraces = false) (n : Nat) (I : tb_I) (a : Int32) (F : tb_Fr I) : tb_Ok l G M_X11_entry 6 1 6 [.ref 0, .int a] n tb_shT I (fun _ _ _ _ => False) (tb_Xe tb_gm "java/util/NoSuchElementException" n I) := by
  refine tb_Ok.of hl (by decide +kernel) rfl (tb_c1 rfl) (Nat.le_of_ble_eq_true rfl) ?_
  show tb_At l G M_X11_entry (tb_rm 6 1 6) none _ 0 0 n tb_shT I 0 [some (.ref 0), some (.int a), none] []
  refine tb_aload_n (pc := 0) dX11_entry_0 rfl rfl ?_
  refine tb_fR (pc := 1) dX11_entry_1 fl_X11_29 r_0_1 ?_
  refine tb_fR (pc := 4) dX11_entry_4 fl_X11_156 r_5_1 ?_
  refine tb_fR (pc := 7) dX11_entry_7 fl_X11_167 r_18_0 ?_
  refine tb_astore_n (pc := 10) (L2 := [_, _, _]) dX11_entry_10 rfl (by decide) rfl ?_
  refine tb_iload_n (pc := 11) dX11_entry_11 rfl rfl ?_
  refine tb_if_lt (pc := 12) (tgt := 22) dX11_entry_12 (by decide) (fun h_12 => ?_) (fun h_12 => ?_)
  · exact tb_throwNW (pc := 22) (text := "no such entry") th_X11_188_192 (by decide +kernel) rfl dX11_entry_22 dX11_entry_25 dX11_entry_26 dX11_entry_29 dX11_entry_32 (Nat.le_of_ble_eq_true rfl) (Nat.le_of_ble_eq_true rfl) (Nat.le_of_ble_eq_true rfl) (Nat.le_of_ble_eq_true rfl) (Nat.le_of_ble_eq_true rfl) (Nat.le_of_ble_eq_true rfl) ⟨rfl, rfl, rfl, (by repeat (first | exact tb_Of.rf | assumption | refine tb_Of.up rfl ?_ | refine tb_Of.row rfl ?_ | refine tb_Of.fl rfl ?_ | refine tb_Of.an rfl ?_ | refine tb_Of.tr (by assumption) ?_))⟩
  · refine tb_iload_n (pc := 15) dX11_entry_15 rfl rfl ?_
    refine tb_aload_n (pc := 16) dX11_entry_16 rfl rfl ?_
    refine tb_iconst (pc := 17) (v := 5) dX11_entry_17 (by decide) ?_
    refine tb_aLv (pc := 18) (j := 5) (v := 0) dX11_entry_18 a_19 (by decide) (by decide) (F.at (by decide) z_19_5) ?_
    refine tb_icmp_ltF (pc := 19) (tgt := 33) h_12 dX11_entry_19 (by decide) ?_
    exact tb_throwNW (pc := 22) (text := "no such entry") th_X11_188_192 (by decide +kernel) rfl dX11_entry_22 dX11_entry_25 dX11_entry_26 dX11_entry_29 dX11_entry_32 (Nat.le_of_ble_eq_true rfl) (Nat.le_of_ble_eq_true rfl) (Nat.le_of_ble_eq_true rfl) (Nat.le_of_ble_eq_true rfl) (Nat.le_of_ble_eq_true rfl) (Nat.le_of_ble_eq_true rfl) ⟨rfl, rfl, rfl, (by repeat (first | exact tb_Of.rf | assumption | refine tb_Of.up rfl ?_ | refine tb_Of.row rfl ?_ | refine tb_Of.fl rfl ?_ | refine tb_Of.an rfl ?_ | refine tb_Of.tr (by assumption) ?_))⟩

set_option maxHeartbeats 4000000 in
set_option maxRecDepth 100000 in
theorem k1_undoLast {l : Launch} {G : tb_G} (hl : l.stackTraces = false) (n : Nat) (I : tb_I)  (F : tb_Fr I) : tb_Ok l G M_X0_undoLast 0 0 0 [.ref 5] n tb_shT I (tb_Rd (some (.int (-1))) n tb_shT I) tb_Nx := by
  refine tb_Ok.of hl (by decide +kernel) rfl (tb_c1 rfl) (Nat.le_of_ble_eq_true rfl) ?_
  show tb_At l G M_X0_undoLast (tb_rm 0 0 0) none _ 0 0 n tb_shT I 0 [some (.ref 5)] []
  refine tb_aload_n (pc := 0) dX0_undoLast_0 rfl rfl ?_
  refine tb_fIv (pc := 1) (v := 0) dX0_undoLast_1 fl_X0_29 i_5_6 (F.at (by decide) z_5_6) ?_
  refine tb_if_neF (pc := 4) (tgt := 9) (by decide) dX0_undoLast_4 (by decide) ?_
  refine tb_iconst (pc := 7) (v := (-1)) dX0_undoLast_7 (by decide) ?_
  exact tb_iret (pc := 8) dX0_undoLast_8 rfl rfl (Nat.le_of_ble_eq_true rfl) (Nat.le_of_ble_eq_true rfl) ⟨rfl, rfl, rfl, rfl⟩

set_option maxHeartbeats 4000000 in
set_option maxRecDepth 100000 in
theorem k1_undo {l : Launch} {G : tb_G} (hl : l.stackTraces = false) (n : Nat) (I : tb_I)  (F : tb_Fr I) : tb_Ok l G M_X11_undo 1 0 0 [.ref 0] n tb_shT I (tb_Pg tb_gm (some (.int (-1))) n I) tb_Nx := by
  refine tb_Ok.of hl (by decide +kernel) rfl (tb_c1 rfl) (Nat.le_of_ble_eq_true rfl) ?_
  show tb_At l G M_X11_undo (tb_rm 1 0 0) none _ 0 0 n tb_shT I 0 [some (.ref 0)] []
  refine tb_aload_n (pc := 0) dX11_undo_0 rfl rfl ?_
  refine tb_fR (pc := 1) dX11_undo_1 fl_X11_29 r_0_1 ?_
  refine tb_cV (pc := 4) (k1_undoLast hl _ _ F) vl_X11_375 dX11_undo_4 o_5 rfl rfl (Nat.le_of_ble_eq_true rfl) ⟨(Nat.le_of_ble_eq_true rfl), (Nat.le_of_ble_eq_true rfl)⟩ rfl rfl (Nat.le_of_ble_eq_true rfl) (Nat.le_of_ble_eq_true rfl) (fun r9 n9 sh9 I9 hq9 => ?_)
  obtain ⟨rfl, rfl, rfl, rfl⟩ := hq9
  exact tb_iret (pc := 7) dX11_undo_7 rfl rfl (Nat.le_of_ble_eq_true rfl) (Nat.le_of_ble_eq_true rfl) ⟨rfl, rfl, rfl, tb_Of.rf⟩

set_option maxHeartbeats 4000000 in
set_option maxRecDepth 100000 in
theorem k1_restore {l : Launch} {G : tb_G} (hl : l.stackTraces = false) (n : Nat) (I : tb_I)  (F : tb_Fr I) : tb_Ok l G M_X11_restore 0 0 0 [.ref 0] n tb_shT I (tb_Pg tb_gm (some (.int 0)) n I) tb_Nx := by
  refine tb_Ok.of hl (by decide +kernel) rfl (tb_c1 rfl) (Nat.le_of_ble_eq_true rfl) ?_
  show tb_At l G M_X11_restore (tb_rm 0 0 0) none _ 0 0 n tb_shT I 0 [some (.ref 0)] []
  refine tb_aload_n (pc := 0) dX11_restore_0 rfl rfl ?_
  refine tb_fIv (pc := 1) (v := 0) dX11_restore_1 fl_X11_114 i_0_15 (F.at (by decide) z_0_15) ?_
  refine tb_if_neF (pc := 4) (tgt := 9) (by decide) dX11_restore_4 (by decide) ?_
  refine tb_iconst (pc := 7) (v := 0) dX11_restore_7 (by decide) ?_
  exact tb_iret (pc := 8) dX11_restore_8 rfl rfl (Nat.le_of_ble_eq_true rfl) (Nat.le_of_ble_eq_true rfl) ⟨rfl, rfl, rfl, tb_Of.rf⟩

