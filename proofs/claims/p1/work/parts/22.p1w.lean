/-! ===== the class's calls on a fresh object, in one form ===== -/
theorem zv_of {l : Launch} {G : tb_G} {y : tb_Mt} {d : Nat} {as : List Value} {n : Nat} {I : tb_I} {v : Int32} {z : Int} (h : tb_Ok l G y d 0 0 as n tb_shT I (tb_Pg tb_gm (some (.int v)) n I) tb_Nx) (hv : v = Int32.ofInt z) (hr : -2147483648 ≤ z ∧ z < 2147483648) : tz_Ok l G y d 0 0 as n (zj I) (zqi (fun z' J' => (z' = z) ∧ zOf (zfrom 164) J' (zj I))) zN := fun ok => by
  rw [zI_zj]
  refine h.mono (fun r n' sh' I' h9 => ?_) (fun _ _ _ _ h => h.elim)
  obtain ⟨rfl, rfl, rfl, h4⟩ := h9
  exact ⟨zjn I' (zj I), rfl, (zI_zjn _ _).symm, zok_zjn ok, Nat.le_refl _, Nat.le_refl _, z, by rw [hv]; rfl, hr, rfl, zOf_zjn ok (by rw [zI_zj]; exact h4)⟩
theorem zx_of {l : Launch} {G : tb_G} {y : tb_Mt} {d mc ms : Nat} {as : List Value} {n : Nat} {I : tb_I} {E : String} (h : tb_Ok l G y d mc ms as n tb_shT I (fun _ _ _ _ => False) (tb_Xe tb_gm E n I)) : tz_Ok l G y d mc ms as n (zj I) (fun _ _ => False) (fun E' J' => E' = E ∧ zOf (zfrom 164) J' (zj I)) := fun ok => by
  rw [zI_zj]
  refine h.mono (fun r n' sh' I' h9 => h9.elim) (fun E' n' sh' I' h9 => ?_)
  obtain ⟨rfl, rfl, rfl, h4⟩ := h9
  exact ⟨zjn I' (zj I), rfl, (zI_zjn _ _).symm, zok_zjn ok, Nat.le_refl _, Nat.le_add_right _ _, rfl, zOf_zjn ok (by rw [zI_zj]; exact h4)⟩
def zmid (c : Nat) : Bool := decide (164 ≤ c) && decide (c < 183)
theorem zmid_of : ∀ c, zmid c = true → zfrom 164 c = true := fun c h => by
  simp only [zmid, Bool.and_eq_true, decide_eq_true_eq] at h
  simp only [zfrom, decide_eq_true_eq]
  exact h.1
theorem fm_of {J9 : zJ} (h : zOf zmid J9 (zj tb_I0)) : tb_Fm (zI J9) := fun c h1 h2 => by
  funext k
  show Int32.ofInt (J9 c k) = tb_I0 c k
  rw [h c (by simp [zmid, h1, h2])]
  show Int32.ofInt (tb_I0 c ((k : Int).toNat)).toInt = _
  rw [Int.toNat_natCast, Int32.ofInt_toInt]
theorem fr_0 : tb_Fr tb_I0 := fun _ _ => rfl
theorem cc_feed {l : Launch} {G : tb_G} (hl : l.stackTraces = false) (n : Nat) (I : tb_I) (F : tb_Fr I) (a : Int) (b : Int) (c : Int) (d : Int) (e : Int) (_hr_a : -2147483648 ≤ a ∧ a < 2147483648) (_hr_b : -2147483648 ≤ b ∧ b < 2147483648) (_hr_c : -2147483648 ≤ c ∧ c < 2147483648) (_hr_d : -2147483648 ≤ d ∧ d < 2147483648) (_hr_e : -2147483648 ≤ e ∧ e < 2147483648) : tz_Ok l G M_X11_feed 1 0 0 [.ref 0, zi a, zi b, zi c, zi d, zi e] n (zj I) (zqi (fun z J' => (z = 20) ∧ zOf (zfrom 164) J' (zj I))) zN := zv_of (k1_feed hl n I (Int32.ofInt a) (Int32.ofInt b) (Int32.ofInt c) (Int32.ofInt d) (Int32.ofInt e) F) (by decide) (by decide)
theorem cc_fault {l : Launch} {G : tb_G} (hl : l.stackTraces = false) (n : Nat) (I : tb_I) (F : tb_Fr I)   : tz_Ok l G M_X11_fault 0 0 0 [.ref 0] n (zj I) (zqi (fun z J' => (z = (-1)) ∧ zOf (zfrom 164) J' (zj I))) zN := zv_of (k1_fault hl n I  F) (by decide) (by decide)
theorem cc_undo {l : Launch} {G : tb_G} (hl : l.stackTraces = false) (n : Nat) (I : tb_I) (F : tb_Fr I)   : tz_Ok l G M_X11_undo 1 0 0 [.ref 0] n (zj I) (zqi (fun z J' => (z = (-1)) ∧ zOf (zfrom 164) J' (zj I))) zN := zv_of (k1_undo hl n I  F) (by decide) (by decide)
theorem cc_restore {l : Launch} {G : tb_G} (hl : l.stackTraces = false) (n : Nat) (I : tb_I) (F : tb_Fr I)   : tz_Ok l G M_X11_restore 0 0 0 [.ref 0] n (zj I) (zqi (fun z J' => (z = 0) ∧ zOf (zfrom 164) J' (zj I))) zN := zv_of (k1_restore hl n I  F) (by decide) (by decide)
theorem cc_apply {l : Launch} {G : tb_G} (hl : l.stackTraces = false) (n : Nat) (I : tb_I) (F : tb_Fr I) (a : Int) (_hr_a : -2147483648 ≤ a ∧ a < 2147483648) : tz_Ok l G M_X11_apply 1 0 0 [.ref 0, zi a] n (zj I) (zqi (fun z J' => (z = (-1)) ∧ zOf (zfrom 164) J' (zj I))) zN := zv_of (k1_apply hl n I (Int32.ofInt a) F) (by decide) (by decide)
theorem cc_close {l : Launch} {G : tb_G} (hl : l.stackTraces = false) (n : Nat) (I : tb_I) (F : tb_Fr I) (a : Int) (_hr_a : -2147483648 ≤ a ∧ a < 2147483648) : tz_Ok l G M_X11_close 1 0 0 [.ref 0, zi a] n (zj I) (zqi (fun z J' => (z = (-1)) ∧ zOf (zfrom 164) J' (zj I))) zN := zv_of (k1_close hl n I (Int32.ofInt a) F) (by decide) (by decide)
theorem cc_unify {l : Launch} {G : tb_G} (hl : l.stackTraces = false) (n : Nat) (I : tb_I) (F : tb_Fr I) (a : Int) (b : Int) (_hr_a : -2147483648 ≤ a ∧ a < 2147483648) (_hr_b : -2147483648 ≤ b ∧ b < 2147483648) : tz_Ok l G M_X11_unify 1 0 0 [.ref 0, zi a, zi b] n (zj I) (zqi (fun z J' => (z = (-1)) ∧ zOf (zfrom 164) J' (zj I))) zN := zv_of (k1_unify hl n I (Int32.ofInt a) (Int32.ofInt b) F) (by decide) (by decide)
theorem cc_match {l : Launch} {G : tb_G} (hl : l.stackTraces = false) (n : Nat) (I : tb_I) (F : tb_Fr I) (a : Int) (b : Int) (_hr_a : -2147483648 ≤ a ∧ a < 2147483648) (_hr_b : -2147483648 ≤ b ∧ b < 2147483648) : tz_Ok l G M_X11_match 1 0 0 [.ref 0, zi a, zi b] n (zj I) (zqi (fun z J' => (z = (-1)) ∧ zOf (zfrom 164) J' (zj I))) zN := zv_of (k1_match hl n I (Int32.ofInt a) (Int32.ofInt b) F) (by decide) (by decide)
theorem cc_common {l : Launch} {G : tb_G} (hl : l.stackTraces = false) (n : Nat) (I : tb_I) (F : tb_Fr I) (a : Int) (b : Int) (_hr_a : -2147483648 ≤ a ∧ a < 2147483648) (_hr_b : -2147483648 ≤ b ∧ b < 2147483648) : tz_Ok l G M_X11_common 1 0 0 [.ref 0, zi a, zi b] n (zj I) (zqi (fun z J' => (z = (-1)) ∧ zOf (zfrom 164) J' (zj I))) zN := zv_of (k1_common hl n I (Int32.ofInt a) (Int32.ofInt b) F) (by decide) (by decide)
theorem cc_normal {l : Launch} {G : tb_G} (hl : l.stackTraces = false) (n : Nat) (I : tb_I) (F : tb_Fr I) (a : Int) (_hr_a : -2147483648 ≤ a ∧ a < 2147483648) : tz_Ok l G M_X11_normal 1 0 0 [.ref 0, zi a] n (zj I) (zqi (fun z J' => (z = (-1)) ∧ zOf (zfrom 164) J' (zj I))) zN := zv_of (k1_normal hl n I (Int32.ofInt a) F) (by decide) (by decide)
theorem cc_put {l : Launch} {G : tb_G} (hl : l.stackTraces = false) (n : Nat) (I : tb_I) (F : tb_Fr I) (a : Int) (b : Int) (c : Int) (_hr_a : -2147483648 ≤ a ∧ a < 2147483648) (_hr_b : -2147483648 ≤ b ∧ b < 2147483648) (_hr_c : -2147483648 ≤ c ∧ c < 2147483648) : tz_Ok l G M_X11_put 1 0 0 [.ref 0, zi a, zi b, zi c] n (zj I) (zqi (fun z J' => (z = (-1)) ∧ zOf (zfrom 164) J' (zj I))) zN := zv_of (k1_put hl n I (Int32.ofInt a) (Int32.ofInt b) (Int32.ofInt c) F) (by decide) (by decide)
theorem cc_rules {l : Launch} {G : tb_G} (hl : l.stackTraces = false) (n : Nat) (I : tb_I) (F : tb_Fr I) (a : Int) (b : Int) (_hr_a : -2147483648 ≤ a ∧ a < 2147483648) (_hr_b : -2147483648 ≤ b ∧ b < 2147483648) : tz_Ok l G M_X11_rules 2 0 0 [.ref 0, zi a, zi b] n (zj I) (zqi (fun z J' => (z = (-1)) ∧ zOf (zfrom 164) J' (zj I))) zN := zv_of (k1_rules hl n I (Int32.ofInt a) (Int32.ofInt b) F) (by decide) (by decide)
theorem cc_enter {l : Launch} {G : tb_G} (hl : l.stackTraces = false) (n : Nat) (I : tb_I) (F : tb_Fr I) (a : Int) (_hr_a : -2147483648 ≤ a ∧ a < 2147483648) : tz_Ok l G M_X11_enter 1 0 0 [.ref 0, zi a] n (zj I) (zqi (fun z J' => (z = (-1)) ∧ zOf (zfrom 164) J' (zj I))) zN := zv_of (k1_enter hl n I (Int32.ofInt a) F) (by decide) (by decide)
theorem cc_leave {l : Launch} {G : tb_G} (hl : l.stackTraces = false) (n : Nat) (I : tb_I) (F : tb_Fr I) (a : Int) (_hr_a : -2147483648 ≤ a ∧ a < 2147483648) : tz_Ok l G M_X11_leave 1 0 0 [.ref 0, zi a] n (zj I) (zqi (fun z J' => (z = (-1)) ∧ zOf (zfrom 164) J' (zj I))) zN := zv_of (k1_leave hl n I (Int32.ofInt a) F) (by decide) (by decide)
theorem cc_make {l : Launch} {G : tb_G} (hl : l.stackTraces = false) (n : Nat) (I : tb_I) (F : tb_Fr I) (a : Int) (b : Int) (c : Int) (d : Int) (_hr_a : -2147483648 ≤ a ∧ a < 2147483648) (_hr_b : -2147483648 ≤ b ∧ b < 2147483648) (_hr_c : -2147483648 ≤ c ∧ c < 2147483648) (_hr_d : -2147483648 ≤ d ∧ d < 2147483648) : tz_Ok l G M_X11_make 1 0 0 [.ref 0, zi a, zi b, zi c, zi d] n (zj I) (zqi (fun z J' => (z = (-1)) ∧ zOf (zfrom 164) J' (zj I))) zN := zv_of (k1_make hl n I (Int32.ofInt a) (Int32.ofInt b) (Int32.ofInt c) (Int32.ofInt d) F) (by decide) (by decide)
theorem cc_symbol {l : Launch} {G : tb_G} (hl : l.stackTraces = false) (n : Nat) (I : tb_I) (F : tb_Fr I) (a : Int) (b : Int) (_hr_a : -2147483648 ≤ a ∧ a < 2147483648) (_hr_b : -2147483648 ≤ b ∧ b < 2147483648) : tz_Ok l G M_X11_symbol 6 1 6 [.ref 0, zi a, zi b] n (zj I) (fun _ _ => False) (fun E' J' => E' = "java/util/NoSuchElementException" ∧ zOf (zfrom 164) J' (zj I)) := zx_of (k1_symbol hl n I (Int32.ofInt a) (Int32.ofInt b) F)
theorem cc_term {l : Launch} {G : tb_G} (hl : l.stackTraces = false) (n : Nat) (I : tb_I) (F : tb_Fr I) (a : Int) (b : Int) (_hr_a : -2147483648 ≤ a ∧ a < 2147483648) (_hr_b : -2147483648 ≤ b ∧ b < 2147483648) : tz_Ok l G M_X11_term 7 1 6 [.ref 0, zi a, zi b] n (zj I) (fun _ _ => False) (fun E' J' => E' = "java/util/NoSuchElementException" ∧ zOf (zfrom 164) J' (zj I)) := zx_of (k1_term hl n I (Int32.ofInt a) (Int32.ofInt b) F)
theorem cc_argument {l : Launch} {G : tb_G} (hl : l.stackTraces = false) (n : Nat) (I : tb_I) (F : tb_Fr I) (a : Int) (b : Int) (_hr_a : -2147483648 ≤ a ∧ a < 2147483648) (_hr_b : -2147483648 ≤ b ∧ b < 2147483648) : tz_Ok l G M_X11_argument 7 1 6 [.ref 0, zi a, zi b] n (zj I) (fun _ _ => False) (fun E' J' => E' = "java/util/NoSuchElementException" ∧ zOf (zfrom 164) J' (zj I)) := zx_of (k1_argument hl n I (Int32.ofInt a) (Int32.ofInt b) F)
theorem cc_place {l : Launch} {G : tb_G} (hl : l.stackTraces = false) (n : Nat) (I : tb_I) (F : tb_Fr I) (a : Int) (b : Int) (_hr_a : -2147483648 ≤ a ∧ a < 2147483648) (_hr_b : -2147483648 ≤ b ∧ b < 2147483648) : tz_Ok l G M_X11_place 7 1 6 [.ref 0, zi a, zi b] n (zj I) (fun _ _ => False) (fun E' J' => E' = "java/util/NoSuchElementException" ∧ zOf (zfrom 164) J' (zj I)) := zx_of (k1_place hl n I (Int32.ofInt a) (Int32.ofInt b) F)
theorem cc_order {l : Launch} {G : tb_G} (hl : l.stackTraces = false) (n : Nat) (I : tb_I) (F : tb_Fr I) (a : Int) (b : Int) (_hr_a : -2147483648 ≤ a ∧ a < 2147483648) (_hr_b : -2147483648 ≤ b ∧ b < 2147483648) : tz_Ok l G M_X11_order 7 1 6 [.ref 0, zi a, zi b] n (zj I) (fun _ _ => False) (fun E' J' => E' = "java/util/NoSuchElementException" ∧ zOf (zfrom 164) J' (zj I)) := zx_of (k1_order hl n I (Int32.ofInt a) (Int32.ofInt b) F)
theorem cc_find {l : Launch} {G : tb_G} (hl : l.stackTraces = false) (n : Nat) (I : tb_I) (F : tb_Fr I) (a : Int) (b : Int) (_hr_a : -2147483648 ≤ a ∧ a < 2147483648) (_hr_b : -2147483648 ≤ b ∧ b < 2147483648) : tz_Ok l G M_X11_find 7 1 6 [.ref 0, zi a, zi b] n (zj I) (fun _ _ => False) (fun E' J' => E' = "java/util/NoSuchElementException" ∧ zOf (zfrom 164) J' (zj I)) := zx_of (k1_find hl n I (Int32.ofInt a) (Int32.ofInt b) F)
theorem cc_rule {l : Launch} {G : tb_G} (hl : l.stackTraces = false) (n : Nat) (I : tb_I) (F : tb_Fr I) (a : Int) (b : Int) (_hr_a : -2147483648 ≤ a ∧ a < 2147483648) (_hr_b : -2147483648 ≤ b ∧ b < 2147483648) : tz_Ok l G M_X11_rule 6 1 6 [.ref 0, zi a, zi b] n (zj I) (fun _ _ => False) (fun E' J' => E' = "java/util/NoSuchElementException" ∧ zOf (zfrom 164) J' (zj I)) := zx_of (k1_rule hl n I (Int32.ofInt a) (Int32.ofInt b) F)
theorem cc_entry {l : Launch} {G : tb_G} (hl : l.stackTraces = false) (n : Nat) (I : tb_I) (F : tb_Fr I) (a : Int) (_hr_a : -2147483648 ≤ a ∧ a < 2147483648) : tz_Ok l G M_X11_entry 6 1 6 [.ref 0, zi a] n (zj I) (fun _ _ => False) (fun E' J' => E' = "java/util/NoSuchElementException" ∧ zOf (zfrom 164) J' (zj I)) := zx_of (k1_entry hl n I (Int32.ofInt a) F)
theorem cc_memo {l : Launch} {G : tb_G} (hl : l.stackTraces = false) (n : Nat) (I : tb_I) (F : tb_Fr I) (a : Int) (b : Int) (_hr_a : -2147483648 ≤ a ∧ a < 2147483648) (_hr_b : -2147483648 ≤ b ∧ b < 2147483648) : tz_Ok l G M_X11_memo 6 1 6 [.ref 0, zi a, zi b] n (zj I) (fun _ _ => False) (fun E' J' => E' = "java/util/NoSuchElementException" ∧ zOf (zfrom 164) J' (zj I)) := zx_of (k1_memo hl n I (Int32.ofInt a) (Int32.ofInt b) F)
set_option maxHeartbeats 4000000 in
set_option maxRecDepth 100000 in
theorem cw_symbol {l : Launch} {G : tb_G} (hl : l.stackTraces = false) (n : Nat) (I : tb_I) (F : tb_Fr I) (a : Int) (b : Int) (hr_a : -2147483648 ≤ a ∧ a < 2147483648) (hr_b : -2147483648 ≤ b ∧ b < 2147483648)   : tz_Okw l G M_L_symbol 7 1 6 [.ref 0, zi a, zi b, .ref 183] n (zj I) (zqi (fun z J' => z = 1 ∧ zOf zmid J' (zj I))) zN := by
  refine tz_Okw.of hl (by decide +kernel) (tb_c1 rfl) (Nat.le_of_ble_eq_true rfl) ?_
  show tz_At l G M_L_symbol (tb_rm 7 1 6) none (tb_ZM G 1 6 (zQ n 1 (zqi (fun z J' => z = 1 ∧ zOf zmid J' (zj I)))) (zX n 1 zN)) 0 0 n (zj I) 0 [some (.ref 0), some (zi a), some (zi b), some (.ref 183), none] []
  refine tz_aload_n (pc := 0) dL_symbol_0 rfl rfl ?_
  refine tz_iconst (pc := 1) dL_symbol_1 ?_
  refine tz_aload_n (pc := 2) dL_symbol_2 rfl rfl ?_
  refine tz_iload_n (pc := 3) dL_symbol_3 rfl rfl ?_
  refine tz_iload_n (pc := 4) dL_symbol_4 rfl rfl ?_
  refine tz_cVX (pc := 5) (cc_symbol hl _ I F _ _ hr_a hr_b) vl_L_20 dL_symbol_5 o_0 rfl rfl (Nat.le_of_ble_eq_true rfl) ⟨(Nat.le_of_ble_eq_true rfl), (Nat.le_of_ble_eq_true rfl)⟩ rfl rfl (Nat.le_of_ble_eq_true rfl) (Nat.le_of_ble_eq_true rfl) (fun r9 n_5 J_5 hn1_5 hn2_5 hq9 => ?_) (fun E9 n_5 J_5 hn1_5 hn2_5 hx9 => ?_)
  · exact hq9.elim
  · obtain ⟨rfl, fx⟩ := hx9
    refine tz_catchA [] _ [] rfl (fun _ h => nomatch h) (by decide) (by decide) cw_L_18 (by decide) dL_symbol_13 (by decide) ?_
    show tz_At l G M_L_symbol (tb_rm 7 1 6) none (tb_ZM G 1 6 (zQ n 1 (zqi (fun z J' => z = 1 ∧ zOf zmid J' (zj I)))) (zX n 1 zN)) _ _ _ _ 15 [some (.ref 0), some (zi a), some (zi b), some (.ref 183), none] []
    refine tz_iconst (pc := 15) dL_symbol_15 ?_
    exact tz_iret (pc := 16) (z := 1) dL_symbol_16 rfl (Nat.le_of_ble_eq_true rfl) (Nat.le_of_ble_eq_true rfl) ⟨by omega, by omega⟩ ⟨_, rfl, (by decide), ⟨rfl, (zOf.mono fx zmid_of)⟩⟩

set_option maxHeartbeats 4000000 in
set_option maxRecDepth 100000 in
theorem cw_term {l : Launch} {G : tb_G} (hl : l.stackTraces = false) (n : Nat) (I : tb_I) (F : tb_Fr I) (a : Int) (b : Int) (hr_a : -2147483648 ≤ a ∧ a < 2147483648) (hr_b : -2147483648 ≤ b ∧ b < 2147483648)   : tz_Okw l G M_L_term 8 1 6 [.ref 0, zi a, zi b, .ref 183] n (zj I) (zqi (fun z J' => z = 1 ∧ zOf zmid J' (zj I))) zN := by
  refine tz_Okw.of hl (by decide +kernel) (tb_c1 rfl) (Nat.le_of_ble_eq_true rfl) ?_
  show tz_At l G M_L_term (tb_rm 8 1 6) none (tb_ZM G 1 6 (zQ n 1 (zqi (fun z J' => z = 1 ∧ zOf zmid J' (zj I)))) (zX n 1 zN)) 0 0 n (zj I) 0 [some (.ref 0), some (zi a), some (zi b), some (.ref 183), none] []
  refine tz_aload_n (pc := 0) dL_term_0 rfl rfl ?_
  refine tz_iconst (pc := 1) dL_term_1 ?_
  refine tz_aload_n (pc := 2) dL_term_2 rfl rfl ?_
  refine tz_iload_n (pc := 3) dL_term_3 rfl rfl ?_
  refine tz_iload_n (pc := 4) dL_term_4 rfl rfl ?_
  refine tz_cVX (pc := 5) (cc_term hl _ I F _ _ hr_a hr_b) vl_L_24 dL_term_5 o_0 rfl rfl (Nat.le_of_ble_eq_true rfl) ⟨(Nat.le_of_ble_eq_true rfl), (Nat.le_of_ble_eq_true rfl)⟩ rfl rfl (Nat.le_of_ble_eq_true rfl) (Nat.le_of_ble_eq_true rfl) (fun r9 n_5 J_5 hn1_5 hn2_5 hq9 => ?_) (fun E9 n_5 J_5 hn1_5 hn2_5 hx9 => ?_)
  · exact hq9.elim
  · obtain ⟨rfl, fx⟩ := hx9
    refine tz_catchA [] _ [] rfl (fun _ h => nomatch h) (by decide) (by decide) cw_L_18 (by decide) dL_term_13 (by decide) ?_
    show tz_At l G M_L_term (tb_rm 8 1 6) none (tb_ZM G 1 6 (zQ n 1 (zqi (fun z J' => z = 1 ∧ zOf zmid J' (zj I)))) (zX n 1 zN)) _ _ _ _ 15 [some (.ref 0), some (zi a), some (zi b), some (.ref 183), none] []
    refine tz_iconst (pc := 15) dL_term_15 ?_
    exact tz_iret (pc := 16) (z := 1) dL_term_16 rfl (Nat.le_of_ble_eq_true rfl) (Nat.le_of_ble_eq_true rfl) ⟨by omega, by omega⟩ ⟨_, rfl, (by decide), ⟨rfl, (zOf.mono fx zmid_of)⟩⟩

set_option maxHeartbeats 4000000 in
set_option maxRecDepth 100000 in
theorem cw_argument {l : Launch} {G : tb_G} (hl : l.stackTraces = false) (n : Nat) (I : tb_I) (F : tb_Fr I) (a : Int) (b : Int) (hr_a : -2147483648 ≤ a ∧ a < 2147483648) (hr_b : -2147483648 ≤ b ∧ b < 2147483648)   : tz_Okw l G M_L_argument 8 1 6 [.ref 0, zi a, zi b, .ref 183] n (zj I) (zqi (fun z J' => z = 1 ∧ zOf zmid J' (zj I))) zN := by
  refine tz_Okw.of hl (by decide +kernel) (tb_c1 rfl) (Nat.le_of_ble_eq_true rfl) ?_
  show tz_At l G M_L_argument (tb_rm 8 1 6) none (tb_ZM G 1 6 (zQ n 1 (zqi (fun z J' => z = 1 ∧ zOf zmid J' (zj I)))) (zX n 1 zN)) 0 0 n (zj I) 0 [some (.ref 0), some (zi a), some (zi b), some (.ref 183), none] []
  refine tz_aload_n (pc := 0) dL_argument_0 rfl rfl ?_
  refine tz_iconst (pc := 1) dL_argument_1 ?_
  refine tz_aload_n (pc := 2) dL_argument_2 rfl rfl ?_
  refine tz_iload_n (pc := 3) dL_argument_3 rfl rfl ?_
  refine tz_iload_n (pc := 4) dL_argument_4 rfl rfl ?_
  refine tz_cVX (pc := 5) (cc_argument hl _ I F _ _ hr_a hr_b) vl_L_27 dL_argument_5 o_0 rfl rfl (Nat.le_of_ble_eq_true rfl) ⟨(Nat.le_of_ble_eq_true rfl), (Nat.le_of_ble_eq_true rfl)⟩ rfl rfl (Nat.le_of_ble_eq_true rfl) (Nat.le_of_ble_eq_true rfl) (fun r9 n_5 J_5 hn1_5 hn2_5 hq9 => ?_) (fun E9 n_5 J_5 hn1_5 hn2_5 hx9 => ?_)
  · exact hq9.elim
  · obtain ⟨rfl, fx⟩ := hx9
    refine tz_catchA [] _ [] rfl (fun _ h => nomatch h) (by decide) (by decide) cw_L_18 (by decide) dL_argument_13 (by decide) ?_
    show tz_At l G M_L_argument (tb_rm 8 1 6) none (tb_ZM G 1 6 (zQ n 1 (zqi (fun z J' => z = 1 ∧ zOf zmid J' (zj I)))) (zX n 1 zN)) _ _ _ _ 15 [some (.ref 0), some (zi a), some (zi b), some (.ref 183), none] []
    refine tz_iconst (pc := 15) dL_argument_15 ?_
    exact tz_iret (pc := 16) (z := 1) dL_argument_16 rfl (Nat.le_of_ble_eq_true rfl) (Nat.le_of_ble_eq_true rfl) ⟨by omega, by omega⟩ ⟨_, rfl, (by decide), ⟨rfl, (zOf.mono fx zmid_of)⟩⟩

set_option maxHeartbeats 4000000 in
set_option maxRecDepth 100000 in
theorem cw_place {l : Launch} {G : tb_G} (hl : l.stackTraces = false) (n : Nat) (I : tb_I) (F : tb_Fr I) (a : Int) (b : Int) (hr_a : -2147483648 ≤ a ∧ a < 2147483648) (hr_b : -2147483648 ≤ b ∧ b < 2147483648)   : tz_Okw l G M_L_place 8 1 6 [.ref 0, zi a, zi b, .ref 183] n (zj I) (zqi (fun z J' => z = 1 ∧ zOf zmid J' (zj I))) zN := by
  refine tz_Okw.of hl (by decide +kernel) (tb_c1 rfl) (Nat.le_of_ble_eq_true rfl) ?_
  show tz_At l G M_L_place (tb_rm 8 1 6) none (tb_ZM G 1 6 (zQ n 1 (zqi (fun z J' => z = 1 ∧ zOf zmid J' (zj I)))) (zX n 1 zN)) 0 0 n (zj I) 0 [some (.ref 0), some (zi a), some (zi b), some (.ref 183), none] []
  refine tz_aload_n (pc := 0) dL_place_0 rfl rfl ?_
  refine tz_iconst (pc := 1) dL_place_1 ?_
  refine tz_aload_n (pc := 2) dL_place_2 rfl rfl ?_
  refine tz_iload_n (pc := 3) dL_place_3 rfl rfl ?_
  refine tz_iload_n (pc := 4) dL_place_4 rfl rfl ?_
  refine tz_cVX (pc := 5) (cc_place hl _ I F _ _ hr_a hr_b) vl_L_30 dL_place_5 o_0 rfl rfl (Nat.le_of_ble_eq_true rfl) ⟨(Nat.le_of_ble_eq_true rfl), (Nat.le_of_ble_eq_true rfl)⟩ rfl rfl (Nat.le_of_ble_eq_true rfl) (Nat.le_of_ble_eq_true rfl) (fun r9 n_5 J_5 hn1_5 hn2_5 hq9 => ?_) (fun E9 n_5 J_5 hn1_5 hn2_5 hx9 => ?_)
  · exact hq9.elim
  · obtain ⟨rfl, fx⟩ := hx9
    refine tz_catchA [] _ [] rfl (fun _ h => nomatch h) (by decide) (by decide) cw_L_18 (by decide) dL_place_13 (by decide) ?_
    show tz_At l G M_L_place (tb_rm 8 1 6) none (tb_ZM G 1 6 (zQ n 1 (zqi (fun z J' => z = 1 ∧ zOf zmid J' (zj I)))) (zX n 1 zN)) _ _ _ _ 15 [some (.ref 0), some (zi a), some (zi b), some (.ref 183), none] []
    refine tz_iconst (pc := 15) dL_place_15 ?_
    exact tz_iret (pc := 16) (z := 1) dL_place_16 rfl (Nat.le_of_ble_eq_true rfl) (Nat.le_of_ble_eq_true rfl) ⟨by omega, by omega⟩ ⟨_, rfl, (by decide), ⟨rfl, (zOf.mono fx zmid_of)⟩⟩

set_option maxHeartbeats 4000000 in
set_option maxRecDepth 100000 in
theorem cw_order {l : Launch} {G : tb_G} (hl : l.stackTraces = false) (n : Nat) (I : tb_I) (F : tb_Fr I) (a : Int) (b : Int) (hr_a : -2147483648 ≤ a ∧ a < 2147483648) (hr_b : -2147483648 ≤ b ∧ b < 2147483648)   : tz_Okw l G M_L_order 8 1 6 [.ref 0, zi a, zi b, .ref 183] n (zj I) (zqi (fun z J' => z = 1 ∧ zOf zmid J' (zj I))) zN := by
  refine tz_Okw.of hl (by decide +kernel) (tb_c1 rfl) (Nat.le_of_ble_eq_true rfl) ?_
  show tz_At l G M_L_order (tb_rm 8 1 6) none (tb_ZM G 1 6 (zQ n 1 (zqi (fun z J' => z = 1 ∧ zOf zmid J' (zj I)))) (zX n 1 zN)) 0 0 n (zj I) 0 [some (.ref 0), some (zi a), some (zi b), some (.ref 183), none] []
  refine tz_aload_n (pc := 0) dL_order_0 rfl rfl ?_
  refine tz_iconst (pc := 1) dL_order_1 ?_
  refine tz_aload_n (pc := 2) dL_order_2 rfl rfl ?_
  refine tz_iload_n (pc := 3) dL_order_3 rfl rfl ?_
  refine tz_iload_n (pc := 4) dL_order_4 rfl rfl ?_
  refine tz_cVX (pc := 5) (cc_order hl _ I F _ _ hr_a hr_b) vl_L_33 dL_order_5 o_0 rfl rfl (Nat.le_of_ble_eq_true rfl) ⟨(Nat.le_of_ble_eq_true rfl), (Nat.le_of_ble_eq_true rfl)⟩ rfl rfl (Nat.le_of_ble_eq_true rfl) (Nat.le_of_ble_eq_true rfl) (fun r9 n_5 J_5 hn1_5 hn2_5 hq9 => ?_) (fun E9 n_5 J_5 hn1_5 hn2_5 hx9 => ?_)
  · exact hq9.elim
  · obtain ⟨rfl, fx⟩ := hx9
    refine tz_catchA [] _ [] rfl (fun _ h => nomatch h) (by decide) (by decide) cw_L_18 (by decide) dL_order_13 (by decide) ?_
    show tz_At l G M_L_order (tb_rm 8 1 6) none (tb_ZM G 1 6 (zQ n 1 (zqi (fun z J' => z = 1 ∧ zOf zmid J' (zj I)))) (zX n 1 zN)) _ _ _ _ 15 [some (.ref 0), some (zi a), some (zi b), some (.ref 183), none] []
    refine tz_iconst (pc := 15) dL_order_15 ?_
    exact tz_iret (pc := 16) (z := 1) dL_order_16 rfl (Nat.le_of_ble_eq_true rfl) (Nat.le_of_ble_eq_true rfl) ⟨by omega, by omega⟩ ⟨_, rfl, (by decide), ⟨rfl, (zOf.mono fx zmid_of)⟩⟩

set_option maxHeartbeats 4000000 in
set_option maxRecDepth 100000 in
theorem cw_find {l : Launch} {G : tb_G} (hl : l.stackTraces = false) (n : Nat) (I : tb_I) (F : tb_Fr I) (a : Int) (b : Int) (hr_a : -2147483648 ≤ a ∧ a < 2147483648) (hr_b : -2147483648 ≤ b ∧ b < 2147483648)   : tz_Okw l G M_L_find 8 1 6 [.ref 0, zi a, zi b, .ref 183] n (zj I) (zqi (fun z J' => z = 1 ∧ zOf zmid J' (zj I))) zN := by
  refine tz_Okw.of hl (by decide +kernel) (tb_c1 rfl) (Nat.le_of_ble_eq_true rfl) ?_
  show tz_At l G M_L_find (tb_rm 8 1 6) none (tb_ZM G 1 6 (zQ n 1 (zqi (fun z J' => z = 1 ∧ zOf zmid J' (zj I)))) (zX n 1 zN)) 0 0 n (zj I) 0 [some (.ref 0), some (zi a), some (zi b), some (.ref 183), none] []
  refine tz_aload_n (pc := 0) dL_find_0 rfl rfl ?_
  refine tz_iconst (pc := 1) dL_find_1 ?_
  refine tz_aload_n (pc := 2) dL_find_2 rfl rfl ?_
  refine tz_iload_n (pc := 3) dL_find_3 rfl rfl ?_
  refine tz_iload_n (pc := 4) dL_find_4 rfl rfl ?_
  refine tz_cVX (pc := 5) (cc_find hl _ I F _ _ hr_a hr_b) vl_L_36 dL_find_5 o_0 rfl rfl (Nat.le_of_ble_eq_true rfl) ⟨(Nat.le_of_ble_eq_true rfl), (Nat.le_of_ble_eq_true rfl)⟩ rfl rfl (Nat.le_of_ble_eq_true rfl) (Nat.le_of_ble_eq_true rfl) (fun r9 n_5 J_5 hn1_5 hn2_5 hq9 => ?_) (fun E9 n_5 J_5 hn1_5 hn2_5 hx9 => ?_)
  · exact hq9.elim
  · obtain ⟨rfl, fx⟩ := hx9
    refine tz_catchA [] _ [] rfl (fun _ h => nomatch h) (by decide) (by decide) cw_L_18 (by decide) dL_find_13 (by decide) ?_
    show tz_At l G M_L_find (tb_rm 8 1 6) none (tb_ZM G 1 6 (zQ n 1 (zqi (fun z J' => z = 1 ∧ zOf zmid J' (zj I)))) (zX n 1 zN)) _ _ _ _ 15 [some (.ref 0), some (zi a), some (zi b), some (.ref 183), none] []
    refine tz_iconst (pc := 15) dL_find_15 ?_
    exact tz_iret (pc := 16) (z := 1) dL_find_16 rfl (Nat.le_of_ble_eq_true rfl) (Nat.le_of_ble_eq_true rfl) ⟨by omega, by omega⟩ ⟨_, rfl, (by decide), ⟨rfl, (zOf.mono fx zmid_of)⟩⟩

set_option maxHeartbeats 4000000 in
set_option maxRecDepth 100000 in
theorem cw_rule {l : Launch} {G : tb_G} (hl : l.stackTraces = false) (n : Nat) (I : tb_I) (F : tb_Fr I) (a : Int) (b : Int) (hr_a : -2147483648 ≤ a ∧ a < 2147483648) (hr_b : -2147483648 ≤ b ∧ b < 2147483648)   : tz_Okw l G M_L_rule 7 1 6 [.ref 0, zi a, zi b, .ref 183] n (zj I) (zqi (fun z J' => z = 1 ∧ zOf zmid J' (zj I))) zN := by
  refine tz_Okw.of hl (by decide +kernel) (tb_c1 rfl) (Nat.le_of_ble_eq_true rfl) ?_
  show tz_At l G M_L_rule (tb_rm 7 1 6) none (tb_ZM G 1 6 (zQ n 1 (zqi (fun z J' => z = 1 ∧ zOf zmid J' (zj I)))) (zX n 1 zN)) 0 0 n (zj I) 0 [some (.ref 0), some (zi a), some (zi b), some (.ref 183), none] []
  refine tz_aload_n (pc := 0) dL_rule_0 rfl rfl ?_
  refine tz_iconst (pc := 1) dL_rule_1 ?_
  refine tz_aload_n (pc := 2) dL_rule_2 rfl rfl ?_
  refine tz_iload_n (pc := 3) dL_rule_3 rfl rfl ?_
  refine tz_iload_n (pc := 4) dL_rule_4 rfl rfl ?_
  refine tz_cVX (pc := 5) (cc_rule hl _ I F _ _ hr_a hr_b) vl_L_39 dL_rule_5 o_0 rfl rfl (Nat.le_of_ble_eq_true rfl) ⟨(Nat.le_of_ble_eq_true rfl), (Nat.le_of_ble_eq_true rfl)⟩ rfl rfl (Nat.le_of_ble_eq_true rfl) (Nat.le_of_ble_eq_true rfl) (fun r9 n_5 J_5 hn1_5 hn2_5 hq9 => ?_) (fun E9 n_5 J_5 hn1_5 hn2_5 hx9 => ?_)
  · exact hq9.elim
  · obtain ⟨rfl, fx⟩ := hx9
    refine tz_catchA [] _ [] rfl (fun _ h => nomatch h) (by decide) (by decide) cw_L_18 (by decide) dL_rule_13 (by decide) ?_
    show tz_At l G M_L_rule (tb_rm 7 1 6) none (tb_ZM G 1 6 (zQ n 1 (zqi (fun z J' => z = 1 ∧ zOf zmid J' (zj I)))) (zX n 1 zN)) _ _ _ _ 15 [some (.ref 0), some (zi a), some (zi b), some (.ref 183), none] []
    refine tz_iconst (pc := 15) dL_rule_15 ?_
    exact tz_iret (pc := 16) (z := 1) dL_rule_16 rfl (Nat.le_of_ble_eq_true rfl) (Nat.le_of_ble_eq_true rfl) ⟨by omega, by omega⟩ ⟨_, rfl, (by decide), ⟨rfl, (zOf.mono fx zmid_of)⟩⟩

set_option maxHeartbeats 4000000 in
set_option maxRecDepth 100000 in
theorem cw_entry {l : Launch} {G : tb_G} (hl : l.stackTraces = false) (n : Nat) (I : tb_I) (F : tb_Fr I) (a : Int) (hr_a : -2147483648 ≤ a ∧ a < 2147483648)   : tz_Okw l G M_L_entry 7 1 6 [.ref 0, zi a, .ref 183] n (zj I) (zqi (fun z J' => z = 1 ∧ zOf zmid J' (zj I))) zN := by
  refine tz_Okw.of hl (by decide +kernel) (tb_c1 rfl) (Nat.le_of_ble_eq_true rfl) ?_
  show tz_At l G M_L_entry (tb_rm 7 1 6) none (tb_ZM G 1 6 (zQ n 1 (zqi (fun z J' => z = 1 ∧ zOf zmid J' (zj I)))) (zX n 1 zN)) 0 0 n (zj I) 0 [some (.ref 0), some (zi a), some (.ref 183), none] []
  refine tz_aload_n (pc := 0) dL_entry_0 rfl rfl ?_
  refine tz_iconst (pc := 1) dL_entry_1 ?_
  refine tz_aload_n (pc := 2) dL_entry_2 rfl rfl ?_
  refine tz_iload_n (pc := 3) dL_entry_3 rfl rfl ?_
  refine tz_cVX (pc := 4) (cc_entry hl _ I F _ hr_a) vl_L_42 dL_entry_4 o_0 rfl rfl (Nat.le_of_ble_eq_true rfl) ⟨(Nat.le_of_ble_eq_true rfl), (Nat.le_of_ble_eq_true rfl)⟩ rfl rfl (Nat.le_of_ble_eq_true rfl) (Nat.le_of_ble_eq_true rfl) (fun r9 n_4 J_4 hn1_4 hn2_4 hq9 => ?_) (fun E9 n_4 J_4 hn1_4 hn2_4 hx9 => ?_)
  · exact hq9.elim
  · obtain ⟨rfl, fx⟩ := hx9
    refine tz_catch [] _ [] rfl (fun _ h => nomatch h) (by decide) (by decide) cw_L_18 (by decide) dL_entry_12 rfl (by decide) ?_
    show tz_At l G M_L_entry (tb_rm 7 1 6) none (tb_ZM G 1 6 (zQ n 1 (zqi (fun z J' => z = 1 ∧ zOf zmid J' (zj I)))) (zX n 1 zN)) _ _ _ _ 13 [some (.ref 0), some (zi a), some (.ref 183), none] []
    refine tz_iconst (pc := 13) dL_entry_13 ?_
    exact tz_iret (pc := 14) (z := 1) dL_entry_14 rfl (Nat.le_of_ble_eq_true rfl) (Nat.le_of_ble_eq_true rfl) ⟨by omega, by omega⟩ ⟨_, rfl, (by decide), ⟨rfl, (zOf.mono fx zmid_of)⟩⟩

set_option maxHeartbeats 4000000 in
set_option maxRecDepth 100000 in
theorem cw_memo {l : Launch} {G : tb_G} (hl : l.stackTraces = false) (n : Nat) (I : tb_I) (F : tb_Fr I) (a : Int) (b : Int) (hr_a : -2147483648 ≤ a ∧ a < 2147483648) (hr_b : -2147483648 ≤ b ∧ b < 2147483648)   : tz_Okw l G M_L_memo 7 1 6 [.ref 0, zi a, zi b, .ref 183] n (zj I) (zqi (fun z J' => z = 1 ∧ zOf zmid J' (zj I))) zN := by
  refine tz_Okw.of hl (by decide +kernel) (tb_c1 rfl) (Nat.le_of_ble_eq_true rfl) ?_
  show tz_At l G M_L_memo (tb_rm 7 1 6) none (tb_ZM G 1 6 (zQ n 1 (zqi (fun z J' => z = 1 ∧ zOf zmid J' (zj I)))) (zX n 1 zN)) 0 0 n (zj I) 0 [some (.ref 0), some (zi a), some (zi b), some (.ref 183), none] []
  refine tz_aload_n (pc := 0) dL_memo_0 rfl rfl ?_
  refine tz_iconst (pc := 1) dL_memo_1 ?_
  refine tz_aload_n (pc := 2) dL_memo_2 rfl rfl ?_
  refine tz_iload_n (pc := 3) dL_memo_3 rfl rfl ?_
  refine tz_iload_n (pc := 4) dL_memo_4 rfl rfl ?_
  refine tz_cVX (pc := 5) (cc_memo hl _ I F _ _ hr_a hr_b) vl_L_45 dL_memo_5 o_0 rfl rfl (Nat.le_of_ble_eq_true rfl) ⟨(Nat.le_of_ble_eq_true rfl), (Nat.le_of_ble_eq_true rfl)⟩ rfl rfl (Nat.le_of_ble_eq_true rfl) (Nat.le_of_ble_eq_true rfl) (fun r9 n_5 J_5 hn1_5 hn2_5 hq9 => ?_) (fun E9 n_5 J_5 hn1_5 hn2_5 hx9 => ?_)
  · exact hq9.elim
  · obtain ⟨rfl, fx⟩ := hx9
    refine tz_catchA [] _ [] rfl (fun _ h => nomatch h) (by decide) (by decide) cw_L_18 (by decide) dL_memo_13 (by decide) ?_
    show tz_At l G M_L_memo (tb_rm 7 1 6) none (tb_ZM G 1 6 (zQ n 1 (zqi (fun z J' => z = 1 ∧ zOf zmid J' (zj I)))) (zX n 1 zN)) _ _ _ _ 15 [some (.ref 0), some (zi a), some (zi b), some (.ref 183), none] []
    refine tz_iconst (pc := 15) dL_memo_15 ?_
    exact tz_iret (pc := 16) (z := 1) dL_memo_16 rfl (Nat.le_of_ble_eq_true rfl) (Nat.le_of_ble_eq_true rfl) ⟨by omega, by omega⟩ ⟨_, rfl, (by decide), ⟨rfl, (zOf.mono fx zmid_of)⟩⟩

set_option maxHeartbeats 4000000 in
set_option maxRecDepth 100000 in
theorem cw_bank {l : Launch} {G : tb_G} (hl : l.stackTraces = false) (n : Nat) (I : tb_I) (F : tb_Fr I) (a : Int) (hr_a : -2147483648 ≤ a ∧ a < 2147483648)   : tz_Okw l G M_L_bank 7 1 6 [.ref 0, zi a, .ref 183] n (zj I) (zqi (fun z J' => (((a = 0) ∧ z = 0 ∧ J' 183 0 = (0)) ∨ (¬ (a = 0) ∧ z = 1)) ∧ zOf zmid J' (zj I))) zN := by
  refine tz_Okw.of hl (by decide +kernel) (tb_c1 rfl) (Nat.le_of_ble_eq_true rfl) ?_
  show tz_At l G M_L_bank (tb_rm 7 1 6) none (tb_ZM G 1 6 (zQ n 1 (zqi (fun z J' => (((a = 0) ∧ z = 0 ∧ J' 183 0 = (0)) ∨ (¬ (a = 0) ∧ z = 1)) ∧ zOf zmid J' (zj I)))) (zX n 1 zN)) 0 0 n (zj I) 0 [some (.ref 0), some (zi a), some (.ref 183), none] []
  refine tz_aload_n (pc := 0) dL_bank_0 rfl rfl ?_
  refine tz_iconst (pc := 1) dL_bank_1 ?_
  refine tz_aload_n (pc := 2) dL_bank_2 rfl rfl ?_
  refine tz_iload_n (pc := 3) dL_bank_3 rfl rfl ?_
  refine tz_cVX (pc := 4) (c1_bank hl _ I F _ hr_a) vl_L_7 dL_bank_4 o_0 rfl rfl (Nat.le_of_ble_eq_true rfl) ⟨(Nat.le_of_ble_eq_true rfl), (Nat.le_of_ble_eq_true rfl)⟩ rfl rfl (Nat.le_of_ble_eq_true rfl) (Nat.le_of_ble_eq_true rfl) (fun r9 n_4 J_4 hn1_4 hn2_4 hq9 => ?_) (fun E9 n_4 J_4 hn1_4 hn2_4 hx9 => ?_)
  · obtain ⟨z_4, rfl, hz_4, ⟨hv, hcd⟩, fq⟩ := hq9
    refine tz_i2l (pc := 7) dL_bank_7 ?_
    refine tz_last (pc := 8) (z := 0) dL_bank_8 l_183 rfl (by decide) (by omega) ?_
    refine tz_goto (pc := 9) (tgt := 15) dL_bank_9 (by decide) ?_
    refine tz_iconst (pc := 15) dL_bank_15 ?_
    exact tz_iret (pc := 16) (z := 0) dL_bank_16 rfl (Nat.le_of_ble_eq_true rfl) (Nat.le_of_ble_eq_true rfl) ⟨by omega, by omega⟩ ⟨_, rfl, (by decide), ⟨Or.inl ⟨hcd, rfl, hv⟩, (zOf.up rfl (zOf.mono fq zmid_of))⟩⟩
  · obtain ⟨⟨rfl, hc9⟩, fx⟩ := hx9
    refine tz_catch [] _ [] rfl (fun _ h => nomatch h) (by decide) (by decide) cw_L_13 (by decide) dL_bank_12 rfl (by decide) ?_
    show tz_At l G M_L_bank (tb_rm 7 1 6) none (tb_ZM G 1 6 (zQ n 1 (zqi (fun z J' => (((a = 0) ∧ z = 0 ∧ J' 183 0 = (0)) ∨ (¬ (a = 0) ∧ z = 1)) ∧ zOf zmid J' (zj I)))) (zX n 1 zN)) _ _ _ _ 13 [some (.ref 0), some (zi a), some (.ref 183), none] []
    refine tz_iconst (pc := 13) dL_bank_13 ?_
    exact tz_iret (pc := 14) (z := 1) dL_bank_14 rfl (Nat.le_of_ble_eq_true rfl) (Nat.le_of_ble_eq_true rfl) ⟨by omega, by omega⟩ ⟨_, rfl, (by decide), ⟨Or.inr ⟨hc9, rfl⟩, (zOf.mono fx zmid_of)⟩⟩

set_option maxHeartbeats 4000000 in
set_option maxRecDepth 100000 in
theorem cw_count {l : Launch} {G : tb_G} (hl : l.stackTraces = false) (n : Nat) (I : tb_I) (F : tb_Fr I) (a : Int) (hr_a : -2147483648 ≤ a ∧ a < 2147483648)   : tz_Okw l G M_L_count 7 1 6 [.ref 0, zi a, .ref 183] n (zj I) (zqi (fun z J' => (((0 ≤ a ∧ a ≤ 16) ∧ z = 0 ∧ J' 183 0 = (if a = 4 then 4 else if a = 10 then (-1) else 0)) ∨ (¬ (0 ≤ a ∧ a ≤ 16) ∧ z = 1)) ∧ zOf zmid J' (zj I))) zN := by
  refine tz_Okw.of hl (by decide +kernel) (tb_c1 rfl) (Nat.le_of_ble_eq_true rfl) ?_
  show tz_At l G M_L_count (tb_rm 7 1 6) none (tb_ZM G 1 6 (zQ n 1 (zqi (fun z J' => (((0 ≤ a ∧ a ≤ 16) ∧ z = 0 ∧ J' 183 0 = (if a = 4 then 4 else if a = 10 then (-1) else 0)) ∨ (¬ (0 ≤ a ∧ a ≤ 16) ∧ z = 1)) ∧ zOf zmid J' (zj I)))) (zX n 1 zN)) 0 0 n (zj I) 0 [some (.ref 0), some (zi a), some (.ref 183), none] []
  refine tz_aload_n (pc := 0) dL_count_0 rfl rfl ?_
  refine tz_iconst (pc := 1) dL_count_1 ?_
  refine tz_aload_n (pc := 2) dL_count_2 rfl rfl ?_
  refine tz_iload_n (pc := 3) dL_count_3 rfl rfl ?_
  refine tz_cVX (pc := 4) (c1_count hl _ I F _ hr_a) vl_L_15 dL_count_4 o_0 rfl rfl (Nat.le_of_ble_eq_true rfl) ⟨(Nat.le_of_ble_eq_true rfl), (Nat.le_of_ble_eq_true rfl)⟩ rfl rfl (Nat.le_of_ble_eq_true rfl) (Nat.le_of_ble_eq_true rfl) (fun r9 n_4 J_4 hn1_4 hn2_4 hq9 => ?_) (fun E9 n_4 J_4 hn1_4 hn2_4 hx9 => ?_)
  · obtain ⟨z_4, rfl, hz_4, ⟨hv, hcd⟩, fq⟩ := hq9
    refine tz_i2l (pc := 7) dL_count_7 ?_
    refine tz_last (pc := 8) (z := 0) dL_count_8 l_183 rfl (by decide) (by omega) ?_
    refine tz_goto (pc := 9) (tgt := 15) dL_count_9 (by decide) ?_
    refine tz_iconst (pc := 15) dL_count_15 ?_
    exact tz_iret (pc := 16) (z := 0) dL_count_16 rfl (Nat.le_of_ble_eq_true rfl) (Nat.le_of_ble_eq_true rfl) ⟨by omega, by omega⟩ ⟨_, rfl, (by decide), ⟨Or.inl ⟨hcd, rfl, hv⟩, (zOf.up rfl (zOf.mono fq zmid_of))⟩⟩
  · obtain ⟨⟨rfl, hc9⟩, fx⟩ := hx9
    refine tz_catch [] _ [] rfl (fun _ h => nomatch h) (by decide) (by decide) cw_L_18 (by decide) dL_count_12 rfl (by decide) ?_
    show tz_At l G M_L_count (tb_rm 7 1 6) none (tb_ZM G 1 6 (zQ n 1 (zqi (fun z J' => (((0 ≤ a ∧ a ≤ 16) ∧ z = 0 ∧ J' 183 0 = (if a = 4 then 4 else if a = 10 then (-1) else 0)) ∨ (¬ (0 ≤ a ∧ a ≤ 16) ∧ z = 1)) ∧ zOf zmid J' (zj I)))) (zX n 1 zN)) _ _ _ _ 13 [some (.ref 0), some (zi a), some (.ref 183), none] []
    refine tz_iconst (pc := 13) dL_count_13 ?_
    exact tz_iret (pc := 14) (z := 1) dL_count_14 rfl (Nat.le_of_ble_eq_true rfl) (Nat.le_of_ble_eq_true rfl) ⟨by omega, by omega⟩ ⟨_, rfl, (by decide), ⟨Or.inr ⟨hc9, rfl⟩, (zOf.mono fx zmid_of)⟩⟩

set_option maxHeartbeats 4000000 in
set_option maxRecDepth 100000 in
theorem cw_bound {l : Launch} {G : tb_G} (hl : l.stackTraces = false) (n : Nat) (I : tb_I) (F : tb_Fr I) (a : Int) (hr_a : -2147483648 ≤ a ∧ a < 2147483648)   : tz_Okw l G M_L_bound 7 1 6 [.ref 0, zi a, .ref 183] n (zj I) (zqi (fun z J' => (((0 ≤ a ∧ a ≤ 7) ∧ z = 0 ∧ J' 183 0 = ((-1))) ∨ (¬ (0 ≤ a ∧ a ≤ 7) ∧ z = 1)) ∧ zOf zmid J' (zj I))) zN := by
  refine tz_Okw.of hl (by decide +kernel) (tb_c1 rfl) (Nat.le_of_ble_eq_true rfl) ?_
  show tz_At l G M_L_bound (tb_rm 7 1 6) none (tb_ZM G 1 6 (zQ n 1 (zqi (fun z J' => (((0 ≤ a ∧ a ≤ 7) ∧ z = 0 ∧ J' 183 0 = ((-1))) ∨ (¬ (0 ≤ a ∧ a ≤ 7) ∧ z = 1)) ∧ zOf zmid J' (zj I)))) (zX n 1 zN)) 0 0 n (zj I) 0 [some (.ref 0), some (zi a), some (.ref 183), none] []
  refine tz_aload_n (pc := 0) dL_bound_0 rfl rfl ?_
  refine tz_iconst (pc := 1) dL_bound_1 ?_
  refine tz_aload_n (pc := 2) dL_bound_2 rfl rfl ?_
  refine tz_iload_n (pc := 3) dL_bound_3 rfl rfl ?_
  refine tz_cVX (pc := 4) (c1_bound hl _ I F _ hr_a) vl_L_48 dL_bound_4 o_0 rfl rfl (Nat.le_of_ble_eq_true rfl) ⟨(Nat.le_of_ble_eq_true rfl), (Nat.le_of_ble_eq_true rfl)⟩ rfl rfl (Nat.le_of_ble_eq_true rfl) (Nat.le_of_ble_eq_true rfl) (fun r9 n_4 J_4 hn1_4 hn2_4 hq9 => ?_) (fun E9 n_4 J_4 hn1_4 hn2_4 hx9 => ?_)
  · obtain ⟨z_4, rfl, hz_4, ⟨hv, hcd⟩, fq⟩ := hq9
    refine tz_i2l (pc := 7) dL_bound_7 ?_
    refine tz_last (pc := 8) (z := 0) dL_bound_8 l_183 rfl (by decide) (by omega) ?_
    refine tz_goto (pc := 9) (tgt := 15) dL_bound_9 (by decide) ?_
    refine tz_iconst (pc := 15) dL_bound_15 ?_
    exact tz_iret (pc := 16) (z := 0) dL_bound_16 rfl (Nat.le_of_ble_eq_true rfl) (Nat.le_of_ble_eq_true rfl) ⟨by omega, by omega⟩ ⟨_, rfl, (by decide), ⟨Or.inl ⟨hcd, rfl, hv⟩, (zOf.up rfl (zOf.mono fq zmid_of))⟩⟩
  · obtain ⟨⟨rfl, hc9⟩, fx⟩ := hx9
    refine tz_catch [] _ [] rfl (fun _ h => nomatch h) (by decide) (by decide) cw_L_18 (by decide) dL_bound_12 rfl (by decide) ?_
    show tz_At l G M_L_bound (tb_rm 7 1 6) none (tb_ZM G 1 6 (zQ n 1 (zqi (fun z J' => (((0 ≤ a ∧ a ≤ 7) ∧ z = 0 ∧ J' 183 0 = ((-1))) ∨ (¬ (0 ≤ a ∧ a ≤ 7) ∧ z = 1)) ∧ zOf zmid J' (zj I)))) (zX n 1 zN)) _ _ _ _ 13 [some (.ref 0), some (zi a), some (.ref 183), none] []
    refine tz_iconst (pc := 13) dL_bound_13 ?_
    exact tz_iret (pc := 14) (z := 1) dL_bound_14 rfl (Nat.le_of_ble_eq_true rfl) (Nat.le_of_ble_eq_true rfl) ⟨by omega, by omega⟩ ⟨_, rfl, (by decide), ⟨Or.inr ⟨hc9, rfl⟩, (zOf.mono fx zmid_of)⟩⟩

set_option maxHeartbeats 4000000 in
set_option maxRecDepth 100000 in
theorem cw_years {l : Launch} {G : tb_G} (hl : l.stackTraces = false) (n : Nat) (I : tb_I) (F : tb_Fr I) (a : Int) (b : Int) (c : Int) (hr_a : -2147483648 ≤ a ∧ a < 2147483648) (hr_b : -2147483648 ≤ b ∧ b < 2147483648) (hr_c : -2147483648 ≤ c ∧ c < 2147483648)   : tz_Okw l G M_L_years 8 1 6 [.ref 0, zi a, zi b, zi c, .ref 183] n (zj I) (zqi (fun z J' => (((0 ≤ c ∧ c ≤ 2) ∧ (0 ≤ b ∧ b ≤ 20) ∧ z = 0 ∧ J' 183 0 = 0) ∨ (¬ (0 ≤ c ∧ c ≤ 2) ∧ z = 1) ∨ ((0 ≤ c ∧ c ≤ 2) ∧ ¬ (0 ≤ b ∧ b ≤ 20) ∧ z = 2)) ∧ zOf zmid J' (zj I))) zN := by
  refine tz_Okw.of hl (by decide +kernel) (tb_c1 rfl) (Nat.le_of_ble_eq_true rfl) ?_
  show tz_At l G M_L_years (tb_rm 8 1 6) none (tb_ZM G 1 6 (zQ n 1 (zqi (fun z J' => (((0 ≤ c ∧ c ≤ 2) ∧ (0 ≤ b ∧ b ≤ 20) ∧ z = 0 ∧ J' 183 0 = 0) ∨ (¬ (0 ≤ c ∧ c ≤ 2) ∧ z = 1) ∨ ((0 ≤ c ∧ c ≤ 2) ∧ ¬ (0 ≤ b ∧ b ≤ 20) ∧ z = 2)) ∧ zOf zmid J' (zj I)))) (zX n 1 zN)) 0 0 n (zj I) 0 [some (.ref 0), some (zi a), some (zi b), some (zi c), some (.ref 183), none] []
  refine tz_aload (pc := 0) dL_years_0 rfl ?_
  refine tz_iconst (pc := 2) dL_years_2 ?_
  refine tz_aload_n (pc := 3) dL_years_3 rfl rfl ?_
  refine tz_iload_n (pc := 4) dL_years_4 rfl rfl ?_
  refine tz_iload_n (pc := 5) dL_years_5 rfl rfl ?_
  refine tz_iload_n (pc := 6) dL_years_6 rfl rfl ?_
  refine tz_cVX (pc := 7) (c1_years hl _ I F _ _ _ hr_a hr_b hr_c) vl_L_51 dL_years_7 o_0 rfl rfl (Nat.le_of_ble_eq_true rfl) ⟨(Nat.le_of_ble_eq_true rfl), (Nat.le_of_ble_eq_true rfl)⟩ rfl rfl (Nat.le_of_ble_eq_true rfl) (Nat.le_of_ble_eq_true rfl) (fun r9 n_7 J_7 hn1_7 hn2_7 hq9 => ?_) (fun E9 n_7 J_7 hn1_7 hn2_7 hx9 => ?_)
  · obtain ⟨z_7, rfl, hz_7, ⟨hv, hcd⟩, fq⟩ := hq9
    refine tz_i2l (pc := 10) dL_years_10 ?_
    refine tz_last (pc := 11) (z := 0) dL_years_11 l_183 rfl (by decide) (by omega) ?_
    refine tz_goto (pc := 12) (tgt := 23) dL_years_12 (by decide) ?_
    refine tz_iconst (pc := 23) dL_years_23 ?_
    exact tz_iret (pc := 24) (z := 0) dL_years_24 rfl (Nat.le_of_ble_eq_true rfl) (Nat.le_of_ble_eq_true rfl) ⟨by omega, by omega⟩ ⟨_, rfl, (by decide), ⟨Or.inl ⟨hcd.1, hcd.2, rfl, hv⟩, (zOf.up rfl (zOf.mono fq zmid_of))⟩⟩
  · obtain ⟨hx1, fx⟩ := hx9
    rcases hx1 with ⟨rfl, hc9⟩ | ⟨rfl, hc9⟩
    · refine tz_catchA [] _ [_] rfl (fun _ h => nomatch h) (by decide) (by decide) cw_L_18 (by decide) dL_years_15 (by decide) ?_
      show tz_At l G M_L_years (tb_rm 8 1 6) none (tb_ZM G 1 6 (zQ n 1 (zqi (fun z J' => (((0 ≤ c ∧ c ≤ 2) ∧ (0 ≤ b ∧ b ≤ 20) ∧ z = 0 ∧ J' 183 0 = 0) ∨ (¬ (0 ≤ c ∧ c ≤ 2) ∧ z = 1) ∨ ((0 ≤ c ∧ c ≤ 2) ∧ ¬ (0 ≤ b ∧ b ≤ 20) ∧ z = 2)) ∧ zOf zmid J' (zj I)))) (zX n 1 zN)) _ _ _ _ 17 [some (.ref 0), some (zi a), some (zi b), some (zi c), some (.ref 183), none] []
      refine tz_iconst (pc := 17) dL_years_17 ?_
      exact tz_iret (pc := 18) (z := 1) dL_years_18 rfl (Nat.le_of_ble_eq_true rfl) (Nat.le_of_ble_eq_true rfl) ⟨by omega, by omega⟩ ⟨_, rfl, (by decide), ⟨Or.inr (Or.inl ⟨hc9, rfl⟩), (zOf.mono fx zmid_of)⟩⟩
    · refine tz_catchA [_] _ [] rfl (fun z hz => by rw [List.mem_singleton] at hz; subst hz; exact Or.inr ⟨by decide, _, cw_L_18, by decide⟩) (by decide) (by decide) cw_L_13 (by decide) dL_years_19 (by decide) ?_
      show tz_At l G M_L_years (tb_rm 8 1 6) none (tb_ZM G 1 6 (zQ n 1 (zqi (fun z J' => (((0 ≤ c ∧ c ≤ 2) ∧ (0 ≤ b ∧ b ≤ 20) ∧ z = 0 ∧ J' 183 0 = 0) ∨ (¬ (0 ≤ c ∧ c ≤ 2) ∧ z = 1) ∨ ((0 ≤ c ∧ c ≤ 2) ∧ ¬ (0 ≤ b ∧ b ≤ 20) ∧ z = 2)) ∧ zOf zmid J' (zj I)))) (zX n 1 zN)) _ _ _ _ 21 [some (.ref 0), some (zi a), some (zi b), some (zi c), some (.ref 183), none] []
      refine tz_iconst (pc := 21) dL_years_21 ?_
      exact tz_iret (pc := 22) (z := 2) dL_years_22 rfl (Nat.le_of_ble_eq_true rfl) (Nat.le_of_ble_eq_true rfl) ⟨by omega, by omega⟩ ⟨_, rfl, (by decide), ⟨Or.inr (Or.inr ⟨hc9.1, hc9.2, rfl⟩), (zOf.mono fx zmid_of)⟩⟩

