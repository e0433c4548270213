/-! a ledger's row f with m terms -/
def LI (f : Int → Int) (m : Int) : Prop := ((0 ≤ f 1 ∧ f 1 ≤ 9) ∧ (0 ≤ f 4 ∧ f 4 ≤ 8) ∧ (0 ≤ f 5 ∧ f 5 ≤ 12) ∧ (0 ≤ f 6 ∧ f 6 ≤ 9)) ∧ (∀ v, 0 ≤ v → v < 8 → -1 ≤ f (7 + v) ∧ f (7 + v) < m) ∧ (∀ i, 0 ≤ i → i < f 4 → (0 ≤ f (15 + i) ∧ f (15 + i) < m) ∧ (0 ≤ f (23 + i) ∧ f (23 + i) < m)) ∧ (∀ i, 0 ≤ i → i < f 5 → 0 ≤ f (31 + i) ∧ f (31 + i) < m) ∧ ∀ i, 0 ≤ i → i < f 6 → (0 ≤ f (43 + i) ∧ f (43 + i) < m) ∧ (0 ≤ f (52 + i) ∧ f (52 + i) < m)
theorem LI.mono {f : Int → Int} {m m' : Int} (h : LI f m) (hm : m ≤ m') : LI f m' := by
  obtain ⟨h1, h2, h3, h4, h5⟩ := h
  exact ⟨h1, fun v a b => by have := h2 v a b; omega, fun i a b => by have := h3 i a b; omega, fun i a b => by have := h4 i a b; omega, fun i a b => by have := h5 i a b; omega⟩
/-- one row of a cell moved down by one, from w to l -/
def zsh (J : zJ) (c : Nat) (b w l : Int) : zJ := fun c' => if c' = c then (fun k => if b + w ≤ k ∧ k < b + l then J c (k + 1) else J c k) else J c'
theorem zsh_0 {J : zJ} {c : Nat} {b w : Int} : zsh J c b w w = J := by
  funext c' k
  unfold zsh
  by_cases h : c' = c
  · subst h
    rw [if_pos rfl, if_neg (by omega)]
  · rw [if_neg h]
theorem zsh_s {J : zJ} {c : Nat} {b w i : Int} (h : w ≤ i) : zup (zsh J c b w i) c (b + i) (zsh J c b w i c (b + i + 1)) = zsh J c b w (i + 1) := by
  funext c' k
  unfold zup zsh
  by_cases h9 : c' = c
  · subst h9
    simp only [if_true]
    by_cases e : k = b + i
    · subst e
      rw [if_pos rfl, if_neg (by omega), if_pos (by omega)]
    · rw [if_neg e]
      by_cases g : b + w ≤ k ∧ k < b + i
      · rw [if_pos g, if_pos (by omega)]
      · rw [if_neg g, if_neg (by omega)]
  · rw [if_neg h9, if_neg h9, if_neg h9]
/-- the memo's two rows moved down by one, from w to l -/
def zdm (J : zJ) (w l : Int) : zJ := fun c' => if c' = 19 then (fun k => if (43 + w ≤ k ∧ k < 43 + l) ∨ (52 + w ≤ k ∧ k < 52 + l) then J 19 (k + 1) else J 19 k) else J c'
theorem zdm_0 {J : zJ} {w : Int} : zdm J w w = J := by
  funext c' k
  unfold zdm
  by_cases h : c' = 19
  · subst h
    rw [if_pos rfl, if_neg (by omega)]
  · rw [if_neg h]
theorem zdm_rd {J : zJ} {w i k : Int} (h : ¬ ((43 + w ≤ k ∧ k < 43 + i) ∨ (52 + w ≤ k ∧ k < 52 + i))) : zdm J w i 19 k = J 19 k := by
  unfold zdm
  rw [if_pos rfl, if_neg h]
theorem zdm_s {J : zJ} {w i : Int} (h : 0 ≤ w ∧ w ≤ i ∧ i < 8) : zup (zup (zdm J w i) 19 (43 + i) (zdm J w i 19 (43 + i + 1))) 19 (52 + i) (zdm J w i 19 (52 + i + 1)) = zdm J w (i + 1) := by
  rw [zdm_rd (k := 43 + i + 1) (by omega), zdm_rd (k := 52 + i + 1) (by omega)]
  funext c' k
  unfold zup zdm
  by_cases h9 : c' = 19
  · subst h9
    simp only [if_true]
    by_cases e : k = 52 + i
    · subst e
      rw [if_pos rfl, if_pos (by omega)]
    · rw [if_neg e]
      by_cases e2 : k = 43 + i
      · subst e2
        rw [if_pos rfl, if_pos (by omega)]
      · rw [if_neg e2]
        by_cases g : (43 + w ≤ k ∧ k < 43 + i) ∨ (52 + w ≤ k ∧ k < 52 + i)
        · rw [if_pos g, if_pos (by omega)]
        · rw [if_neg g, if_neg (by omega)]
  · rw [if_neg h9, if_neg h9, if_neg h9, if_neg h9]
def zdE (J : zJ) (w : Int) : zJ := zup (zsh J 19 31 w (J 19 5 - 1)) 19 5 (J 19 5 - 1)
def zdM (J : zJ) (w : Int) : zJ := zup (zdm J w (J 19 6 - 1)) 19 6 (J 19 6 - 1)
def zaM (J : zJ) (t a : Int) : zJ := if J 19 6 < 9 then zup (zup (zup J 19 (43 + J 19 6) t) 19 (52 + J 19 6) a) 19 6 (J 19 6 + 1) else J
def zaR (J : zJ) (x y : Int) : zJ := if J 19 4 < 8 then zup (zup (zup (zup J 19 (15 + J 19 4) x) 19 (23 + J 19 4) y) 19 4 (J 19 4 + 1)) 19 6 0 else J
def zaE (J : zJ) (t : Int) : zJ := if J 19 5 < 12 then zup (zup J 19 (31 + J 19 5) t) 19 5 (J 19 5 + 1) else J
def zrM (J : zJ) (t a : Int) : zJ := if J 19 1 = 0 then J else if J 19 6 ≥ J 19 1 then zaM (zdM J 0) t a else zaM J t a
set_option maxHeartbeats 4000000 in
set_option maxRecDepth 100000 in
theorem c_addRule {l : Launch} {G : tb_G} (hl : l.stackTraces = false) (n : Nat) (J : zJ) (x : Int) (y : Int) (hr_x : -2147483648 ≤ x ∧ x < 2147483648) (hr_y : -2147483648 ≤ y ∧ y < 2147483648)  (h0 : 0 ≤ J 19 4 ∧ J 19 4 ≤ 8) : tz_Ok l G M_X1_addRule 0 0 0 [.ref 18, zi x, zi y] n J (zqv (fun J' => zaR J x y = J')) zN := by
  refine tz_Ok.of hl (by decide +kernel) rfl (tb_c1 rfl) (Nat.le_of_ble_eq_true rfl) ?_
  show tz_At l G M_X1_addRule (tb_rm 0 0 0) none (tb_ZM G 0 0 (zQ n 0 (zqv (fun J' => zaR J x y = J'))) (zX n 0 zN)) 0 0 n J 0 [some (.ref 18), some (zi x), some (zi y), none] []
  refine tz_aload_n (pc := 0) dX1_addRule_0 rfl rfl ?_
  refine tz_fR (pc := 1) dX1_addRule_1 fl_X1_11 r_18_0 ?_
  refine tz_iconst (pc := 4) dX1_addRule_4 ?_
  refine tz_aL (pc := 5) (z := 4) (v := (J 19 4)) dX1_addRule_5 a_19 rfl (by decide) rfl (fun r_5 => ?_)
  refine tz_istore_n (pc := 6) (L2 := [_, _, _, _]) dX1_addRule_6 rfl (by decide) rfl ?_
  refine tz_iload_n (pc := 7) dX1_addRule_7 rfl rfl ?_
  refine tz_bipush (pc := 8) dX1_addRule_8 (by decide) ?_
  refine tz_icmp_ge (pc := 10) (tgt := 50) dX1_addRule_10 (by decide) (by omega) (by decide) (fun h_10 => ?_) (fun h_10 => ?_)
  · exact tz_vret (pc := 50) dX1_addRule_50 rfl (Nat.le_of_ble_eq_true rfl) (Nat.le_of_ble_eq_true rfl) ⟨Nat.le_refl _, Nat.le_add_right _ _⟩ ⟨rfl, (by unfold zaR; first | exact if_pos (by omega) | exact if_neg (by omega))⟩
  · refine tz_aload_n (pc := 13) dX1_addRule_13 rfl rfl ?_
    refine tz_fR (pc := 14) dX1_addRule_14 fl_X1_11 r_18_0 ?_
    refine tz_bipush (pc := 17) dX1_addRule_17 (by decide) ?_
    refine tz_iload_n (pc := 19) dX1_addRule_19 rfl rfl ?_
    refine tz_iadd (pc := 20) (v := 15 + (J 19 4)) dX1_addRule_20 rfl ?_
    refine tz_iload_n (pc := 21) dX1_addRule_21 rfl rfl ?_
    refine tz_aS (pc := 22) (z := (15 + (J 19 4))) dX1_addRule_22 a_19 rfl (by omega) (by omega) ?_
    refine tz_aload_n (pc := 23) dX1_addRule_23 rfl rfl ?_
    refine tz_fR (pc := 24) dX1_addRule_24 fl_X1_11 r_18_0 ?_
    refine tz_bipush (pc := 27) dX1_addRule_27 (by decide) ?_
    refine tz_iload_n (pc := 29) dX1_addRule_29 rfl rfl ?_
    refine tz_iadd (pc := 30) (v := 23 + (J 19 4)) dX1_addRule_30 rfl ?_
    refine tz_iload_n (pc := 31) dX1_addRule_31 rfl rfl ?_
    refine tz_aS (pc := 32) (z := (23 + (J 19 4))) dX1_addRule_32 a_19 rfl (by omega) (by omega) ?_
    refine tz_aload_n (pc := 33) dX1_addRule_33 rfl rfl ?_
    refine tz_fR (pc := 34) dX1_addRule_34 fl_X1_11 r_18_0 ?_
    refine tz_iconst (pc := 37) dX1_addRule_37 ?_
    refine tz_iload_n (pc := 38) dX1_addRule_38 rfl rfl ?_
    refine tz_iconst (pc := 39) dX1_addRule_39 ?_
    refine tz_iadd (pc := 40) (v := (J 19 4) + 1) dX1_addRule_40 rfl ?_
    refine tz_aS (pc := 41) (z := 4) dX1_addRule_41 a_19 rfl (by decide) (by omega) ?_
    refine tz_aload_n (pc := 42) dX1_addRule_42 rfl rfl ?_
    refine tz_fR (pc := 43) dX1_addRule_43 fl_X1_11 r_18_0 ?_
    refine tz_bipush (pc := 46) dX1_addRule_46 (by decide) ?_
    refine tz_iconst (pc := 48) dX1_addRule_48 ?_
    refine tz_aS (pc := 49) (z := 6) dX1_addRule_49 a_19 rfl (by decide) (by decide) ?_
    exact tz_vret (pc := 50) dX1_addRule_50 rfl (Nat.le_of_ble_eq_true rfl) (Nat.le_of_ble_eq_true rfl) ⟨Nat.le_refl _, Nat.le_add_right _ _⟩ ⟨rfl, (by unfold zaR; first | exact if_pos (by omega) | exact if_neg (by omega))⟩

set_option maxHeartbeats 4000000 in
set_option maxRecDepth 100000 in
theorem c_tellRoom {l : Launch} {G : tb_G} (hl : l.stackTraces = false) (n : Nat) (J : zJ) (x : Int) (hr_x : -2147483648 ≤ x ∧ x < 2147483648)   : tz_Ok l G M_X1_tellRoom 0 0 0 [.ref 18, zi x] n J (zqv (fun J' => zup (zup J 19 1 x) 19 6 0 = J')) zN := by
  refine tz_Ok.of hl (by decide +kernel) rfl (tb_c1 rfl) (Nat.le_of_ble_eq_true rfl) ?_
  show tz_At l G M_X1_tellRoom (tb_rm 0 0 0) none (tb_ZM G 0 0 (zQ n 0 (zqv (fun J' => zup (zup J 19 1 x) 19 6 0 = J'))) (zX n 0 zN)) 0 0 n J 0 [some (.ref 18), some (zi x)] []
  refine tz_aload_n (pc := 0) dX1_tellRoom_0 rfl rfl ?_
  refine tz_fR (pc := 1) dX1_tellRoom_1 fl_X1_11 r_18_0 ?_
  refine tz_iconst (pc := 4) dX1_tellRoom_4 ?_
  refine tz_iload_n (pc := 5) dX1_tellRoom_5 rfl rfl ?_
  refine tz_aS (pc := 6) (z := 1) dX1_tellRoom_6 a_19 rfl (by decide) (by omega) ?_
  refine tz_aload_n (pc := 7) dX1_tellRoom_7 rfl rfl ?_
  refine tz_fR (pc := 8) dX1_tellRoom_8 fl_X1_11 r_18_0 ?_
  refine tz_bipush (pc := 11) dX1_tellRoom_11 (by decide) ?_
  refine tz_iconst (pc := 13) dX1_tellRoom_13 ?_
  refine tz_aS (pc := 14) (z := 6) dX1_tellRoom_14 a_19 rfl (by decide) (by decide) ?_
  exact tz_vret (pc := 15) dX1_tellRoom_15 rfl (Nat.le_of_ble_eq_true rfl) (Nat.le_of_ble_eq_true rfl) ⟨Nat.le_refl _, Nat.le_add_right _ _⟩ ⟨rfl, rfl⟩

set_option maxHeartbeats 4000000 in
set_option maxRecDepth 100000 in
theorem c_addEntry {l : Launch} {G : tb_G} (hl : l.stackTraces = false) (n : Nat) (J : zJ) (x : Int) (hr_x : -2147483648 ≤ x ∧ x < 2147483648)  (h0 : 0 ≤ J 19 5 ∧ J 19 5 ≤ 12) : tz_Ok l G M_X1_addEntry 0 0 0 [.ref 18, zi x] n J (zqv (fun J' => zaE J x = J')) zN := by
  refine tz_Ok.of hl (by decide +kernel) rfl (tb_c1 rfl) (Nat.le_of_ble_eq_true rfl) ?_
  show tz_At l G M_X1_addEntry (tb_rm 0 0 0) none (tb_ZM G 0 0 (zQ n 0 (zqv (fun J' => zaE J x = J'))) (zX n 0 zN)) 0 0 n J 0 [some (.ref 18), some (zi x), none] []
  refine tz_aload_n (pc := 0) dX1_addEntry_0 rfl rfl ?_
  refine tz_fR (pc := 1) dX1_addEntry_1 fl_X1_11 r_18_0 ?_
  refine tz_iconst (pc := 4) dX1_addEntry_4 ?_
  refine tz_aL (pc := 5) (z := 5) (v := (J 19 5)) dX1_addEntry_5 a_19 rfl (by decide) rfl (fun r_5 => ?_)
  refine tz_istore_n (pc := 6) (L2 := [_, _, _]) dX1_addEntry_6 rfl (by decide) rfl ?_
  refine tz_iload_n (pc := 7) dX1_addEntry_7 rfl rfl ?_
  refine tz_bipush (pc := 8) dX1_addEntry_8 (by decide) ?_
  refine tz_icmp_ge (pc := 10) (tgt := 32) dX1_addEntry_10 (by decide) (by omega) (by decide) (fun h_10 => ?_) (fun h_10 => ?_)
  · exact tz_vret (pc := 32) dX1_addEntry_32 rfl (Nat.le_of_ble_eq_true rfl) (Nat.le_of_ble_eq_true rfl) ⟨Nat.le_refl _, Nat.le_add_right _ _⟩ ⟨rfl, (by unfold zaE; first | exact if_pos (by omega) | exact if_neg (by omega))⟩
  · refine tz_aload_n (pc := 13) dX1_addEntry_13 rfl rfl ?_
    refine tz_fR (pc := 14) dX1_addEntry_14 fl_X1_11 r_18_0 ?_
    refine tz_bipush (pc := 17) dX1_addEntry_17 (by decide) ?_
    refine tz_iload_n (pc := 19) dX1_addEntry_19 rfl rfl ?_
    refine tz_iadd (pc := 20) (v := 31 + (J 19 5)) dX1_addEntry_20 rfl ?_
    refine tz_iload_n (pc := 21) dX1_addEntry_21 rfl rfl ?_
    refine tz_aS (pc := 22) (z := (31 + (J 19 5))) dX1_addEntry_22 a_19 rfl (by omega) (by omega) ?_
    refine tz_aload_n (pc := 23) dX1_addEntry_23 rfl rfl ?_
    refine tz_fR (pc := 24) dX1_addEntry_24 fl_X1_11 r_18_0 ?_
    refine tz_iconst (pc := 27) dX1_addEntry_27 ?_
    refine tz_iload_n (pc := 28) dX1_addEntry_28 rfl rfl ?_
    refine tz_iconst (pc := 29) dX1_addEntry_29 ?_
    refine tz_iadd (pc := 30) (v := (J 19 5) + 1) dX1_addEntry_30 rfl ?_
    refine tz_aS (pc := 31) (z := 5) dX1_addEntry_31 a_19 rfl (by decide) (by omega) ?_
    exact tz_vret (pc := 32) dX1_addEntry_32 rfl (Nat.le_of_ble_eq_true rfl) (Nat.le_of_ble_eq_true rfl) ⟨Nat.le_refl _, Nat.le_add_right _ _⟩ ⟨rfl, (by unfold zaE; first | exact if_pos (by omega) | exact if_neg (by omega))⟩

set_option maxHeartbeats 4000000 in
set_option maxRecDepth 100000 in
theorem c_addMemo {l : Launch} {G : tb_G} (hl : l.stackTraces = false) (n : Nat) (J : zJ) (x : Int) (y : Int) (hr_x : -2147483648 ≤ x ∧ x < 2147483648) (hr_y : -2147483648 ≤ y ∧ y < 2147483648)  (h0 : 0 ≤ J 19 6 ∧ J 19 6 ≤ 9) : tz_Ok l G M_X1_addMemo 0 0 0 [.ref 18, zi x, zi y] n J (zqv (fun J' => zaM J x y = J')) zN := by
  refine tz_Ok.of hl (by decide +kernel) rfl (tb_c1 rfl) (Nat.le_of_ble_eq_true rfl) ?_
  show tz_At l G M_X1_addMemo (tb_rm 0 0 0) none (tb_ZM G 0 0 (zQ n 0 (zqv (fun J' => zaM J x y = J'))) (zX n 0 zN)) 0 0 n J 0 [some (.ref 18), some (zi x), some (zi y), none] []
  refine tz_aload_n (pc := 0) dX1_addMemo_0 rfl rfl ?_
  refine tz_fR (pc := 1) dX1_addMemo_1 fl_X1_11 r_18_0 ?_
  refine tz_bipush (pc := 4) dX1_addMemo_4 (by decide) ?_
  refine tz_aL (pc := 6) (z := 6) (v := (J 19 6)) dX1_addMemo_6 a_19 rfl (by decide) rfl (fun r_6 => ?_)
  refine tz_istore_n (pc := 7) (L2 := [_, _, _, _]) dX1_addMemo_7 rfl (by decide) rfl ?_
  refine tz_iload_n (pc := 8) dX1_addMemo_8 rfl rfl ?_
  refine tz_bipush (pc := 9) dX1_addMemo_9 (by decide) ?_
  refine tz_icmp_ge (pc := 11) (tgt := 44) dX1_addMemo_11 (by decide) (by omega) (by decide) (fun h_11 => ?_) (fun h_11 => ?_)
  · exact tz_vret (pc := 44) dX1_addMemo_44 rfl (Nat.le_of_ble_eq_true rfl) (Nat.le_of_ble_eq_true rfl) ⟨Nat.le_refl _, Nat.le_add_right _ _⟩ ⟨rfl, (by unfold zaM; first | exact if_pos (by omega) | exact if_neg (by omega))⟩
  · refine tz_aload_n (pc := 14) dX1_addMemo_14 rfl rfl ?_
    refine tz_fR (pc := 15) dX1_addMemo_15 fl_X1_11 r_18_0 ?_
    refine tz_bipush (pc := 18) dX1_addMemo_18 (by decide) ?_
    refine tz_iload_n (pc := 20) dX1_addMemo_20 rfl rfl ?_
    refine tz_iadd (pc := 21) (v := 43 + (J 19 6)) dX1_addMemo_21 rfl ?_
    refine tz_iload_n (pc := 22) dX1_addMemo_22 rfl rfl ?_
    refine tz_aS (pc := 23) (z := (43 + (J 19 6))) dX1_addMemo_23 a_19 rfl (by omega) (by omega) ?_
    refine tz_aload_n (pc := 24) dX1_addMemo_24 rfl rfl ?_
    refine tz_fR (pc := 25) dX1_addMemo_25 fl_X1_11 r_18_0 ?_
    refine tz_bipush (pc := 28) dX1_addMemo_28 (by decide) ?_
    refine tz_iload_n (pc := 30) dX1_addMemo_30 rfl rfl ?_
    refine tz_iadd (pc := 31) (v := 52 + (J 19 6)) dX1_addMemo_31 rfl ?_
    refine tz_iload_n (pc := 32) dX1_addMemo_32 rfl rfl ?_
    refine tz_aS (pc := 33) (z := (52 + (J 19 6))) dX1_addMemo_33 a_19 rfl (by omega) (by omega) ?_
    refine tz_aload_n (pc := 34) dX1_addMemo_34 rfl rfl ?_
    refine tz_fR (pc := 35) dX1_addMemo_35 fl_X1_11 r_18_0 ?_
    refine tz_bipush (pc := 38) dX1_addMemo_38 (by decide) ?_
    refine tz_iload_n (pc := 40) dX1_addMemo_40 rfl rfl ?_
    refine tz_iconst (pc := 41) dX1_addMemo_41 ?_
    refine tz_iadd (pc := 42) (v := (J 19 6) + 1) dX1_addMemo_42 rfl ?_
    refine tz_aS (pc := 43) (z := 6) dX1_addMemo_43 a_19 rfl (by decide) (by omega) ?_
    exact tz_vret (pc := 44) dX1_addMemo_44 rfl (Nat.le_of_ble_eq_true rfl) (Nat.le_of_ble_eq_true rfl) ⟨Nat.le_refl _, Nat.le_add_right _ _⟩ ⟨rfl, (by unfold zaM; first | exact if_pos (by omega) | exact if_neg (by omega))⟩

set_option maxHeartbeats 4000000 in
set_option maxRecDepth 100000 in
theorem c_entryOf {l : Launch} {G : tb_G} (hl : l.stackTraces = false) (n : Nat) (J : zJ) (t : Int) (hr_t : -2147483648 ≤ t ∧ t < 2147483648)  (h0 : 0 ≤ J 19 5 ∧ J 19 5 ≤ 12) : tz_Ok l G M_X1_entryOf 0 0 0 [.ref 18, zi t] n J (zqi (fun z J' => J = J' ∧ ((0 ≤ z ∧ z < J 19 5 ∧ J 19 (31 + z) = t ∧ ∀ i, 0 ≤ i → i < z → ¬ J 19 (31 + i) = t) ∨ (z = -1 ∧ ∀ i, 0 ≤ i → i < J 19 5 → ¬ J 19 (31 + i) = t)))) zN := by
  refine tz_Ok.of hl (by decide +kernel) rfl (tb_c1 rfl) (Nat.le_of_ble_eq_true rfl) ?_
  show tz_At l G M_X1_entryOf (tb_rm 0 0 0) none (tb_ZM G 0 0 (zQ n 0 (zqi (fun z J' => J = J' ∧ ((0 ≤ z ∧ z < J 19 5 ∧ J 19 (31 + z) = t ∧ ∀ i, 0 ≤ i → i < z → ¬ J 19 (31 + i) = t) ∨ (z = -1 ∧ ∀ i, 0 ≤ i → i < J 19 5 → ¬ J 19 (31 + i) = t))))) (zX n 0 zN)) 0 0 n J 0 [some (.ref 18), some (zi t), none] []
  refine tz_iconst (pc := 0) dX1_entryOf_0 ?_
  refine tz_istore_n (pc := 1) (L2 := [_, _, _]) dX1_entryOf_1 rfl (by decide) rfl ?_
  have loop2 : ∀ (f9 : Nat) (i : Int), ((J 19 5 - i).toNat) < f9 → (0 ≤ i ∧ i ≤ J 19 5) → (∀ q, 0 ≤ q → q < i → ¬ J 19 (31 + q) = t) → tz_At l G M_X1_entryOf (tb_rm 0 0 0) none (tb_ZM G 0 0 (zQ n 0 (zqi (fun z J' => J = J' ∧ ((0 ≤ z ∧ z < J 19 5 ∧ J 19 (31 + z) = t ∧ ∀ i, 0 ≤ i → i < z → ¬ J 19 (31 + i) = t) ∨ (z = -1 ∧ ∀ i, 0 ≤ i → i < J 19 5 → ¬ J 19 (31 + i) = t))))) (zX n 0 zN)) 0 0 n J 2 [some (.ref 18), some (zi t), some (zi i)] [] := by
    intro f9
    induction f9 with
    | zero => intro i hm9; exact absurd hm9 (Nat.not_lt_zero _)
    | succ f9 ih2 =>
      intro i hm2 hi hn
      refine tz_iload_n (pc := 2) dX1_entryOf_2 rfl rfl ?_
      refine tz_aload_n (pc := 3) dX1_entryOf_3 rfl rfl ?_
      refine tz_fR (pc := 4) dX1_entryOf_4 fl_X1_11 r_18_0 ?_
      refine tz_iconst (pc := 7) dX1_entryOf_7 ?_
      refine tz_aL (pc := 8) (z := 5) (v := (J 19 5)) dX1_entryOf_8 a_19 rfl (by decide) rfl (fun r_8 => ?_)
      refine tz_icmp_ge (pc := 9) (tgt := 33) dX1_entryOf_9 (by decide) (by omega) (by omega) (fun h_9 => ?_) (fun h_9 => ?_)
      · refine tz_iconst (pc := 33) dX1_entryOf_33 ?_
        exact tz_iret (pc := 34) (z := (-1)) dX1_entryOf_34 rfl (Nat.le_of_ble_eq_true rfl) (Nat.le_of_ble_eq_true rfl) ⟨Nat.le_refl _, Nat.le_add_right _ _⟩ ⟨_, rfl, (by decide), ⟨rfl, by first | exact Or.inl ⟨by omega, by omega, by omega, hn⟩ | exact Or.inr ⟨rfl, fun q a b => hn q a (by omega)⟩⟩⟩
      · refine tz_aload_n (pc := 12) dX1_entryOf_12 rfl rfl ?_
        refine tz_fR (pc := 13) dX1_entryOf_13 fl_X1_11 r_18_0 ?_
        refine tz_bipush (pc := 16) dX1_entryOf_16 (by decide) ?_
        refine tz_iload_n (pc := 18) dX1_entryOf_18 rfl rfl ?_
        refine tz_iadd (pc := 19) (v := 31 + i) dX1_entryOf_19 rfl ?_
        refine tz_aL (pc := 20) (z := (31 + i)) (v := (J 19 (31 + i))) dX1_entryOf_20 a_19 rfl (by omega) rfl (fun r_20 => ?_)
        refine tz_iload_n (pc := 21) dX1_entryOf_21 rfl rfl ?_
        refine tz_icmp_ne (pc := 22) (tgt := 27) dX1_entryOf_22 (by decide) (by omega) (by omega) (fun h_22 => ?_) (fun h_22 => ?_)
        · refine tz_iinc (pc := 27) (z := i + 1) (L2 := [_, _, _]) dX1_entryOf_27 rfl (by omega) rfl ?_
          refine tz_goto (pc := 30) (tgt := 2) dX1_entryOf_30 (by decide) ?_
          exact ih2 (i + 1) (by omega) (by omega) (fun q a b => (Decidable.em (q = i)).elim (fun e => by rw [e]; omega) (fun e => hn q a (by omega)))
        · refine tz_iload_n (pc := 25) dX1_entryOf_25 rfl rfl ?_
          exact tz_iret (pc := 26) (z := i) dX1_entryOf_26 rfl (Nat.le_of_ble_eq_true rfl) (Nat.le_of_ble_eq_true rfl) ⟨Nat.le_refl _, Nat.le_add_right _ _⟩ ⟨_, rfl, (by omega), ⟨rfl, by first | exact Or.inl ⟨by omega, by omega, by omega, hn⟩ | exact Or.inr ⟨rfl, fun q a b => hn q a (by omega)⟩⟩⟩
  exact loop2 _ 0 (Nat.lt_succ_self _) (by omega) (fun q a b => by omega)

set_option maxHeartbeats 4000000 in
set_option maxRecDepth 100000 in
theorem c_named {l : Launch} {G : tb_G} (hl : l.stackTraces = false) (n : Nat) (J : zJ) (t : Int) (hr_t : -2147483648 ≤ t ∧ t < 2147483648)  (h0 : 0 ≤ J 1 3 ∧ J 1 3 ≤ 10) : tz_Ok l G M_X8_named 0 0 0 [.ref 1, zi t] n J (zqi (fun z J' => J = J' ∧ ((0 ≤ z ∧ z < J 1 3 ∧ J 2 z = t ∧ ∀ i, 0 ≤ i → i < z → ¬ J 2 i = t) ∨ (z = -1 ∧ ∀ i, 0 ≤ i → i < J 1 3 → ¬ J 2 i = t)))) zN := by
  refine tz_Ok.of hl (by decide +kernel) rfl (tb_c1 rfl) (Nat.le_of_ble_eq_true rfl) ?_
  show tz_At l G M_X8_named (tb_rm 0 0 0) none (tb_ZM G 0 0 (zQ n 0 (zqi (fun z J' => J = J' ∧ ((0 ≤ z ∧ z < J 1 3 ∧ J 2 z = t ∧ ∀ i, 0 ≤ i → i < z → ¬ J 2 i = t) ∨ (z = -1 ∧ ∀ i, 0 ≤ i → i < J 1 3 → ¬ J 2 i = t))))) (zX n 0 zN)) 0 0 n J 0 [some (.ref 1), some (zi t), none] []
  refine tz_iconst (pc := 0) dX8_named_0 ?_
  refine tz_istore_n (pc := 1) (L2 := [_, _, _]) dX8_named_1 rfl (by decide) rfl ?_
  have loop2 : ∀ (f9 : Nat) (i : Int), ((J 1 3 - i).toNat) < f9 → (0 ≤ i ∧ i ≤ J 1 3) → (∀ q, 0 ≤ q → q < i → ¬ J 2 q = t) → tz_At l G M_X8_named (tb_rm 0 0 0) none (tb_ZM G 0 0 (zQ n 0 (zqi (fun z J' => J = J' ∧ ((0 ≤ z ∧ z < J 1 3 ∧ J 2 z = t ∧ ∀ i, 0 ≤ i → i < z → ¬ J 2 i = t) ∨ (z = -1 ∧ ∀ i, 0 ≤ i → i < J 1 3 → ¬ J 2 i = t))))) (zX n 0 zN)) 0 0 n J 2 [some (.ref 1), some (zi t), some (zi i)] [] := by
    intro f9
    induction f9 with
    | zero => intro i hm9; exact absurd hm9 (Nat.not_lt_zero _)
    | succ f9 ih2 =>
      intro i hm2 hi hn
      refine tz_iload_n (pc := 2) dX8_named_2 rfl rfl ?_
      refine tz_aload_n (pc := 3) dX8_named_3 rfl rfl ?_
      refine tz_fI (pc := 4) (kz := 3) (v := (J 1 3)) dX8_named_4 fl_X8_21 i_1_3 rfl rfl (fun r_4 => ?_)
      refine tz_icmp_ge (pc := 7) (tgt := 28) dX8_named_7 (by decide) (by omega) (by omega) (fun h_7 => ?_) (fun h_7 => ?_)
      · refine tz_iconst (pc := 28) dX8_named_28 ?_
        exact tz_iret (pc := 29) (z := (-1)) dX8_named_29 rfl (Nat.le_of_ble_eq_true rfl) (Nat.le_of_ble_eq_true rfl) ⟨Nat.le_refl _, Nat.le_add_right _ _⟩ ⟨_, rfl, (by decide), ⟨rfl, by first | exact Or.inl ⟨by omega, by omega, by omega, hn⟩ | exact Or.inr ⟨rfl, fun q a b => hn q a (by omega)⟩⟩⟩
      · refine tz_aload_n (pc := 10) dX8_named_10 rfl rfl ?_
        refine tz_fR (pc := 11) dX8_named_11 fl_X8_9 r_1_0 ?_
        refine tz_iload_n (pc := 14) dX8_named_14 rfl rfl ?_
        refine tz_aL (pc := 15) (z := i) (v := (J 2 i)) dX8_named_15 a_2 rfl (by omega) rfl (fun r_15 => ?_)
        refine tz_iload_n (pc := 16) dX8_named_16 rfl rfl ?_
        refine tz_icmp_ne (pc := 17) (tgt := 22) dX8_named_17 (by decide) (by omega) (by omega) (fun h_17 => ?_) (fun h_17 => ?_)
        · refine tz_iinc (pc := 22) (z := i + 1) (L2 := [_, _, _]) dX8_named_22 rfl (by omega) rfl ?_
          refine tz_goto (pc := 25) (tgt := 2) dX8_named_25 (by decide) ?_
          exact ih2 (i + 1) (by omega) (by omega) (fun q a b => (Decidable.em (q = i)).elim (fun e => by rw [e]; omega) (fun e => hn q a (by omega)))
        · refine tz_iload_n (pc := 20) dX8_named_20 rfl rfl ?_
          exact tz_iret (pc := 21) (z := i) dX8_named_21 rfl (Nat.le_of_ble_eq_true rfl) (Nat.le_of_ble_eq_true rfl) ⟨Nat.le_refl _, Nat.le_add_right _ _⟩ ⟨_, rfl, (by omega), ⟨rfl, by first | exact Or.inl ⟨by omega, by omega, by omega, hn⟩ | exact Or.inr ⟨rfl, fun q a b => hn q a (by omega)⟩⟩⟩
  exact loop2 _ 0 (Nat.lt_succ_self _) (by omega) (fun q a b => by omega)

set_option maxHeartbeats 4000000 in
set_option maxRecDepth 100000 in
theorem c_dropEntry {l : Launch} {G : tb_G} (hl : l.stackTraces = false) (n : Nat) (J : zJ) (x : Int) (hr_x : -2147483648 ≤ x ∧ x < 2147483648)  (h0 : 0 ≤ x ∧ x < J 19 5) (h1 : J 19 5 ≤ 12) : tz_Ok l G M_X1_dropEntry 0 0 0 [.ref 18, zi x] n J (zqv (fun J' => zdE J x = J')) zN := by
  refine tz_Ok.of hl (by decide +kernel) rfl (tb_c1 rfl) (Nat.le_of_ble_eq_true rfl) ?_
  show tz_At l G M_X1_dropEntry (tb_rm 0 0 0) none (tb_ZM G 0 0 (zQ n 0 (zqv (fun J' => zdE J x = J'))) (zX n 0 zN)) 0 0 n J 0 [some (.ref 18), some (zi x), none, none] []
  refine tz_aload_n (pc := 0) dX1_dropEntry_0 rfl rfl ?_
  refine tz_fR (pc := 1) dX1_dropEntry_1 fl_X1_11 r_18_0 ?_
  refine tz_iconst (pc := 4) dX1_dropEntry_4 ?_
  refine tz_aL (pc := 5) (z := 5) (v := (J 19 5)) dX1_dropEntry_5 a_19 rfl (by decide) rfl (fun r_5 => ?_)
  refine tz_iconst (pc := 6) dX1_dropEntry_6 ?_
  refine tz_isub (pc := 7) (v := (J 19 5) - 1) dX1_dropEntry_7 rfl ?_
  refine tz_istore_n (pc := 8) (L2 := [_, _, _, _]) dX1_dropEntry_8 rfl (by decide) rfl ?_
  refine tz_iload_n (pc := 9) dX1_dropEntry_9 rfl rfl ?_
  refine tz_istore_n (pc := 10) (L2 := [_, _, _, _]) dX1_dropEntry_10 rfl (by decide) rfl ?_
  have loop11 : ∀ (f9 : Nat) (i : Int) (J1 : zJ), ((J 19 5 - i).toNat) < f9 → (x ≤ i ∧ i ≤ J 19 5 - 1) → (zOf (zbut [19]) J1 J) → (J1 = zsh J 19 31 x i) → tz_At l G M_X1_dropEntry (tb_rm 0 0 0) none (tb_ZM G 0 0 (zQ n 0 (zqv (fun J' => zdE J x = J'))) (zX n 0 zN)) 0 0 n J1 11 [some (.ref 18), some (zi x), some (zi ((J 19 5) - 1)), some (zi i)] [] := by
    intro f9
    induction f9 with
    | zero => intro i J1 hm9; exact absurd hm9 (Nat.not_lt_zero _)
    | succ f9 ih11 =>
      intro i J1 hm11 hi fr e1
      refine tz_iload_n (pc := 11) dX1_dropEntry_11 rfl rfl ?_
      refine tz_iload_n (pc := 12) dX1_dropEntry_12 rfl rfl ?_
      refine tz_icmp_ge (pc := 13) (tgt := 42) dX1_dropEntry_13 (by decide) (by omega) (by omega) (fun h_13 => ?_) (fun h_13 => ?_)
      · refine tz_aload_n (pc := 42) dX1_dropEntry_42 rfl rfl ?_
        refine tz_fR (pc := 43) dX1_dropEntry_43 fl_X1_11 r_18_0 ?_
        refine tz_iconst (pc := 46) dX1_dropEntry_46 ?_
        refine tz_iload_n (pc := 47) dX1_dropEntry_47 rfl rfl ?_
        refine tz_aS (pc := 48) (z := 5) dX1_dropEntry_48 a_19 rfl (by decide) (by omega) ?_
        exact tz_vret (pc := 49) dX1_dropEntry_49 rfl (Nat.le_of_ble_eq_true rfl) (Nat.le_of_ble_eq_true rfl) ⟨Nat.le_refl _, Nat.le_add_right _ _⟩ ⟨rfl, (by rw [e1, show i = J 19 5 - 1 by omega]; rfl)⟩
      · refine tz_aload_n (pc := 16) dX1_dropEntry_16 rfl rfl ?_
        refine tz_fR (pc := 17) dX1_dropEntry_17 fl_X1_11 r_18_0 ?_
        refine tz_bipush (pc := 20) dX1_dropEntry_20 (by decide) ?_
        refine tz_iload_n (pc := 22) dX1_dropEntry_22 rfl rfl ?_
        refine tz_iadd (pc := 23) (v := 31 + i) dX1_dropEntry_23 rfl ?_
        refine tz_aload_n (pc := 24) dX1_dropEntry_24 rfl rfl ?_
        refine tz_fR (pc := 25) dX1_dropEntry_25 fl_X1_11 r_18_0 ?_
        refine tz_bipush (pc := 28) dX1_dropEntry_28 (by decide) ?_
        refine tz_iload_n (pc := 30) dX1_dropEntry_30 rfl rfl ?_
        refine tz_iadd (pc := 31) (v := 31 + i) dX1_dropEntry_31 rfl ?_
        refine tz_iconst (pc := 32) dX1_dropEntry_32 ?_
        refine tz_iadd (pc := 33) (v := (31 + i) + 1) dX1_dropEntry_33 rfl ?_
        refine tz_aL (pc := 34) (z := ((31 + i) + 1)) (v := (J1 19 ((31 + i) + 1))) dX1_dropEntry_34 a_19 rfl (by omega) rfl (fun r_34 => ?_)
        refine tz_aS (pc := 35) (z := (31 + i)) dX1_dropEntry_35 a_19 rfl (by omega) (by omega) ?_
        refine tz_iinc (pc := 36) (z := i + 1) (L2 := [_, _, _, _]) dX1_dropEntry_36 rfl (by omega) rfl ?_
        refine tz_goto (pc := 39) (tgt := 11) dX1_dropEntry_39 (by decide) ?_
        exact ih11 (i + 1) _ (by omega) (by omega) (zOf.up rfl fr) (by rw [e1]; exact zsh_s (by omega))
  exact loop11 _ _ _ (Nat.lt_succ_self _) (by omega) zOf.rf zsh_0.symm

set_option maxHeartbeats 4000000 in
set_option maxRecDepth 100000 in
theorem c_dropMemo {l : Launch} {G : tb_G} (hl : l.stackTraces = false) (n : Nat) (J : zJ) (x : Int) (hr_x : -2147483648 ≤ x ∧ x < 2147483648)  (h0 : 0 ≤ x ∧ x < J 19 6) (h1 : J 19 6 ≤ 9) : tz_Ok l G M_X1_dropMemo 0 0 0 [.ref 18, zi x] n J (zqv (fun J' => zdM J x = J')) zN := by
  refine tz_Ok.of hl (by decide +kernel) rfl (tb_c1 rfl) (Nat.le_of_ble_eq_true rfl) ?_
  show tz_At l G M_X1_dropMemo (tb_rm 0 0 0) none (tb_ZM G 0 0 (zQ n 0 (zqv (fun J' => zdM J x = J'))) (zX n 0 zN)) 0 0 n J 0 [some (.ref 18), some (zi x), none, none] []
  refine tz_aload_n (pc := 0) dX1_dropMemo_0 rfl rfl ?_
  refine tz_fR (pc := 1) dX1_dropMemo_1 fl_X1_11 r_18_0 ?_
  refine tz_bipush (pc := 4) dX1_dropMemo_4 (by decide) ?_
  refine tz_aL (pc := 6) (z := 6) (v := (J 19 6)) dX1_dropMemo_6 a_19 rfl (by decide) rfl (fun r_6 => ?_)
  refine tz_iconst (pc := 7) dX1_dropMemo_7 ?_
  refine tz_isub (pc := 8) (v := (J 19 6) - 1) dX1_dropMemo_8 rfl ?_
  refine tz_istore_n (pc := 9) (L2 := [_, _, _, _]) dX1_dropMemo_9 rfl (by decide) rfl ?_
  refine tz_iload_n (pc := 10) dX1_dropMemo_10 rfl rfl ?_
  refine tz_istore_n (pc := 11) (L2 := [_, _, _, _]) dX1_dropMemo_11 rfl (by decide) rfl ?_
  have loop12 : ∀ (f9 : Nat) (i : Int) (J1 : zJ), ((J 19 6 - i).toNat) < f9 → (x ≤ i ∧ i ≤ J 19 6 - 1) → (zOf (zbut [19]) J1 J) → (J1 = zdm J x i) → tz_At l G M_X1_dropMemo (tb_rm 0 0 0) none (tb_ZM G 0 0 (zQ n 0 (zqv (fun J' => zdM J x = J'))) (zX n 0 zN)) 0 0 n J1 12 [some (.ref 18), some (zi x), some (zi ((J 19 6) - 1)), some (zi i)] [] := by
    intro f9
    induction f9 with
    | zero => intro i J1 hm9; exact absurd hm9 (Nat.not_lt_zero _)
    | succ f9 ih12 =>
      intro i J1 hm12 hi fr e1
      refine tz_iload_n (pc := 12) dX1_dropMemo_12 rfl rfl ?_
      refine tz_iload_n (pc := 13) dX1_dropMemo_13 rfl rfl ?_
      refine tz_icmp_ge (pc := 14) (tgt := 63) dX1_dropMemo_14 (by decide) (by omega) (by omega) (fun h_14 => ?_) (fun h_14 => ?_)
      · refine tz_aload_n (pc := 63) dX1_dropMemo_63 rfl rfl ?_
        refine tz_fR (pc := 64) dX1_dropMemo_64 fl_X1_11 r_18_0 ?_
        refine tz_bipush (pc := 67) dX1_dropMemo_67 (by decide) ?_
        refine tz_iload_n (pc := 69) dX1_dropMemo_69 rfl rfl ?_
        refine tz_aS (pc := 70) (z := 6) dX1_dropMemo_70 a_19 rfl (by decide) (by omega) ?_
        exact tz_vret (pc := 71) dX1_dropMemo_71 rfl (Nat.le_of_ble_eq_true rfl) (Nat.le_of_ble_eq_true rfl) ⟨Nat.le_refl _, Nat.le_add_right _ _⟩ ⟨rfl, (by rw [e1, show i = J 19 6 - 1 by omega]; rfl)⟩
      · refine tz_aload_n (pc := 17) dX1_dropMemo_17 rfl rfl ?_
        refine tz_fR (pc := 18) dX1_dropMemo_18 fl_X1_11 r_18_0 ?_
        refine tz_bipush (pc := 21) dX1_dropMemo_21 (by decide) ?_
        refine tz_iload_n (pc := 23) dX1_dropMemo_23 rfl rfl ?_
        refine tz_iadd (pc := 24) (v := 43 + i) dX1_dropMemo_24 rfl ?_
        refine tz_aload_n (pc := 25) dX1_dropMemo_25 rfl rfl ?_
        refine tz_fR (pc := 26) dX1_dropMemo_26 fl_X1_11 r_18_0 ?_
        refine tz_bipush (pc := 29) dX1_dropMemo_29 (by decide) ?_
        refine tz_iload_n (pc := 31) dX1_dropMemo_31 rfl rfl ?_
        refine tz_iadd (pc := 32) (v := 43 + i) dX1_dropMemo_32 rfl ?_
        refine tz_iconst (pc := 33) dX1_dropMemo_33 ?_
        refine tz_iadd (pc := 34) (v := (43 + i) + 1) dX1_dropMemo_34 rfl ?_
        refine tz_aL (pc := 35) (z := ((43 + i) + 1)) (v := (J1 19 ((43 + i) + 1))) dX1_dropMemo_35 a_19 rfl (by omega) rfl (fun r_35 => ?_)
        refine tz_aS (pc := 36) (z := (43 + i)) dX1_dropMemo_36 a_19 rfl (by omega) (by omega) ?_
        refine tz_aload_n (pc := 37) dX1_dropMemo_37 rfl rfl ?_
        refine tz_fR (pc := 38) dX1_dropMemo_38 fl_X1_11 r_18_0 ?_
        refine tz_bipush (pc := 41) dX1_dropMemo_41 (by decide) ?_
        refine tz_iload_n (pc := 43) dX1_dropMemo_43 rfl rfl ?_
        refine tz_iadd (pc := 44) (v := 52 + i) dX1_dropMemo_44 rfl ?_
        refine tz_aload_n (pc := 45) dX1_dropMemo_45 rfl rfl ?_
        refine tz_fR (pc := 46) dX1_dropMemo_46 fl_X1_11 r_18_0 ?_
        refine tz_bipush (pc := 49) dX1_dropMemo_49 (by decide) ?_
        refine tz_iload_n (pc := 51) dX1_dropMemo_51 rfl rfl ?_
        refine tz_iadd (pc := 52) (v := 52 + i) dX1_dropMemo_52 rfl ?_
        refine tz_iconst (pc := 53) dX1_dropMemo_53 ?_
        refine tz_iadd (pc := 54) (v := (52 + i) + 1) dX1_dropMemo_54 rfl ?_
        refine tz_aL (pc := 55) (z := ((52 + i) + 1)) (v := (J1 19 ((52 + i) + 1))) dX1_dropMemo_55 a_19 rfl (by omega) (Eq.trans (show zup _ 19 (43 + i) (J1 19 ((43 + i) + 1)) 19 ((52 + i) + 1) = _ from zup_ne (by omega)) rfl) (fun r_55 => ?_)
        refine tz_aS (pc := 56) (z := (52 + i)) dX1_dropMemo_56 a_19 rfl (by omega) (by omega) ?_
        refine tz_iinc (pc := 57) (z := i + 1) (L2 := [_, _, _, _]) dX1_dropMemo_57 rfl (by omega) rfl ?_
        refine tz_goto (pc := 60) (tgt := 12) dX1_dropMemo_60 (by decide) ?_
        exact ih12 (i + 1) _ (by omega) (by omega) (zOf.up rfl (zOf.up rfl fr)) (by rw [e1]; exact zdm_s (by omega))
  exact loop12 _ _ _ (Nat.lt_succ_self _) (by omega) zOf.rf zdm_0.symm

theorem zdM_6 {J : zJ} {w : Int} : zdM J w 19 6 = J 19 6 - 1 := zup_at
set_option maxHeartbeats 4000000 in
set_option maxRecDepth 100000 in
theorem c_remember {l : Launch} {G : tb_G} (hl : l.stackTraces = false) (n : Nat) (J : zJ) (x : Int) (y : Int) (hr_x : -2147483648 ≤ x ∧ x < 2147483648) (hr_y : -2147483648 ≤ y ∧ y < 2147483648)  (h0 : 0 ≤ J 19 6 ∧ J 19 6 ≤ 9) (h1 : 0 ≤ J 19 1 ∧ J 19 1 ≤ 9) : tz_Ok l G M_X1_remember 1 0 0 [.ref 18, zi x, zi y] n J (zqv (fun J' => zrM J x y = J')) zN := by
  refine tz_Ok.of hl (by decide +kernel) rfl (tb_c1 rfl) (Nat.le_of_ble_eq_true rfl) ?_
  show tz_At l G M_X1_remember (tb_rm 1 0 0) none (tb_ZM G 0 0 (zQ n 0 (zqv (fun J' => zrM J x y = J'))) (zX n 0 zN)) 0 0 n J 0 [some (.ref 18), some (zi x), some (zi y)] []
  refine tz_aload_n (pc := 0) dX1_remember_0 rfl rfl ?_
  refine tz_fR (pc := 1) dX1_remember_1 fl_X1_11 r_18_0 ?_
  refine tz_iconst (pc := 4) dX1_remember_4 ?_
  refine tz_aL (pc := 5) (z := 1) (v := (J 19 1)) dX1_remember_5 a_19 rfl (by decide) rfl (fun r_5 => ?_)
  refine tz_if_ne (pc := 6) (tgt := 10) dX1_remember_6 (by decide) (by omega) (fun h_6 => ?_) (fun h_6 => ?_)
  · refine tz_aload_n (pc := 10) dX1_remember_10 rfl rfl ?_
    refine tz_fR (pc := 11) dX1_remember_11 fl_X1_11 r_18_0 ?_
    refine tz_bipush (pc := 14) dX1_remember_14 (by decide) ?_
    refine tz_aL (pc := 16) (z := 6) (v := (J 19 6)) dX1_remember_16 a_19 rfl (by decide) rfl (fun r_16 => ?_)
    refine tz_aload_n (pc := 17) dX1_remember_17 rfl rfl ?_
    refine tz_fR (pc := 18) dX1_remember_18 fl_X1_11 r_18_0 ?_
    refine tz_iconst (pc := 21) dX1_remember_21 ?_
    refine tz_aL (pc := 22) (z := 1) (v := (J 19 1)) dX1_remember_22 a_19 rfl (by decide) rfl (fun r_22 => ?_)
    refine tz_icmp_lt (pc := 23) (tgt := 31) dX1_remember_23 (by decide) (by omega) (by omega) (fun h_23 => ?_) (fun h_23 => ?_)
    · refine tz_aload_n (pc := 31) dX1_remember_31 rfl rfl ?_
      refine tz_iload_n (pc := 32) dX1_remember_32 rfl rfl ?_
      refine tz_iload_n (pc := 33) dX1_remember_33 rfl rfl ?_
      refine tz_cV (pc := 34) (c_addMemo hl n _ _ _ (by omega) (by omega) (by first | exact h0 | (rw [zdM_6]; omega))) vl_X1_35 dX1_remember_34 o_18 rfl rfl (Nat.le_of_ble_eq_true rfl) ⟨(Nat.le_of_ble_eq_true rfl), (Nat.le_of_ble_eq_true rfl)⟩ rfl rfl (Nat.le_of_ble_eq_true rfl) (Nat.le_of_ble_eq_true rfl) (fun r9 J_34 hq9 => ?_)
      obtain ⟨rfl, e9⟩ := hq9
      exact tz_vret (pc := 37) dX1_remember_37 rfl (Nat.le_of_ble_eq_true rfl) (Nat.le_of_ble_eq_true rfl) ⟨Nat.le_refl _, Nat.le_add_right _ _⟩ ⟨rfl, (by unfold zrM; first | exact if_pos (by omega) | exact (if_neg (by omega)).trans ((if_pos (by omega)).trans e9) | exact (if_neg (by omega)).trans ((if_neg (by omega)).trans e9))⟩
    · refine tz_aload_n (pc := 26) dX1_remember_26 rfl rfl ?_
      refine tz_iconst (pc := 27) dX1_remember_27 ?_
      refine tz_cV (pc := 28) (c_dropMemo hl n _ _ (by decide) (by omega) (by omega)) vl_X1_31 dX1_remember_28 o_18 rfl rfl (Nat.le_of_ble_eq_true rfl) ⟨(Nat.le_of_ble_eq_true rfl), (Nat.le_of_ble_eq_true rfl)⟩ rfl rfl (Nat.le_of_ble_eq_true rfl) (Nat.le_of_ble_eq_true rfl) (fun r9 J_28 hq9 => ?_)
      obtain ⟨rfl, rfl⟩ := hq9
      refine tz_aload_n (pc := 31) dX1_remember_31 rfl rfl ?_
      refine tz_iload_n (pc := 32) dX1_remember_32 rfl rfl ?_
      refine tz_iload_n (pc := 33) dX1_remember_33 rfl rfl ?_
      refine tz_cV (pc := 34) (c_addMemo hl n _ _ _ (by omega) (by omega) (by first | exact h0 | (rw [zdM_6]; omega))) vl_X1_35 dX1_remember_34 o_18 rfl rfl (Nat.le_of_ble_eq_true rfl) ⟨(Nat.le_of_ble_eq_true rfl), (Nat.le_of_ble_eq_true rfl)⟩ rfl rfl (Nat.le_of_ble_eq_true rfl) (Nat.le_of_ble_eq_true rfl) (fun r9 J_34 hq9 => ?_)
      obtain ⟨rfl, e9⟩ := hq9
      exact tz_vret (pc := 37) dX1_remember_37 rfl (Nat.le_of_ble_eq_true rfl) (Nat.le_of_ble_eq_true rfl) ⟨Nat.le_refl _, Nat.le_add_right _ _⟩ ⟨rfl, (by unfold zrM; first | exact if_pos (by omega) | exact (if_neg (by omega)).trans ((if_pos (by omega)).trans e9) | exact (if_neg (by omega)).trans ((if_neg (by omega)).trans e9))⟩
  · exact tz_vret (pc := 9) dX1_remember_9 rfl (Nat.le_of_ble_eq_true rfl) (Nat.le_of_ble_eq_true rfl) ⟨Nat.le_refl _, Nat.le_add_right _ _⟩ ⟨rfl, (by unfold zrM; first | exact if_pos (by omega) | exact (if_neg (by omega)).trans ((if_pos (by omega)).trans e9) | exact (if_neg (by omega)).trans ((if_neg (by omega)).trans e9))⟩

set_option maxHeartbeats 4000000 in
set_option maxRecDepth 100000 in
theorem c_fillAnew {l : Launch} {G : tb_G} (hl : l.stackTraces = false) (n : Nat) (J : zJ)     : tz_Ok l G M_X1_fillAnew 1 0 0 [.ref 19] n J (zqv (fun J' => zOf (zbut [19]) J' J ∧ ∀ k, 0 ≤ k → k < 61 → J' 19 k = (fun k => if k = 1 then 4 else if 7 ≤ k ∧ k < 15 then -1 else 0) k)) zN := by
  refine tz_Ok.of hl (by decide +kernel) rfl (tb_c1 rfl) (Nat.le_of_ble_eq_true rfl) ?_
  show tz_At l G M_X1_fillAnew (tb_rm 1 0 0) none (tb_ZM G 0 0 (zQ n 0 (zqv (fun J' => zOf (zbut [19]) J' J ∧ ∀ k, 0 ≤ k → k < 61 → J' 19 k = (fun k => if k = 1 then 4 else if 7 ≤ k ∧ k < 15 then -1 else 0) k))) (zX n 0 zN)) 0 0 n J 0 [some (.ref 19), none] []
  refine tz_aload_n (pc := 0) dX1_fillAnew_0 rfl rfl ?_
  refine tz_iconst (pc := 1) dX1_fillAnew_1 ?_
  refine tz_cS (pc := 2) (zJ_fill hl n _ 19 _ 61 0 (by decide) a_19 rfl) sl_X1_19 dX1_fillAnew_2 rfl rfl (Nat.le_of_ble_eq_true rfl) ⟨(Nat.le_of_ble_eq_true rfl), (Nat.le_of_ble_eq_true rfl)⟩ rfl rfl (Nat.le_of_ble_eq_true rfl) (Nat.le_of_ble_eq_true rfl) (fun r9 J_2 hq9 => ?_)
  obtain ⟨rfl, rfl⟩ := hq9
  refine tz_iconst (pc := 5) dX1_fillAnew_5 ?_
  refine tz_istore_n (pc := 6) (L2 := [_, _]) dX1_fillAnew_6 rfl (by decide) rfl ?_
  refine tz_iload_n (pc := 7) dX1_fillAnew_7 rfl rfl ?_
  refine tz_bipush (pc := 8) dX1_fillAnew_8 (by decide) ?_
  refine tz_icmp_geF (pc := 10) (tgt := 26) (by decide) dX1_fillAnew_10 (by decide) (by decide) (by decide) ?_
  refine tz_aload_n (pc := 13) dX1_fillAnew_13 rfl rfl ?_
  refine tz_bipush (pc := 14) dX1_fillAnew_14 (by decide) ?_
  refine tz_iload_n (pc := 16) dX1_fillAnew_16 rfl rfl ?_
  refine tz_iadd (pc := 17) (v := 7) dX1_fillAnew_17 (by decide) ?_
  refine tz_iconst (pc := 18) dX1_fillAnew_18 ?_
  refine tz_aS (pc := 19) (z := 7) dX1_fillAnew_19 a_19 rfl (by decide) (by decide) ?_
  refine tz_iinc (pc := 20) (z := 1) (L2 := [_, _]) dX1_fillAnew_20 rfl (by decide) rfl ?_
  refine tz_goto (pc := 23) (tgt := 7) dX1_fillAnew_23 (by decide) ?_
  refine tz_iload_n (pc := 7) dX1_fillAnew_7 rfl rfl ?_
  refine tz_bipush (pc := 8) dX1_fillAnew_8 (by decide) ?_
  refine tz_icmp_geF (pc := 10) (tgt := 26) (by decide) dX1_fillAnew_10 (by decide) (by decide) (by decide) ?_
  refine tz_aload_n (pc := 13) dX1_fillAnew_13 rfl rfl ?_
  refine tz_bipush (pc := 14) dX1_fillAnew_14 (by decide) ?_
  refine tz_iload_n (pc := 16) dX1_fillAnew_16 rfl rfl ?_
  refine tz_iadd (pc := 17) (v := 8) dX1_fillAnew_17 (by decide) ?_
  refine tz_iconst (pc := 18) dX1_fillAnew_18 ?_
  refine tz_aS (pc := 19) (z := 8) dX1_fillAnew_19 a_19 rfl (by decide) (by decide) ?_
  refine tz_iinc (pc := 20) (z := 2) (L2 := [_, _]) dX1_fillAnew_20 rfl (by decide) rfl ?_
  refine tz_goto (pc := 23) (tgt := 7) dX1_fillAnew_23 (by decide) ?_
  refine tz_iload_n (pc := 7) dX1_fillAnew_7 rfl rfl ?_
  refine tz_bipush (pc := 8) dX1_fillAnew_8 (by decide) ?_
  refine tz_icmp_geF (pc := 10) (tgt := 26) (by decide) dX1_fillAnew_10 (by decide) (by decide) (by decide) ?_
  refine tz_aload_n (pc := 13) dX1_fillAnew_13 rfl rfl ?_
  refine tz_bipush (pc := 14) dX1_fillAnew_14 (by decide) ?_
  refine tz_iload_n (pc := 16) dX1_fillAnew_16 rfl rfl ?_
  refine tz_iadd (pc := 17) (v := 9) dX1_fillAnew_17 (by decide) ?_
  refine tz_iconst (pc := 18) dX1_fillAnew_18 ?_
  refine tz_aS (pc := 19) (z := 9) dX1_fillAnew_19 a_19 rfl (by decide) (by decide) ?_
  refine tz_iinc (pc := 20) (z := 3) (L2 := [_, _]) dX1_fillAnew_20 rfl (by decide) rfl ?_
  refine tz_goto (pc := 23) (tgt := 7) dX1_fillAnew_23 (by decide) ?_
  refine tz_iload_n (pc := 7) dX1_fillAnew_7 rfl rfl ?_
  refine tz_bipush (pc := 8) dX1_fillAnew_8 (by decide) ?_
  refine tz_icmp_geF (pc := 10) (tgt := 26) (by decide) dX1_fillAnew_10 (by decide) (by decide) (by decide) ?_
  refine tz_aload_n (pc := 13) dX1_fillAnew_13 rfl rfl ?_
  refine tz_bipush (pc := 14) dX1_fillAnew_14 (by decide) ?_
  refine tz_iload_n (pc := 16) dX1_fillAnew_16 rfl rfl ?_
  refine tz_iadd (pc := 17) (v := 10) dX1_fillAnew_17 (by decide) ?_
  refine tz_iconst (pc := 18) dX1_fillAnew_18 ?_
  refine tz_aS (pc := 19) (z := 10) dX1_fillAnew_19 a_19 rfl (by decide) (by decide) ?_
  refine tz_iinc (pc := 20) (z := 4) (L2 := [_, _]) dX1_fillAnew_20 rfl (by decide) rfl ?_
  refine tz_goto (pc := 23) (tgt := 7) dX1_fillAnew_23 (by decide) ?_
  refine tz_iload_n (pc := 7) dX1_fillAnew_7 rfl rfl ?_
  refine tz_bipush (pc := 8) dX1_fillAnew_8 (by decide) ?_
  refine tz_icmp_geF (pc := 10) (tgt := 26) (by decide) dX1_fillAnew_10 (by decide) (by decide) (by decide) ?_
  refine tz_aload_n (pc := 13) dX1_fillAnew_13 rfl rfl ?_
  refine tz_bipush (pc := 14) dX1_fillAnew_14 (by decide) ?_
  refine tz_iload_n (pc := 16) dX1_fillAnew_16 rfl rfl ?_
  refine tz_iadd (pc := 17) (v := 11) dX1_fillAnew_17 (by decide) ?_
  refine tz_iconst (pc := 18) dX1_fillAnew_18 ?_
  refine tz_aS (pc := 19) (z := 11) dX1_fillAnew_19 a_19 rfl (by decide) (by decide) ?_
  refine tz_iinc (pc := 20) (z := 5) (L2 := [_, _]) dX1_fillAnew_20 rfl (by decide) rfl ?_
  refine tz_goto (pc := 23) (tgt := 7) dX1_fillAnew_23 (by decide) ?_
  refine tz_iload_n (pc := 7) dX1_fillAnew_7 rfl rfl ?_
  refine tz_bipush (pc := 8) dX1_fillAnew_8 (by decide) ?_
  refine tz_icmp_geF (pc := 10) (tgt := 26) (by decide) dX1_fillAnew_10 (by decide) (by decide) (by decide) ?_
  refine tz_aload_n (pc := 13) dX1_fillAnew_13 rfl rfl ?_
  refine tz_bipush (pc := 14) dX1_fillAnew_14 (by decide) ?_
  refine tz_iload_n (pc := 16) dX1_fillAnew_16 rfl rfl ?_
  refine tz_iadd (pc := 17) (v := 12) dX1_fillAnew_17 (by decide) ?_
  refine tz_iconst (pc := 18) dX1_fillAnew_18 ?_
  refine tz_aS (pc := 19) (z := 12) dX1_fillAnew_19 a_19 rfl (by decide) (by decide) ?_
  refine tz_iinc (pc := 20) (z := 6) (L2 := [_, _]) dX1_fillAnew_20 rfl (by decide) rfl ?_
  refine tz_goto (pc := 23) (tgt := 7) dX1_fillAnew_23 (by decide) ?_
  refine tz_iload_n (pc := 7) dX1_fillAnew_7 rfl rfl ?_
  refine tz_bipush (pc := 8) dX1_fillAnew_8 (by decide) ?_
  refine tz_icmp_geF (pc := 10) (tgt := 26) (by decide) dX1_fillAnew_10 (by decide) (by decide) (by decide) ?_
  refine tz_aload_n (pc := 13) dX1_fillAnew_13 rfl rfl ?_
  refine tz_bipush (pc := 14) dX1_fillAnew_14 (by decide) ?_
  refine tz_iload_n (pc := 16) dX1_fillAnew_16 rfl rfl ?_
  refine tz_iadd (pc := 17) (v := 13) dX1_fillAnew_17 (by decide) ?_
  refine tz_iconst (pc := 18) dX1_fillAnew_18 ?_
  refine tz_aS (pc := 19) (z := 13) dX1_fillAnew_19 a_19 rfl (by decide) (by decide) ?_
  refine tz_iinc (pc := 20) (z := 7) (L2 := [_, _]) dX1_fillAnew_20 rfl (by decide) rfl ?_
  refine tz_goto (pc := 23) (tgt := 7) dX1_fillAnew_23 (by decide) ?_
  refine tz_iload_n (pc := 7) dX1_fillAnew_7 rfl rfl ?_
  refine tz_bipush (pc := 8) dX1_fillAnew_8 (by decide) ?_
  refine tz_icmp_geF (pc := 10) (tgt := 26) (by decide) dX1_fillAnew_10 (by decide) (by decide) (by decide) ?_
  refine tz_aload_n (pc := 13) dX1_fillAnew_13 rfl rfl ?_
  refine tz_bipush (pc := 14) dX1_fillAnew_14 (by decide) ?_
  refine tz_iload_n (pc := 16) dX1_fillAnew_16 rfl rfl ?_
  refine tz_iadd (pc := 17) (v := 14) dX1_fillAnew_17 (by decide) ?_
  refine tz_iconst (pc := 18) dX1_fillAnew_18 ?_
  refine tz_aS (pc := 19) (z := 14) dX1_fillAnew_19 a_19 rfl (by decide) (by decide) ?_
  refine tz_iinc (pc := 20) (z := 8) (L2 := [_, _]) dX1_fillAnew_20 rfl (by decide) rfl ?_
  refine tz_goto (pc := 23) (tgt := 7) dX1_fillAnew_23 (by decide) ?_
  refine tz_iload_n (pc := 7) dX1_fillAnew_7 rfl rfl ?_
  refine tz_bipush (pc := 8) dX1_fillAnew_8 (by decide) ?_
  refine tz_icmp_geT (pc := 10) (tgt := 26) (by decide) dX1_fillAnew_10 (by decide) (by decide) (by decide) ?_
  refine tz_aload_n (pc := 26) dX1_fillAnew_26 rfl rfl ?_
  refine tz_iconst (pc := 27) dX1_fillAnew_27 ?_
  refine tz_iconst (pc := 28) dX1_fillAnew_28 ?_
  refine tz_aS (pc := 29) (z := 1) dX1_fillAnew_29 a_19 rfl (by decide) (by decide) ?_
  exact tz_vret (pc := 30) dX1_fillAnew_30 rfl (Nat.le_of_ble_eq_true rfl) (Nat.le_of_ble_eq_true rfl) ⟨Nat.le_refl _, Nat.le_add_right _ _⟩ ⟨rfl, ⟨(zOf.up rfl (zOf.up rfl (zOf.up rfl (zOf.up rfl (zOf.up rfl (zOf.up rfl (zOf.up rfl (zOf.up rfl (zOf.up rfl (zOf.fl rfl zOf.rf)))))))))), fun k a b => by simp only [zup, zfl, if_true]; (repeat' split) <;> omega⟩⟩

set_option maxHeartbeats 4000000 in
set_option maxRecDepth 100000 in
theorem c_leEmpty {l : Launch} {G : tb_G} (hl : l.stackTraces = false) (n : Nat) (J : zJ)     : tz_Ok l G M_X1_empty 2 0 0 [.ref 18] n J (zqv (fun J' => zOf (zbut [19]) J' J ∧ ∀ k, 0 ≤ k → k < 61 → J' 19 k = (fun k => if k = 1 then 4 else if 7 ≤ k ∧ k < 15 then -1 else 0) k)) zN := by
  refine tz_Ok.of hl (by decide +kernel) rfl (tb_c1 rfl) (Nat.le_of_ble_eq_true rfl) ?_
  show tz_At l G M_X1_empty (tb_rm 2 0 0) none (tb_ZM G 0 0 (zQ n 0 (zqv (fun J' => zOf (zbut [19]) J' J ∧ ∀ k, 0 ≤ k → k < 61 → J' 19 k = (fun k => if k = 1 then 4 else if 7 ≤ k ∧ k < 15 then -1 else 0) k))) (zX n 0 zN)) 0 0 n J 0 [some (.ref 18)] []
  refine tz_aload_n (pc := 0) dX1_empty_0 rfl rfl ?_
  refine tz_fR (pc := 1) dX1_empty_1 fl_X1_11 r_18_0 ?_
  refine tz_cS (pc := 4) (c_fillAnew hl n _) sl_X1_15 dX1_empty_4 rfl rfl (Nat.le_of_ble_eq_true rfl) ⟨(Nat.le_of_ble_eq_true rfl), (Nat.le_of_ble_eq_true rfl)⟩ rfl rfl (Nat.le_of_ble_eq_true rfl) (Nat.le_of_ble_eq_true rfl) (fun r9 J_4 hq9 => ?_)
  obtain ⟨rfl, f1, f2⟩ := hq9
  exact tz_vret (pc := 7) dX1_empty_7 rfl (Nat.le_of_ble_eq_true rfl) (Nat.le_of_ble_eq_true rfl) ⟨Nat.le_refl _, Nat.le_add_right _ _⟩ ⟨rfl, ⟨f1, f2⟩⟩

set_option maxHeartbeats 4000000 in
set_option maxRecDepth 100000 in
theorem c_syEmpty {l : Launch} {G : tb_G} (hl : l.stackTraces = false) (n : Nat) (J : zJ)     : tz_Ok l G M_X8_empty 0 0 0 [.ref 1] n J (zqv (fun J' => zup J 1 3 0 = J')) zN := by
  refine tz_Ok.of hl (by decide +kernel) rfl (tb_c1 rfl) (Nat.le_of_ble_eq_true rfl) ?_
  show tz_At l G M_X8_empty (tb_rm 0 0 0) none (tb_ZM G 0 0 (zQ n 0 (zqv (fun J' => zup J 1 3 0 = J'))) (zX n 0 zN)) 0 0 n J 0 [some (.ref 1)] []
  refine tz_aload_n (pc := 0) dX8_empty_0 rfl rfl ?_
  refine tz_iconst (pc := 1) dX8_empty_1 ?_
  refine tz_pI (pc := 2) (kz := 3) dX8_empty_2 fl_X8_21 i_1_3 rfl rfl (by decide) ?_
  exact tz_vret (pc := 5) dX8_empty_5 rfl (Nat.le_of_ble_eq_true rfl) (Nat.le_of_ble_eq_true rfl) ⟨Nat.le_refl _, Nat.le_add_right _ _⟩ ⟨rfl, rfl⟩

set_option maxHeartbeats 4000000 in
set_option maxRecDepth 100000 in
theorem c_teEmpty {l : Launch} {G : tb_G} (hl : l.stackTraces = false) (n : Nat) (J : zJ)     : tz_Ok l G M_X9_empty 1 0 0 [.ref 6] n J (zqv (fun J' => zfl (zup J 6 12 0) 16 256 (-1) = J')) zN := by
  refine tz_Ok.of hl (by decide +kernel) rfl (tb_c1 rfl) (Nat.le_of_ble_eq_true rfl) ?_
  show tz_At l G M_X9_empty (tb_rm 1 0 0) none (tb_ZM G 0 0 (zQ n 0 (zqv (fun J' => zfl (zup J 6 12 0) 16 256 (-1) = J'))) (zX n 0 zN)) 0 0 n J 0 [some (.ref 6)] []
  refine tz_aload_n (pc := 0) dX9_empty_0 rfl rfl ?_
  refine tz_iconst (pc := 1) dX9_empty_1 ?_
  refine tz_pI (pc := 2) (kz := 12) dX9_empty_2 fl_X9_45 i_6_12 rfl rfl (by decide) ?_
  refine tz_aload_n (pc := 5) dX9_empty_5 rfl rfl ?_
  refine tz_fR (pc := 6) dX9_empty_6 fl_X9_39 r_6_10 ?_
  refine tz_iconst (pc := 9) dX9_empty_9 ?_
  refine tz_cS (pc := 10) (zJ_fill hl n _ 16 _ 256 (-1) (by decide) a_16 rfl) sl_X9_53 dX9_empty_10 rfl rfl (Nat.le_of_ble_eq_true rfl) ⟨(Nat.le_of_ble_eq_true rfl), (Nat.le_of_ble_eq_true rfl)⟩ rfl rfl (Nat.le_of_ble_eq_true rfl) (Nat.le_of_ble_eq_true rfl) (fun r9 J_10 hq9 => ?_)
  obtain ⟨rfl, rfl⟩ := hq9
  exact tz_vret (pc := 13) dX9_empty_13 rfl (Nat.le_of_ble_eq_true rfl) (Nat.le_of_ble_eq_true rfl) ⟨Nat.le_refl _, Nat.le_add_right _ _⟩ ⟨rfl, rfl⟩

set_option maxHeartbeats 4000000 in
set_option maxRecDepth 100000 in
theorem c_syAdd {l : Launch} {G : tb_G} (hl : l.stackTraces = false) (n : Nat) (J : zJ) (x : Int) (y : Int) (w : Int) (hr_x : -2147483648 ≤ x ∧ x < 2147483648) (hr_y : -2147483648 ≤ y ∧ y < 2147483648) (hr_w : -2147483648 ≤ w ∧ w < 2147483648)  (h0 : 0 ≤ J 1 3 ∧ J 1 3 < 10) : tz_Ok l G M_X8_add 0 0 0 [.ref 1, zi x, zi y, zi w] n J (zqv (fun J' => zup (zup (zup (zup J 2 (J 1 3) x) 3 (J 1 3) y) 4 (J 1 3) w) 1 3 (J 1 3 + 1) = J')) zN := by
  refine tz_Ok.of hl (by decide +kernel) rfl (tb_c1 rfl) (Nat.le_of_ble_eq_true rfl) ?_
  show tz_At l G M_X8_add (tb_rm 0 0 0) none (tb_ZM G 0 0 (zQ n 0 (zqv (fun J' => zup (zup (zup (zup J 2 (J 1 3) x) 3 (J 1 3) y) 4 (J 1 3) w) 1 3 (J 1 3 + 1) = J'))) (zX n 0 zN)) 0 0 n J 0 [some (.ref 1), some (zi x), some (zi y), some (zi w)] []
  refine tz_aload_n (pc := 0) dX8_add_0 rfl rfl ?_
  refine tz_fI (pc := 1) (kz := 3) (v := (J 1 3)) dX8_add_1 fl_X8_21 i_1_3 rfl rfl (fun r_1 => ?_)
  refine tz_bipush (pc := 4) dX8_add_4 (by decide) ?_
  refine tz_icmp_geF (pc := 6) (tgt := 49) (by omega) dX8_add_6 (by decide) (by omega) (by decide) ?_
  refine tz_aload_n (pc := 9) dX8_add_9 rfl rfl ?_
  refine tz_fR (pc := 10) dX8_add_10 fl_X8_9 r_1_0 ?_
  refine tz_aload_n (pc := 13) dX8_add_13 rfl rfl ?_
  refine tz_fI (pc := 14) (kz := 3) (v := (J 1 3)) dX8_add_14 fl_X8_21 i_1_3 rfl rfl (fun r_14 => ?_)
  refine tz_iload_n (pc := 17) dX8_add_17 rfl rfl ?_
  refine tz_aS (pc := 18) (z := (J 1 3)) dX8_add_18 a_2 rfl (by omega) (by omega) ?_
  refine tz_aload_n (pc := 19) dX8_add_19 rfl rfl ?_
  refine tz_fR (pc := 20) dX8_add_20 fl_X8_15 r_1_1 ?_
  refine tz_aload_n (pc := 23) dX8_add_23 rfl rfl ?_
  refine tz_fI (pc := 24) (kz := 3) (v := (J 1 3)) dX8_add_24 fl_X8_21 i_1_3 rfl rfl (fun r_24 => ?_)
  refine tz_iload_n (pc := 27) dX8_add_27 rfl rfl ?_
  refine tz_aS (pc := 28) (z := (J 1 3)) dX8_add_28 a_3 rfl (by omega) (by omega) ?_
  refine tz_aload_n (pc := 29) dX8_add_29 rfl rfl ?_
  refine tz_fR (pc := 30) dX8_add_30 fl_X8_18 r_1_2 ?_
  refine tz_aload_n (pc := 33) dX8_add_33 rfl rfl ?_
  refine tz_fI (pc := 34) (kz := 3) (v := (J 1 3)) dX8_add_34 fl_X8_21 i_1_3 rfl rfl (fun r_34 => ?_)
  refine tz_iload_n (pc := 37) dX8_add_37 rfl rfl ?_
  refine tz_aS (pc := 38) (z := (J 1 3)) dX8_add_38 a_4 rfl (by omega) (by omega) ?_
  refine tz_aload_n (pc := 39) dX8_add_39 rfl rfl ?_
  refine tz_dup (pc := 40) dX8_add_40 rfl ?_
  refine tz_fI (pc := 41) (kz := 3) (v := (J 1 3)) dX8_add_41 fl_X8_21 i_1_3 rfl rfl (fun r_41 => ?_)
  refine tz_iconst (pc := 44) dX8_add_44 ?_
  refine tz_iadd (pc := 45) (v := (J 1 3) + 1) dX8_add_45 rfl ?_
  refine tz_pI (pc := 46) (kz := 3) dX8_add_46 fl_X8_21 i_1_3 rfl rfl (by omega) ?_
  exact tz_vret (pc := 49) dX8_add_49 rfl (Nat.le_of_ble_eq_true rfl) (Nat.le_of_ble_eq_true rfl) ⟨Nat.le_refl _, Nat.le_add_right _ _⟩ ⟨rfl, rfl⟩

