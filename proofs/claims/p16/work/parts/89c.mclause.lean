/-! ===== rows ===== -/
def ME (f : Int → Int) (m : Int) : Prop := (0 ≤ f 26 ∧ f 26 ≤ 12) ∧ ∀ k, 0 ≤ k → k < f 26 → 0 ≤ f (27 + k) ∧ f (27 + k) < m
def MB (f : Int → Int) (m : Int) : Prop := ∀ v, 1 ≤ v → v ≤ 8 → 0 ≤ f v ∧ f v ≤ m
/-- a row of the reference is sound with m terms -/
def ML (f : Int → Int) (m : Int) : Prop := MR f m ∧ MM f m ∧ ME f m ∧ MB f m
theorem ME.of {f' f : Int → Int} {m : Int} (h : ME f m) (e : ∀ k, 26 ≤ k → k < 39 → f' k = f k) : ME f' m := by
  unfold ME
  rw [e 26 (by decide) (by decide)]
  refine ⟨h.1, fun k a c => ?_⟩
  have h1 := h.1
  rw [e (27 + k) (by omega) (by omega)]
  exact h.2 k a c
theorem MB.of {f' f : Int → Int} {m : Int} (h : MB f m) (e : ∀ k, 1 ≤ k → k ≤ 8 → f' k = f k) : MB f' m := fun v a c => by
  rw [e v a c]
  exact h v a c
theorem ME.mono {f : Int → Int} {m m' : Int} (h : ME f m) (q : m ≤ m') : ME f m' := ⟨h.1, fun k a c => by have := h.2 k a c; omega⟩
theorem MB.mono {f : Int → Int} {m m' : Int} (h : MB f m) (q : m ≤ m') : MB f m' := fun k a c => by have := h k a c; omega
theorem ML.mono {f : Int → Int} {m m' : Int} (h : ML f m) (q : m ≤ m') : ML f m' := ⟨h.1.mono q, h.2.1.mono q, h.2.2.1.mono q, h.2.2.2.mono q⟩
theorem ML.of {f' f : Int → Int} {m : Int} (h : ML f m) (e : ∀ k, 1 ≤ k → k < 59 → f' k = f k) : ML f' m := ⟨h.1.of (fun k a c => e k (by omega) (by omega)), h.2.1.of (fun k a c => e k (by omega) (by omega)), h.2.2.1.of (fun k a c => e k (by omega) (by omega)), h.2.2.2.of (fun k a c => e k (by omega) (by omega))⟩
def zrl (J : zJ) (r u t : Int) : zJ := zup (zup (zup J 165 (r + 10 + 2 * J 165 (r + 9)) u) 165 (r + 10 + 2 * J 165 (r + 9) + 1) t) 165 (r + 9) (J 165 (r + 9) + 1)
def zen (J : zJ) (r t : Int) : zJ := zup (zup J 165 (r + 27 + J 165 (r + 26)) t) 165 (r + 26) (J 165 (r + 26) + 1)
theorem zrl_at {J : zJ} {r u t : Int} (k : Int) : zrl J r u t 165 k = if k = r + 9 then J 165 (r + 9) + 1 else if k = r + 10 + 2 * J 165 (r + 9) + 1 then t else if k = r + 10 + 2 * J 165 (r + 9) then u else J 165 k := rfl
theorem zen_at {J : zJ} {r t : Int} (k : Int) : zen J r t 165 k = if k = r + 26 then J 165 (r + 26) + 1 else if k = r + 27 + J 165 (r + 26) then t else J 165 k := rfl
theorem zrl_of {J : zJ} {r u t : Int} : zOf (zbut [165]) (zrl J r u t) J := zOf.up rfl (zOf.up rfl (zOf.up rfl zOf.rf))
theorem zen_of {J : zJ} {r t : Int} : zOf (zbut [165]) (zen J r t) J := zOf.up rfl (zOf.up rfl zOf.rf)
theorem ML.rl {J : zJ} {r u t m : Int} (h : ML (fun k => J 165 (r + k)) m) (hK : J 165 (r + 9) < 8) (hu : 0 ≤ u ∧ u < m) (ht : 0 ≤ t ∧ t < m) : ML (fun k => zrl J r u t 165 (r + k)) m := by
  have h9 : 0 ≤ J 165 (r + 9) ∧ J 165 (r + 9) ≤ 8 := h.1.1
  have e : ∀ k, zrl J r u t 165 k = if k = r + 9 then J 165 (r + 9) + 1 else if k = r + 10 + 2 * J 165 (r + 9) + 1 then t else if k = r + 10 + 2 * J 165 (r + 9) then u else J 165 k := fun k => rfl
  have hs : ∀ k, 0 ≤ k → k < J 165 (r + 9) → (0 ≤ J 165 (r + (10 + 2 * k)) ∧ J 165 (r + (10 + 2 * k)) < m) ∧ 0 ≤ J 165 (r + (10 + 2 * k + 1)) ∧ J 165 (r + (10 + 2 * k + 1)) < m := h.1.2
  generalize zrl J r u t = J9 at e
  refine ⟨⟨?_, fun k a c => ?_⟩, h.2.1.of (fun k a c => ?_), h.2.2.1.of (fun k a c => ?_), h.2.2.2.of (fun k a c => ?_)⟩
  · show 0 ≤ J9 165 (r + 9) ∧ J9 165 (r + 9) ≤ 8
    rw [e, if_pos rfl]; omega
  · have c9 : k < J9 165 (r + 9) := c
    rw [e, if_pos rfl] at c9
    show (0 ≤ J9 165 (r + (10 + 2 * k)) ∧ J9 165 (r + (10 + 2 * k)) < m) ∧ 0 ≤ J9 165 (r + (10 + 2 * k + 1)) ∧ J9 165 (r + (10 + 2 * k + 1)) < m
    by_cases q : k = J 165 (r + 9)
    · rw [e (r + (10 + 2 * k)), if_neg (by omega), if_neg (by omega), if_pos (by omega), e (r + (10 + 2 * k + 1)), if_neg (by omega), if_pos (by omega)]
      exact ⟨hu, ht⟩
    · rw [e (r + (10 + 2 * k)), if_neg (by omega), if_neg (by omega), if_neg (by omega), e (r + (10 + 2 * k + 1)), if_neg (by omega), if_neg (by omega), if_neg (by omega)]
      exact hs k a (by omega)
  · show J9 165 (r + k) = J 165 (r + k)
    rw [e, if_neg (by omega), if_neg (by omega), if_neg (by omega)]
  · show J9 165 (r + k) = J 165 (r + k)
    rw [e, if_neg (by omega), if_neg (by omega), if_neg (by omega)]
  · show J9 165 (r + k) = J 165 (r + k)
    rw [e, if_neg (by omega), if_neg (by omega), if_neg (by omega)]
theorem ML.en {J : zJ} {r t m : Int} (h : ML (fun k => J 165 (r + k)) m) (hK : J 165 (r + 26) < 12) (ht : 0 ≤ t ∧ t < m) : ML (fun k => zen J r t 165 (r + k)) m := by
  have h9 : 0 ≤ J 165 (r + 26) ∧ J 165 (r + 26) ≤ 12 := h.2.2.1.1
  have e : ∀ k, zen J r t 165 k = if k = r + 26 then J 165 (r + 26) + 1 else if k = r + 27 + J 165 (r + 26) then t else J 165 k := fun k => rfl
  have hs : ∀ k, 0 ≤ k → k < J 165 (r + 26) → 0 ≤ J 165 (r + (27 + k)) ∧ J 165 (r + (27 + k)) < m := h.2.2.1.2
  generalize zen J r t = J9 at e
  refine ⟨h.1.of (fun k a c => ?_), h.2.1.of (fun k a c => ?_), ⟨?_, fun k a c => ?_⟩, h.2.2.2.of (fun k a c => ?_)⟩
  · show J9 165 (r + k) = J 165 (r + k)
    rw [e, if_neg (by omega), if_neg (by omega)]
  · show J9 165 (r + k) = J 165 (r + k)
    rw [e, if_neg (by omega), if_neg (by omega)]
  · show 0 ≤ J9 165 (r + 26) ∧ J9 165 (r + 26) ≤ 12
    rw [e, if_pos rfl]; omega
  · have c9 : k < J9 165 (r + 26) := c
    rw [e, if_pos rfl] at c9
    show 0 ≤ J9 165 (r + (27 + k)) ∧ J9 165 (r + (27 + k)) < m
    by_cases q : k = J 165 (r + 26)
    · rw [e, if_neg (by omega), if_pos (by omega)]
      exact ht
    · rw [e, if_neg (by omega), if_neg (by omega)]
      exact hs k a (by omega)
  · show J9 165 (r + k) = J 165 (r + k)
    rw [e, if_neg (by omega), if_neg (by omega)]
set_option maxHeartbeats 4000000 in
set_option maxRecDepth 100000 in
theorem m_rules1 {l : Launch} {G : tb_G} (hl : l.stackTraces = false) (n : Nat) (J : zJ) (u : Int) (t : Int) (hr_u : -2147483648 ≤ u ∧ u < 2147483648) (hr_t : -2147483648 ≤ t ∧ t < 2147483648) (r : Int) (h16 : J 164 16 = r) (hr : 0 ≤ r ∧ r ≤ 126) (hK : 0 ≤ J 165 (r + 9) ∧ J 165 (r + 9) < 8) : tz_Ok l G M_X12_rules1 0 0 0 [.ref 164, zi u, zi t] n J (zqv (fun J' => zrl J r u t = J')) zN := by
  refine tz_Ok.of hl (by decide +kernel) rfl (tb_c1 rfl) (Nat.le_of_ble_eq_true rfl) ?_
  show tz_At l G M_X12_rules1 (tb_rm 0 0 0) none (tb_ZM G 0 0 (zQ n 0 (zqv (fun J' => zrl J r u t = J'))) (zX n 0 zN)) 0 0 n J 0 [some (.ref 164), some (zi u), some (zi t), none] []
  refine tz_aload_n (pc := 0) dX12_rules1_0 rfl rfl ?_
  refine tz_fR (pc := 1) dX12_rules1_1 fl_X12_9 r_164_0 ?_
  refine tz_aload_n (pc := 4) dX12_rules1_4 rfl rfl ?_
  refine tz_fI (pc := 5) (kz := 16) (v := r) dX12_rules1_5 fl_X12_85 i_164_16 rfl h16 (fun r_5 => ?_)
  refine tz_bipush (pc := 8) dX12_rules1_8 (by decide) ?_
  refine tz_iadd (pc := 10) (v := r + 9) dX12_rules1_10 rfl ?_
  refine tz_aL (pc := 11) (z := (r + 9)) (v := (J 165 (r + 9))) dX12_rules1_11 a_165 rfl (by omega) rfl (fun r_11 => ?_)
  refine tz_istore_n (pc := 12) (L2 := [_, _, _, _]) dX12_rules1_12 rfl (by decide) rfl ?_
  refine tz_aload_n (pc := 13) dX12_rules1_13 rfl rfl ?_
  refine tz_fR (pc := 14) dX12_rules1_14 fl_X12_9 r_164_0 ?_
  refine tz_aload_n (pc := 17) dX12_rules1_17 rfl rfl ?_
  refine tz_fI (pc := 18) (kz := 16) (v := r) dX12_rules1_18 fl_X12_85 i_164_16 rfl h16 (fun r_18 => ?_)
  refine tz_bipush (pc := 21) dX12_rules1_21 (by decide) ?_
  refine tz_iadd (pc := 23) (v := r + 10) dX12_rules1_23 rfl ?_
  refine tz_iconst (pc := 24) dX12_rules1_24 ?_
  refine tz_iload_n (pc := 25) dX12_rules1_25 rfl rfl ?_
  refine tz_imul (pc := 26) (v := 2 * (J 165 (r + 9))) dX12_rules1_26 rfl ?_
  refine tz_iadd (pc := 27) (v := (r + 10) + (2 * (J 165 (r + 9)))) dX12_rules1_27 rfl ?_
  refine tz_iload_n (pc := 28) dX12_rules1_28 rfl rfl ?_
  refine tz_aS (pc := 29) (z := ((r + 10) + (2 * (J 165 (r + 9))))) dX12_rules1_29 a_165 rfl (by omega) (by omega) ?_
  refine tz_aload_n (pc := 30) dX12_rules1_30 rfl rfl ?_
  refine tz_fR (pc := 31) dX12_rules1_31 fl_X12_9 r_164_0 ?_
  refine tz_aload_n (pc := 34) dX12_rules1_34 rfl rfl ?_
  refine tz_fI (pc := 35) (kz := 16) (v := r) dX12_rules1_35 fl_X12_85 i_164_16 rfl h16 (fun r_35 => ?_)
  refine tz_bipush (pc := 38) dX12_rules1_38 (by decide) ?_
  refine tz_iadd (pc := 40) (v := r + 10) dX12_rules1_40 rfl ?_
  refine tz_iconst (pc := 41) dX12_rules1_41 ?_
  refine tz_iload_n (pc := 42) dX12_rules1_42 rfl rfl ?_
  refine tz_imul (pc := 43) (v := 2 * (J 165 (r + 9))) dX12_rules1_43 rfl ?_
  refine tz_iadd (pc := 44) (v := (r + 10) + (2 * (J 165 (r + 9)))) dX12_rules1_44 rfl ?_
  refine tz_iconst (pc := 45) dX12_rules1_45 ?_
  refine tz_iadd (pc := 46) (v := ((r + 10) + (2 * (J 165 (r + 9)))) + 1) dX12_rules1_46 rfl ?_
  refine tz_iload_n (pc := 47) dX12_rules1_47 rfl rfl ?_
  refine tz_aS (pc := 48) (z := (((r + 10) + (2 * (J 165 (r + 9)))) + 1)) dX12_rules1_48 a_165 rfl (by omega) (by omega) ?_
  refine tz_aload_n (pc := 49) dX12_rules1_49 rfl rfl ?_
  refine tz_fR (pc := 50) dX12_rules1_50 fl_X12_9 r_164_0 ?_
  refine tz_aload_n (pc := 53) dX12_rules1_53 rfl rfl ?_
  refine tz_fI (pc := 54) (kz := 16) (v := r) dX12_rules1_54 fl_X12_85 i_164_16 rfl h16 (fun r_54 => ?_)
  refine tz_bipush (pc := 57) dX12_rules1_57 (by decide) ?_
  refine tz_iadd (pc := 59) (v := r + 9) dX12_rules1_59 rfl ?_
  refine tz_dup2 (pc := 60) dX12_rules1_60 rfl rfl ?_
  refine tz_aL (pc := 61) (z := (r + 9)) (v := (J 165 (r + 9))) dX12_rules1_61 a_165 rfl (by omega) (Eq.trans (show zup _ 165 (((r + 10) + (2 * (J 165 (r + 9)))) + 1) t 165 (r + 9) = _ from zup_ne (by omega)) (Eq.trans (show zup _ 165 ((r + 10) + (2 * (J 165 (r + 9)))) u 165 (r + 9) = _ from zup_ne (by omega)) rfl)) (fun r_61 => ?_)
  refine tz_iconst (pc := 62) dX12_rules1_62 ?_
  refine tz_iadd (pc := 63) (v := (J 165 (r + 9)) + 1) dX12_rules1_63 rfl ?_
  refine tz_aS (pc := 64) (z := (r + 9)) dX12_rules1_64 a_165 rfl (by omega) (by omega) ?_
  exact tz_vret (pc := 65) dX12_rules1_65 rfl (Nat.le_of_ble_eq_true rfl) (Nat.le_of_ble_eq_true rfl) ⟨Nat.le_refl _, Nat.le_add_right _ _⟩ ⟨rfl, rfl⟩

set_option maxHeartbeats 4000000 in
set_option maxRecDepth 100000 in
theorem m_enters1 {l : Launch} {G : tb_G} (hl : l.stackTraces = false) (n : Nat) (J : zJ) (t : Int) (hr_t : -2147483648 ≤ t ∧ t < 2147483648) (r : Int) (h16 : J 164 16 = r) (hr : 0 ≤ r ∧ r ≤ 126) (hK : 0 ≤ J 165 (r + 26) ∧ J 165 (r + 26) < 12) : tz_Ok l G M_X12_enters1 0 0 0 [.ref 164, zi t] n J (zqv (fun J' => zen J r t = J')) zN := by
  refine tz_Ok.of hl (by decide +kernel) rfl (tb_c1 rfl) (Nat.le_of_ble_eq_true rfl) ?_
  show tz_At l G M_X12_enters1 (tb_rm 0 0 0) none (tb_ZM G 0 0 (zQ n 0 (zqv (fun J' => zen J r t = J'))) (zX n 0 zN)) 0 0 n J 0 [some (.ref 164), some (zi t)] []
  refine tz_aload_n (pc := 0) dX12_enters1_0 rfl rfl ?_
  refine tz_fR (pc := 1) dX12_enters1_1 fl_X12_9 r_164_0 ?_
  refine tz_aload_n (pc := 4) dX12_enters1_4 rfl rfl ?_
  refine tz_fI (pc := 5) (kz := 16) (v := r) dX12_enters1_5 fl_X12_85 i_164_16 rfl h16 (fun r_5 => ?_)
  refine tz_bipush (pc := 8) dX12_enters1_8 (by decide) ?_
  refine tz_iadd (pc := 10) (v := r + 27) dX12_enters1_10 rfl ?_
  refine tz_aload_n (pc := 11) dX12_enters1_11 rfl rfl ?_
  refine tz_fR (pc := 12) dX12_enters1_12 fl_X12_9 r_164_0 ?_
  refine tz_aload_n (pc := 15) dX12_enters1_15 rfl rfl ?_
  refine tz_fI (pc := 16) (kz := 16) (v := r) dX12_enters1_16 fl_X12_85 i_164_16 rfl h16 (fun r_16 => ?_)
  refine tz_bipush (pc := 19) dX12_enters1_19 (by decide) ?_
  refine tz_iadd (pc := 21) (v := r + 26) dX12_enters1_21 rfl ?_
  refine tz_aL (pc := 22) (z := (r + 26)) (v := (J 165 (r + 26))) dX12_enters1_22 a_165 rfl (by omega) rfl (fun r_22 => ?_)
  refine tz_iadd (pc := 23) (v := (r + 27) + (J 165 (r + 26))) dX12_enters1_23 rfl ?_
  refine tz_iload_n (pc := 24) dX12_enters1_24 rfl rfl ?_
  refine tz_aS (pc := 25) (z := ((r + 27) + (J 165 (r + 26)))) dX12_enters1_25 a_165 rfl (by omega) (by omega) ?_
  refine tz_aload_n (pc := 26) dX12_enters1_26 rfl rfl ?_
  refine tz_fR (pc := 27) dX12_enters1_27 fl_X12_9 r_164_0 ?_
  refine tz_aload_n (pc := 30) dX12_enters1_30 rfl rfl ?_
  refine tz_fI (pc := 31) (kz := 16) (v := r) dX12_enters1_31 fl_X12_85 i_164_16 rfl h16 (fun r_31 => ?_)
  refine tz_bipush (pc := 34) dX12_enters1_34 (by decide) ?_
  refine tz_iadd (pc := 36) (v := r + 26) dX12_enters1_36 rfl ?_
  refine tz_dup2 (pc := 37) dX12_enters1_37 rfl rfl ?_
  refine tz_aL (pc := 38) (z := (r + 26)) (v := (J 165 (r + 26))) dX12_enters1_38 a_165 rfl (by omega) (Eq.trans (show zup _ 165 ((r + 27) + (J 165 (r + 26))) t 165 (r + 26) = _ from zup_ne (by omega)) rfl) (fun r_38 => ?_)
  refine tz_iconst (pc := 39) dX12_enters1_39 ?_
  refine tz_iadd (pc := 40) (v := (J 165 (r + 26)) + 1) dX12_enters1_40 rfl ?_
  refine tz_aS (pc := 41) (z := (r + 26)) dX12_enters1_41 a_165 rfl (by omega) (by omega) ?_
  exact tz_vret (pc := 42) dX12_enters1_42 rfl (Nat.le_of_ble_eq_true rfl) (Nat.le_of_ble_eq_true rfl) ⟨Nat.le_refl _, Nat.le_add_right _ _⟩ ⟨rfl, rfl⟩

/-! ===== the clauses of a text ===== -/
def clF : List Int := [21, 44, 45, 35, 36, 38, 39, 40, 41, 42, 43, 20]
/-- what a clause leaves as it was -/
def CLf (J' J : zJ) : Prop := zOf (zbut [164, 165, 166, 167, 168, 169, 170, 171]) J' J ∧ (∀ k, (k < 126 ∨ 189 ≤ k) → J' 165 k = J 165 k) ∧ (∀ k, k < 800 → J' 166 k = J 166 k ∧ J' 168 k = J 168 k) ∧ (∀ k, k < 2400 → J' 167 k = J 167 k) ∧ (∀ k, k < 10 → J' 169 k = J 169 k ∧ J' 170 k = J 170 k ∧ J' 171 k = J 171 k) ∧ (∀ k, clF.contains k = false → J' 164 k = J 164 k)
theorem CLf.rf {J : zJ} : CLf J J := ⟨zOf.rf, fun _ _ => rfl, fun _ _ => ⟨rfl, rfl⟩, fun _ _ => rfl, fun _ _ => ⟨rfl, rfl, rfl⟩, fun _ _ => rfl⟩
theorem CLf.tr {J3 J2 J1 : zJ} (h : CLf J3 J2) (g : CLf J2 J1) : CLf J3 J1 := ⟨h.1.tr g.1, fun k q => (h.2.1 k q).trans (g.2.1 k q), fun k q => ⟨(h.2.2.1 k q).1.trans (g.2.2.1 k q).1, (h.2.2.1 k q).2.trans (g.2.2.1 k q).2⟩, fun k q => (h.2.2.2.1 k q).trans (g.2.2.2.1 k q), fun k q => ⟨(h.2.2.2.2.1 k q).1.trans (g.2.2.2.2.1 k q).1, (h.2.2.2.2.1 k q).2.1.trans (g.2.2.2.2.1 k q).2.1, (h.2.2.2.2.1 k q).2.2.trans (g.2.2.2.2.1 k q).2.2⟩, fun k q => (h.2.2.2.2.2 k q).trans (g.2.2.2.2.2 k q)⟩
theorem clF_no {k : Int} (h : clF.contains k = false) : (21 :: rtF).contains k = false ∧ ¬ k = 44 ∧ ¬ k = 45 ∧ rdF k = false ∧ ¬ k = 43 ∧ ¬ k = 20 := by
  simp [clF] at h
  simp [rtF, rdF]
  omega
theorem CLf.rt {J' J : zJ} {s m m' : Int} (g : MRT J' J s m m') : CLf J' J := by
  obtain ⟨f1, f2, f3, f4⟩ := g.1.2.2.1
  exact ⟨f4.mono (zbut_sub (fun c hc => by simp at hc ⊢; omega)), fun k q => f2 k (by omega) rfl, fun k q => f1.1 k (by omega), fun k q => f1.2 k (by omega), fun k q => ⟨by rw [f4 169 rfl], by rw [f4 170 rfl], by rw [f4 171 rfl]⟩, fun k q => f3 k (clF_no q).1⟩
theorem CLf.r5 {J' J : zJ} (f : zOf (zbut [165]) J' J) (h : ∀ k, (k < 126 ∨ 189 ≤ k) → J' 165 k = J 165 k) : CLf J' J := ⟨f.mono (zbut_sub (fun c hc => by simp at hc ⊢; omega)), h, fun k _ => ⟨by rw [f 166 rfl], by rw [f 168 rfl]⟩, fun k _ => by rw [f 167 rfl], fun k _ => ⟨by rw [f 169 rfl], by rw [f 170 rfl], by rw [f 171 rfl]⟩, fun k _ => by rw [f 164 rfl]⟩
theorem CLf.sy {J' J : zJ} (h : RSy J' J) (h0 : 0 ≤ J 164 44) : CLf J' J := ⟨h.1.1.mono (zbut_sub (fun c hc => by simp at hc ⊢; omega)), fun k _ => by rw [h.1.1 165 rfl], fun k _ => ⟨by rw [h.1.1 166 rfl], by rw [h.1.1 168 rfl]⟩, fun k _ => by rw [h.1.1 167 rfl], fun k q => h.2.2.2.2.2.2.1 k (by omega), fun k q => h.1.2 k (clF_no q).2.2.2.1 (clF_no q).2.2.2.2.1 (clF_no q).2.2.2.2.2 (clF_no q).2.1⟩
/-- the text's table, rows and reading are sound -/
def TI (J : zJ) (s m : Int) : Prop := MS J 800 126 10 s m ∧ J 164 44 = s ∧ RSP J ∧ (J 164 21 = 0 ∨ 0 < m) ∧ ML (fun k => J 165 (126 + k)) m ∧ J 165 166 = 0
def CL (J' J : zJ) : Prop := CLf J' J ∧ (∃ s m, TI J' s m) ∧ (J' 164 43 = 0 → J 164 43 = 0) ∧ rmu J' ≤ rmu J
theorem TI.rt {J' J : zJ} {s m m' : Int} (h : TI J s m) (g : MRT J' J s m m') : TI J' s m' := ⟨g.1.1.1, (g.f 44 rfl).trans h.2.1, g.2.1, g.2.2.2.2, (h.2.2.2.2.1.mono g.1.1.2).of (fun k a c => g.1.2.2.1.2.1 (126 + k) (by omega) rfl), (g.1.2.2.1.2.1 166 (by decide) rfl).trans h.2.2.2.2.2⟩
theorem CL.rt {J' J : zJ} {s m m' : Int} (h : TI J s m) (g : MRT J' J s m m') : CL J' J := ⟨CLf.rt g, ⟨s, m', h.rt g⟩, g.2.2.1, g.2.2.2.1⟩
theorem CL.tr {J3 J2 J1 : zJ} (h : CL J3 J2) (g : CL J2 J1) : CL J3 J1 := ⟨h.1.tr g.1, h.2.1, fun q => g.2.2.1 (h.2.2.1 q), Int.le_trans h.2.2.2 g.2.2.2⟩
theorem RSP.of {J' J : zJ} (h : RSP J) (e : ∀ k, 35 ≤ k → k ≤ 42 → J' 164 k = J 164 k) : RSP J' := by
  unfold RSP RSz
  rw [e 37 (by decide) (by decide), e 35 (by decide) (by decide), e 36 (by decide) (by decide), e 42 (by decide) (by decide), e 38 (by decide) (by decide)]
  exact h
theorem TI.r5 {J' J : zJ} {s m : Int} (h : TI J s m) (f : zOf (zbut [165]) J' J) (e : J' 165 126 = J 165 126) (e9 : J' 165 166 = J 165 166) (hl : ML (fun k => J' 165 (126 + k)) m) : TI J' s m := by
  have e4 := f 164 rfl
  refine ⟨h.1.of ⟨by rw [e4], by rw [e4], by rw [e4]⟩ e (f _ rfl) (f _ rfl) (f _ rfl) (f _ rfl), by rw [e4]; exact h.2.1, h.2.2.1.of (fun k _ _ => by rw [e4]), by rw [e4]; exact h.2.2.2.1, hl, e9.trans h.2.2.2.2.2⟩
theorem CL.r5 {J' J : zJ} {s m : Int} (h : TI J' s m) (f : zOf (zbut [165]) J' J) (g : CLf J' J) : CL J' J := ⟨g, ⟨s, m, h⟩, by rw [f 164 rfl]; exact id, by unfold rmu; rw [f 164 rfl]; exact Int.le_refl _⟩
theorem CL.rl {J : zJ} {s m u t : Int} (h : TI J s m) (hK : J 165 (126 + 9) < 8) (hu : 0 ≤ u ∧ u < m) (ht : 0 ≤ t ∧ t < m) : CL (zrl J 126 u t) J := by
  have h9 : 0 ≤ J 165 (126 + 9) ∧ J 165 (126 + 9) ≤ 8 := h.2.2.2.2.1.1.1
  exact CL.r5 (h.r5 zrl_of (by rw [zrl_at, if_neg (by omega), if_neg (by omega), if_neg (by omega)]) (by rw [zrl_at, if_neg (by omega), if_neg (by omega), if_neg (by omega)]) (h.2.2.2.2.1.rl hK hu ht)) zrl_of (CLf.r5 zrl_of (fun k q => by rw [zrl_at, if_neg (by omega), if_neg (by omega), if_neg (by omega)]))
theorem CL.en {J : zJ} {s m t : Int} (h : TI J s m) (hK : J 165 (126 + 26) < 12) (ht : 0 ≤ t ∧ t < m) : CL (zen J 126 t) J := by
  have h9 : 0 ≤ J 165 (126 + 26) ∧ J 165 (126 + 26) ≤ 12 := h.2.2.2.2.1.2.2.1.1
  exact CL.r5 (h.r5 zen_of (by rw [zen_at, if_neg (by omega), if_neg (by omega)]) (by rw [zen_at, if_neg (by omega), if_neg (by omega)]) (h.2.2.2.2.1.en hK ht)) zen_of (CLf.r5 zen_of (fun k q => by rw [zen_at, if_neg (by omega), if_neg (by omega)]))
theorem CL.sy {J' J : zJ} {s m : Int} (h : TI J s m) (g : RSy J' J) : CL J' J := by
  obtain ⟨⟨f1, f2⟩, p1, p2, p3, p4, p5, p6, p7⟩ := id g
  obtain ⟨t1, t2, t3, t4, t5⟩ := id h
  subst t2
  have hT := t1.told
  have f4 : ∀ k, clF.contains k = false → J' 164 k = J 164 k := (CLf.sy g (by omega)).2.2.2.2.2
  refine ⟨CLf.sy g (by omega), ⟨J' 164 44, m, ⟨t1.1, (f4 15 rfl).trans t1.2.1, (f4 16 rfl).trans t1.2.2.1, (f4 17 rfl).trans t1.2.2.2.1, by rw [f1 165 rfl]; exact t1.2.2.2.2.1, ?_⟩, rfl, p1, by rw [f2 21 rfl (by decide) (by decide) (by decide)]; exact t4, t5.1.of (fun k _ _ => by rw [f1 165 rfl]), by rw [f1 165 rfl]; exact t5.2⟩, p2, p3⟩
  unfold MTT
  rw [f1 166 rfl, f1 167 rfl, f1 168 rfl]
  refine t1.2.2.2.2.2.congr ⟨p5, fun k a c => ?_⟩ (by omega) (fun k a c => (p6 (10 + k) (by omega)).2.1) (fun _ _ _ => rfl) (fun _ _ _ _ _ _ => rfl) (fun _ _ _ => rfl)
  by_cases q : k = J 164 44
  · subst q
    exact p7 (by omega)
  · show 0 ≤ J' 170 (10 + k) ∧ J' 170 (10 + k) ≤ 3
    rw [show J' 170 (10 + k) = J 170 (10 + k) from (p6 (10 + k) (by omega)).2.1]
    exact t1.2.2.2.2.2.1.2 k a (by omega)
set_option maxHeartbeats 4000000 in
set_option maxRecDepth 100000 in
theorem m_rule1 {l : Launch} {G : tb_G} (hl : l.stackTraces = false) (n : Nat) (J : zJ)   (s m : Int) (hI : TI J s m) : tz_Ok l G M_X12_rule1 21 0 0 [.ref 164] n J (zqv (fun J' => CL J' J)) zN := by
  refine tz_Ok.of hl (by decide +kernel) rfl (tb_c1 rfl) (Nat.le_of_ble_eq_true rfl) ?_
  show tz_At l G M_X12_rule1 (tb_rm 21 0 0) none (tb_ZM G 0 0 (zQ n 0 (zqv (fun J' => CL J' J))) (zX n 0 zN)) 0 0 n J 0 [some (.ref 164), none, none] []
  obtain ⟨hM, h44, hP, hu, hL, h66⟩ := id hI
  have hT := hM.told
  have g0 := MRT.rf hM hP hu
  have hL9 : 0 ≤ J 165 135 ∧ J 165 135 ≤ 8 := hL.1.1
  have hL8 : 0 ≤ J 165 152 ∧ J 165 152 ≤ 12 := hL.2.2.1.1
  refine tz_aload_n (pc := 0) dX12_rule1_0 rfl rfl ?_
  refine tz_aload_n (pc := 1) dX12_rule1_1 rfl rfl ?_
  refine tz_fR (pc := 2) dX12_rule1_2 fl_X12_9 r_164_0 ?_
  refine tz_sipush (pc := 5) dX12_rule1_5 (by decide) ?_
  refine tz_aL (pc := 8) (z := 135) (v := (J 165 135)) dX12_rule1_8 a_165 rfl (by decide) rfl (fun r_8 => ?_)
  refine tz_bipush (pc := 9) dX12_rule1_9 (by decide) ?_
  refine tz_icmp_ge (pc := 11) (tgt := 18) dX12_rule1_11 (by decide) (by omega) (by decide) (fun h_11 => ?_) (fun h_11 => ?_)
  · refine tz_iconst (pc := 18) dX12_rule1_18 ?_
    refine tz_iconst (pc := 19) dX12_rule1_19 ?_
    refine tz_cV (pc := 20) (m_wantsW hl n _ _ _ (by decide) (by decide) (g0).2.1 (by decide)) vl_X12_276 dX12_rule1_20 o_164 rfl rfl (Nat.le_of_ble_eq_true rfl) ⟨(Nat.le_of_ble_eq_true rfl), (Nat.le_of_ble_eq_true rfl)⟩ rfl rfl (Nat.le_of_ble_eq_true rfl) (Nat.le_of_ble_eq_true rfl) (fun r9 J_20 hq9 => ?_)
    obtain ⟨z_20, rfl, hz_20, w_20, b_20, c_20, d_20⟩ := hq9
    have q_20 := MRT.w g0 w_20
    obtain rfl : z_20 = 0 := by rcases b_20 with e9 | e9; exact e9; exact absurd rfl (c_20 e9).2.2
    have v_20 := d_20 rfl
    clear b_20 c_20 d_20
    refine tz_if_neF (pc := 23) (tgt := 27) (by decide) dX12_rule1_23 (by decide) (by decide) ?_
    exact tz_vret (pc := 26) dX12_rule1_26 rfl (Nat.le_of_ble_eq_true rfl) (Nat.le_of_ble_eq_true rfl) ⟨Nat.le_refl _, Nat.le_add_right _ _⟩ ⟨rfl, CL.rt hI q_20⟩
  · refine tz_iconst (pc := 14) dX12_rule1_14 ?_
    refine tz_goto (pc := 15) (tgt := 19) dX12_rule1_15 (by decide) ?_
    refine tz_iconst (pc := 19) dX12_rule1_19 ?_
    refine tz_cV (pc := 20) (m_wantsW hl n _ _ _ (by decide) (by decide) (g0).2.1 (by decide)) vl_X12_276 dX12_rule1_20 o_164 rfl rfl (Nat.le_of_ble_eq_true rfl) ⟨(Nat.le_of_ble_eq_true rfl), (Nat.le_of_ble_eq_true rfl)⟩ rfl rfl (Nat.le_of_ble_eq_true rfl) (Nat.le_of_ble_eq_true rfl) (fun r9 J_20 hq9 => ?_)
    obtain ⟨z_20, rfl, hz_20, w_20, b_20, c_20, d_20⟩ := hq9
    have q_20 := MRT.w g0 w_20
    have o_20 : (z_20 = 0 ∧ ¬ J_20 164 43 = 0) ∨ (z_20 = 1 ∧ J_20 164 43 = 0) := by rcases b_20 with e9 | e9; exact Or.inl ⟨e9, d_20 e9⟩; exact Or.inr ⟨e9, (c_20 e9).2.1⟩
    clear b_20 c_20 d_20
    have i_20 := w_20.2.2.1
    rcases o_20 with ⟨rfl, v_20⟩ | ⟨rfl, v_20⟩
    · refine tz_if_neF (pc := 23) (tgt := 27) (by decide) dX12_rule1_23 (by decide) (by decide) ?_
      exact tz_vret (pc := 26) dX12_rule1_26 rfl (Nat.le_of_ble_eq_true rfl) (Nat.le_of_ble_eq_true rfl) ⟨Nat.le_refl _, Nat.le_add_right _ _⟩ ⟨rfl, CL.rt hI q_20⟩
    · refine tz_if_neT (pc := 23) (tgt := 27) (by decide) dX12_rule1_23 (by decide) (by decide) ?_
      refine tz_aload_n (pc := 27) dX12_rule1_27 rfl rfl ?_
      refine tz_cV (pc := 28) (m_goW hl n _ (q_20).2.1) vl_X12_280 dX12_rule1_28 o_164 rfl rfl (Nat.le_of_ble_eq_true rfl) ⟨(Nat.le_of_ble_eq_true rfl), (Nat.le_of_ble_eq_true rfl)⟩ rfl rfl (Nat.le_of_ble_eq_true rfl) (Nat.le_of_ble_eq_true rfl) (fun r9 J_28 hq9 => ?_)
      obtain ⟨rfl, w_28, b_28⟩ := hq9
      have q_28 := MRT.w q_20 w_28
      refine tz_aload_n (pc := 31) dX12_rule1_31 rfl rfl ?_
      refine tz_iconst (pc := 32) dX12_rule1_32 ?_
      refine tz_cV (pc := 33) (m_term1 hl n _ s m (q_28).1.1.1 (q_28).2.1 (q_28).2.2.2.2 (((q_28).f 44 rfl).trans h44)) vl_X12_298 dX12_rule1_33 o_164 rfl rfl (Nat.le_of_ble_eq_true rfl) ⟨(Nat.le_of_ble_eq_true rfl), (Nat.le_of_ble_eq_true rfl)⟩ rfl rfl (Nat.le_of_ble_eq_true rfl) (Nat.le_of_ble_eq_true rfl) (fun r9 J_33 hq9 => ?_)
      obtain ⟨z_33, rfl, hz_33, m_33, w_33, h_33⟩ := hq9
      have q_33 := MRT.tr q_28 w_33
      have l_33 := w_33.1.1.2
      have i_33 := w_33.2.2.1
      unfold TV at h_33
      refine tz_istore_n (pc := 36) (L2 := [_, _, _]) dX12_rule1_36 rfl (by decide) rfl ?_
      refine tz_aload_n (pc := 37) dX12_rule1_37 rfl rfl ?_
      refine tz_fI (pc := 38) (kz := 43) (v := (J_33 164 43)) dX12_rule1_38 fl_X12_273 i_164_43 rfl rfl (fun r_38 => ?_)
      refine tz_if_ne (pc := 41) (tgt := 69) dX12_rule1_41 (by decide) (by omega) (fun h_41 => ?_) (fun h_41 => ?_)
      · refine tz_aload_n (pc := 69) dX12_rule1_69 rfl rfl ?_
        refine tz_iconst (pc := 70) dX12_rule1_70 ?_
        refine tz_cV (pc := 71) (m_term1 hl n _ s m_33 (q_33).1.1.1 (q_33).2.1 (q_33).2.2.2.2 (((q_33).f 44 rfl).trans h44)) vl_X12_298 dX12_rule1_71 o_164 rfl rfl (Nat.le_of_ble_eq_true rfl) ⟨(Nat.le_of_ble_eq_true rfl), (Nat.le_of_ble_eq_true rfl)⟩ rfl rfl (Nat.le_of_ble_eq_true rfl) (Nat.le_of_ble_eq_true rfl) (fun r9 J_71 hq9 => ?_)
        obtain ⟨z_71, rfl, hz_71, m_71, w_71, h_71⟩ := hq9
        have q_71 := MRT.tr q_33 w_71
        have l_71 := w_71.1.1.2
        have i_71 := w_71.2.2.1
        unfold TV at h_71
        refine tz_istore_n (pc := 74) (L2 := [_, _, _]) dX12_rule1_74 rfl (by decide) rfl ?_
        refine tz_aload_n (pc := 75) dX12_rule1_75 rfl rfl ?_
        refine tz_fI (pc := 76) (kz := 43) (v := (J_71 164 43)) dX12_rule1_76 fl_X12_273 i_164_43 rfl rfl (fun r_76 => ?_)
        refine tz_if_ne (pc := 79) (tgt := 118) dX12_rule1_79 (by decide) (by omega) (fun h_79 => ?_) (fun h_79 => ?_)
        · exact tz_vret (pc := 118) dX12_rule1_118 rfl (Nat.le_of_ble_eq_true rfl) (Nat.le_of_ble_eq_true rfl) ⟨Nat.le_refl _, Nat.le_add_right _ _⟩ ⟨rfl, CL.rt hI q_71⟩
        · refine tz_aload_n (pc := 82) dX12_rule1_82 rfl rfl ?_
          refine tz_aload_n (pc := 83) dX12_rule1_83 rfl rfl ?_
          refine tz_fI (pc := 84) (kz := 42) (v := (J_71 164 42)) dX12_rule1_84 fl_X12_258 i_164_42 rfl rfl (fun r_84 => ?_)
          refine tz_bipush (pc := 87) dX12_rule1_87 (by decide) ?_
          refine tz_icmp_ne (pc := 89) (tgt := 96) dX12_rule1_89 (by decide) (by omega) (by decide) (fun h_89 => ?_) (fun h_89 => ?_)
          · refine tz_iconst (pc := 96) dX12_rule1_96 ?_
            refine tz_iconst (pc := 97) dX12_rule1_97 ?_
            refine tz_cV (pc := 98) (m_wantsW hl n _ _ _ (by decide) (by decide) (q_71).2.1 (by decide)) vl_X12_276 dX12_rule1_98 o_164 rfl rfl (Nat.le_of_ble_eq_true rfl) ⟨(Nat.le_of_ble_eq_true rfl), (Nat.le_of_ble_eq_true rfl)⟩ rfl rfl (Nat.le_of_ble_eq_true rfl) (Nat.le_of_ble_eq_true rfl) (fun r9 J_98 hq9 => ?_)
            obtain ⟨z_98, rfl, hz_98, w_98, b_98, c_98, d_98⟩ := hq9
            have q_98 := MRT.w q_71 w_98
            obtain rfl : z_98 = 0 := by rcases b_98 with e9 | e9; exact e9; exact absurd rfl (c_98 e9).2.2
            have v_98 := d_98 rfl
            clear b_98 c_98 d_98
            refine tz_if_eqT (pc := 101) (tgt := 118) (by decide) dX12_rule1_101 (by decide) (by decide) ?_
            exact tz_vret (pc := 118) dX12_rule1_118 rfl (Nat.le_of_ble_eq_true rfl) (Nat.le_of_ble_eq_true rfl) ⟨Nat.le_refl _, Nat.le_add_right _ _⟩ ⟨rfl, CL.rt hI q_98⟩
          · refine tz_iconst (pc := 92) dX12_rule1_92 ?_
            refine tz_goto (pc := 93) (tgt := 97) dX12_rule1_93 (by decide) ?_
            refine tz_iconst (pc := 97) dX12_rule1_97 ?_
            refine tz_cV (pc := 98) (m_wantsW hl n _ _ _ (by decide) (by decide) (q_71).2.1 (by decide)) vl_X12_276 dX12_rule1_98 o_164 rfl rfl (Nat.le_of_ble_eq_true rfl) ⟨(Nat.le_of_ble_eq_true rfl), (Nat.le_of_ble_eq_true rfl)⟩ rfl rfl (Nat.le_of_ble_eq_true rfl) (Nat.le_of_ble_eq_true rfl) (fun r9 J_98 hq9 => ?_)
            obtain ⟨z_98, rfl, hz_98, w_98, b_98, c_98, d_98⟩ := hq9
            have q_98 := MRT.w q_71 w_98
            have o_98 : (z_98 = 0 ∧ ¬ J_98 164 43 = 0) ∨ (z_98 = 1 ∧ J_98 164 43 = 0) := by rcases b_98 with e9 | e9; exact Or.inl ⟨e9, d_98 e9⟩; exact Or.inr ⟨e9, (c_98 e9).2.1⟩
            clear b_98 c_98 d_98
            have i_98 := w_98.2.2.1
            rcases o_98 with ⟨rfl, v_98⟩ | ⟨rfl, v_98⟩
            · refine tz_if_eqT (pc := 101) (tgt := 118) (by decide) dX12_rule1_101 (by decide) (by decide) ?_
              exact tz_vret (pc := 118) dX12_rule1_118 rfl (Nat.le_of_ble_eq_true rfl) (Nat.le_of_ble_eq_true rfl) ⟨Nat.le_refl _, Nat.le_add_right _ _⟩ ⟨rfl, CL.rt hI q_98⟩
            · refine tz_if_eqF (pc := 101) (tgt := 118) (by decide) dX12_rule1_101 (by decide) (by decide) ?_
              refine tz_aload_n (pc := 104) dX12_rule1_104 rfl rfl ?_
              refine tz_aload_n (pc := 105) dX12_rule1_105 rfl rfl ?_
              refine tz_iload_n (pc := 106) dX12_rule1_106 rfl rfl ?_
              refine tz_iload_n (pc := 107) dX12_rule1_107 rfl rfl ?_
              refine tz_cV (pc := 108) (m_isRule hl n _ _ _ (by omega) (by omega) 800 126 10 s m_71 (q_98).1.1.1 (by omega) (by omega)) vl_X12_301 dX12_rule1_108 o_164 rfl rfl (Nat.le_of_ble_eq_true rfl) ⟨(Nat.le_of_ble_eq_true rfl), (Nat.le_of_ble_eq_true rfl)⟩ rfl rfl (Nat.le_of_ble_eq_true rfl) (Nat.le_of_ble_eq_true rfl) (fun r9 J_108 hq9 => ?_)
              obtain ⟨z_108, rfl, hz_108, rfl, hr_108⟩ := hq9
              refine tz_iconst (pc := 111) dX12_rule1_111 ?_
              refine tz_cV (pc := 112) (m_wantsW hl n _ _ _ (by omega) (by decide) (q_98).2.1 (by decide)) vl_X12_276 dX12_rule1_112 o_164 rfl rfl (Nat.le_of_ble_eq_true rfl) ⟨(Nat.le_of_ble_eq_true rfl), (Nat.le_of_ble_eq_true rfl)⟩ rfl rfl (Nat.le_of_ble_eq_true rfl) (Nat.le_of_ble_eq_true rfl) (fun r9 J_112 hq9 => ?_)
              obtain ⟨z_112, rfl, hz_112, w_112, b_112, c_112, d_112⟩ := hq9
              have q_112 := MRT.w q_98 w_112
              have o_112 : (z_112 = 0 ∧ ¬ J_112 164 43 = 0) ∨ (z_112 = 1 ∧ J_112 164 43 = 0) := by rcases b_112 with e9 | e9; exact Or.inl ⟨e9, d_112 e9⟩; exact Or.inr ⟨e9, (c_112 e9).2.1⟩
              clear b_112 c_112 d_112
              have i_112 := w_112.2.2.1
              rcases o_112 with ⟨rfl, v_112⟩ | ⟨rfl, v_112⟩
              · refine tz_if_neF (pc := 115) (tgt := 119) (by decide) dX12_rule1_115 (by decide) (by decide) ?_
                exact tz_vret (pc := 118) dX12_rule1_118 rfl (Nat.le_of_ble_eq_true rfl) (Nat.le_of_ble_eq_true rfl) ⟨Nat.le_refl _, Nat.le_add_right _ _⟩ ⟨rfl, CL.rt hI q_112⟩
              · refine tz_if_neT (pc := 115) (tgt := 119) (by decide) dX12_rule1_115 (by decide) (by decide) ?_
                refine tz_aload_n (pc := 119) dX12_rule1_119 rfl rfl ?_
                refine tz_iload_n (pc := 120) dX12_rule1_120 rfl rfl ?_
                refine tz_iload_n (pc := 121) dX12_rule1_121 rfl rfl ?_
                have ro_122 : J_112 165 (126 + 9) = J 165 135 := ((q_112).1.2.2.1.2.1 135 (by decide) rfl)
                refine tz_cV (pc := 122) (m_rules1 hl n _ _ _ (by omega) (by omega) 126 (q_112).1.1.1.2.2.1 (by decide) (by omega)) vl_X12_304 dX12_rule1_122 o_164 rfl rfl (Nat.le_of_ble_eq_true rfl) ⟨(Nat.le_of_ble_eq_true rfl), (Nat.le_of_ble_eq_true rfl)⟩ rfl rfl (Nat.le_of_ble_eq_true rfl) (Nat.le_of_ble_eq_true rfl) (fun r9 J_122 hq9 => ?_)
                obtain ⟨rfl, j_122⟩ := hq9
                subst j_122
                exact tz_vret (pc := 125) dX12_rule1_125 rfl (Nat.le_of_ble_eq_true rfl) (Nat.le_of_ble_eq_true rfl) ⟨Nat.le_refl _, Nat.le_add_right _ _⟩ ⟨rfl, CL.tr (CL.rl (hI.rt q_112) (by omega) (by omega) (by omega)) (CL.rt hI q_112)⟩
      · refine tz_aload_n (pc := 44) dX12_rule1_44 rfl rfl ?_
        refine tz_aload_n (pc := 45) dX12_rule1_45 rfl rfl ?_
        refine tz_fI (pc := 46) (kz := 40) (v := (J_33 164 40)) dX12_rule1_46 fl_X12_249 i_164_40 rfl rfl (fun r_46 => ?_)
        refine tz_iconst (pc := 49) dX12_rule1_49 ?_
        refine tz_icmp_ne (pc := 50) (tgt := 57) dX12_rule1_50 (by decide) (by omega) (by decide) (fun h_50 => ?_) (fun h_50 => ?_)
        · refine tz_iconst (pc := 57) dX12_rule1_57 ?_
          refine tz_iconst (pc := 58) dX12_rule1_58 ?_
          refine tz_cV (pc := 59) (m_wantsW hl n _ _ _ (by decide) (by decide) (q_33).2.1 (by decide)) vl_X12_276 dX12_rule1_59 o_164 rfl rfl (Nat.le_of_ble_eq_true rfl) ⟨(Nat.le_of_ble_eq_true rfl), (Nat.le_of_ble_eq_true rfl)⟩ rfl rfl (Nat.le_of_ble_eq_true rfl) (Nat.le_of_ble_eq_true rfl) (fun r9 J_59 hq9 => ?_)
          obtain ⟨z_59, rfl, hz_59, w_59, b_59, c_59, d_59⟩ := hq9
          have q_59 := MRT.w q_33 w_59
          obtain rfl : z_59 = 0 := by rcases b_59 with e9 | e9; exact e9; exact absurd rfl (c_59 e9).2.2
          have v_59 := d_59 rfl
          clear b_59 c_59 d_59
          refine tz_if_eqT (pc := 62) (tgt := 69) (by decide) dX12_rule1_62 (by decide) (by decide) ?_
          refine tz_aload_n (pc := 69) dX12_rule1_69 rfl rfl ?_
          refine tz_iconst (pc := 70) dX12_rule1_70 ?_
          refine tz_cV (pc := 71) (m_term1 hl n _ s m_33 (q_59).1.1.1 (q_59).2.1 (q_59).2.2.2.2 (((q_59).f 44 rfl).trans h44)) vl_X12_298 dX12_rule1_71 o_164 rfl rfl (Nat.le_of_ble_eq_true rfl) ⟨(Nat.le_of_ble_eq_true rfl), (Nat.le_of_ble_eq_true rfl)⟩ rfl rfl (Nat.le_of_ble_eq_true rfl) (Nat.le_of_ble_eq_true rfl) (fun r9 J_71 hq9 => ?_)
          obtain ⟨z_71, rfl, hz_71, m_71, w_71, h_71⟩ := hq9
          have q_71 := MRT.tr q_59 w_71
          have l_71 := w_71.1.1.2
          have i_71 := w_71.2.2.1
          unfold TV at h_71
          refine tz_istore_n (pc := 74) (L2 := [_, _, _]) dX12_rule1_74 rfl (by decide) rfl ?_
          refine tz_aload_n (pc := 75) dX12_rule1_75 rfl rfl ?_
          refine tz_fI (pc := 76) (kz := 43) (v := (J_71 164 43)) dX12_rule1_76 fl_X12_273 i_164_43 rfl rfl (fun r_76 => ?_)
          refine tz_if_ne (pc := 79) (tgt := 118) dX12_rule1_79 (by decide) (by omega) (fun h_79 => ?_) (fun h_79 => ?_)
          · exact tz_vret (pc := 118) dX12_rule1_118 rfl (Nat.le_of_ble_eq_true rfl) (Nat.le_of_ble_eq_true rfl) ⟨Nat.le_refl _, Nat.le_add_right _ _⟩ ⟨rfl, CL.rt hI q_71⟩
          · refine tz_aload_n (pc := 82) dX12_rule1_82 rfl rfl ?_
            refine tz_aload_n (pc := 83) dX12_rule1_83 rfl rfl ?_
            refine tz_fI (pc := 84) (kz := 42) (v := (J_71 164 42)) dX12_rule1_84 fl_X12_258 i_164_42 rfl rfl (fun r_84 => ?_)
            refine tz_bipush (pc := 87) dX12_rule1_87 (by decide) ?_
            refine tz_icmp_ne (pc := 89) (tgt := 96) dX12_rule1_89 (by decide) (by omega) (by decide) (fun h_89 => ?_) (fun h_89 => ?_)
            · refine tz_iconst (pc := 96) dX12_rule1_96 ?_
              refine tz_iconst (pc := 97) dX12_rule1_97 ?_
              refine tz_cV (pc := 98) (m_wantsW hl n _ _ _ (by decide) (by decide) (q_71).2.1 (by decide)) vl_X12_276 dX12_rule1_98 o_164 rfl rfl (Nat.le_of_ble_eq_true rfl) ⟨(Nat.le_of_ble_eq_true rfl), (Nat.le_of_ble_eq_true rfl)⟩ rfl rfl (Nat.le_of_ble_eq_true rfl) (Nat.le_of_ble_eq_true rfl) (fun r9 J_98 hq9 => ?_)
              obtain ⟨z_98, rfl, hz_98, w_98, b_98, c_98, d_98⟩ := hq9
              have q_98 := MRT.w q_71 w_98
              obtain rfl : z_98 = 0 := by rcases b_98 with e9 | e9; exact e9; exact absurd rfl (c_98 e9).2.2
              have v_98 := d_98 rfl
              clear b_98 c_98 d_98
              refine tz_if_eqT (pc := 101) (tgt := 118) (by decide) dX12_rule1_101 (by decide) (by decide) ?_
              exact tz_vret (pc := 118) dX12_rule1_118 rfl (Nat.le_of_ble_eq_true rfl) (Nat.le_of_ble_eq_true rfl) ⟨Nat.le_refl _, Nat.le_add_right _ _⟩ ⟨rfl, CL.rt hI q_98⟩
            · refine tz_iconst (pc := 92) dX12_rule1_92 ?_
              refine tz_goto (pc := 93) (tgt := 97) dX12_rule1_93 (by decide) ?_
              refine tz_iconst (pc := 97) dX12_rule1_97 ?_
              refine tz_cV (pc := 98) (m_wantsW hl n _ _ _ (by decide) (by decide) (q_71).2.1 (by decide)) vl_X12_276 dX12_rule1_98 o_164 rfl rfl (Nat.le_of_ble_eq_true rfl) ⟨(Nat.le_of_ble_eq_true rfl), (Nat.le_of_ble_eq_true rfl)⟩ rfl rfl (Nat.le_of_ble_eq_true rfl) (Nat.le_of_ble_eq_true rfl) (fun r9 J_98 hq9 => ?_)
              obtain ⟨z_98, rfl, hz_98, w_98, b_98, c_98, d_98⟩ := hq9
              have q_98 := MRT.w q_71 w_98
              have o_98 : (z_98 = 0 ∧ ¬ J_98 164 43 = 0) ∨ (z_98 = 1 ∧ J_98 164 43 = 0) := by rcases b_98 with e9 | e9; exact Or.inl ⟨e9, d_98 e9⟩; exact Or.inr ⟨e9, (c_98 e9).2.1⟩
              clear b_98 c_98 d_98
              have i_98 := w_98.2.2.1
              rcases o_98 with ⟨rfl, v_98⟩ | ⟨rfl, v_98⟩
              · refine tz_if_eqT (pc := 101) (tgt := 118) (by decide) dX12_rule1_101 (by decide) (by decide) ?_
                exact tz_vret (pc := 118) dX12_rule1_118 rfl (Nat.le_of_ble_eq_true rfl) (Nat.le_of_ble_eq_true rfl) ⟨Nat.le_refl _, Nat.le_add_right _ _⟩ ⟨rfl, CL.rt hI q_98⟩
              · refine tz_if_eqF (pc := 101) (tgt := 118) (by decide) dX12_rule1_101 (by decide) (by decide) ?_
                refine tz_aload_n (pc := 104) dX12_rule1_104 rfl rfl ?_
                refine tz_aload_n (pc := 105) dX12_rule1_105 rfl rfl ?_
                refine tz_iload_n (pc := 106) dX12_rule1_106 rfl rfl ?_
                refine tz_iload_n (pc := 107) dX12_rule1_107 rfl rfl ?_
                refine tz_cV (pc := 108) (m_isRule hl n _ _ _ (by omega) (by omega) 800 126 10 s m_71 (q_98).1.1.1 (by omega) (by omega)) vl_X12_301 dX12_rule1_108 o_164 rfl rfl (Nat.le_of_ble_eq_true rfl) ⟨(Nat.le_of_ble_eq_true rfl), (Nat.le_of_ble_eq_true rfl)⟩ rfl rfl (Nat.le_of_ble_eq_true rfl) (Nat.le_of_ble_eq_true rfl) (fun r9 J_108 hq9 => ?_)
                obtain ⟨z_108, rfl, hz_108, rfl, hr_108⟩ := hq9
                refine tz_iconst (pc := 111) dX12_rule1_111 ?_
                refine tz_cV (pc := 112) (m_wantsW hl n _ _ _ (by omega) (by decide) (q_98).2.1 (by decide)) vl_X12_276 dX12_rule1_112 o_164 rfl rfl (Nat.le_of_ble_eq_true rfl) ⟨(Nat.le_of_ble_eq_true rfl), (Nat.le_of_ble_eq_true rfl)⟩ rfl rfl (Nat.le_of_ble_eq_true rfl) (Nat.le_of_ble_eq_true rfl) (fun r9 J_112 hq9 => ?_)
                obtain ⟨z_112, rfl, hz_112, w_112, b_112, c_112, d_112⟩ := hq9
                have q_112 := MRT.w q_98 w_112
                have o_112 : (z_112 = 0 ∧ ¬ J_112 164 43 = 0) ∨ (z_112 = 1 ∧ J_112 164 43 = 0) := by rcases b_112 with e9 | e9; exact Or.inl ⟨e9, d_112 e9⟩; exact Or.inr ⟨e9, (c_112 e9).2.1⟩
                clear b_112 c_112 d_112
                have i_112 := w_112.2.2.1
                rcases o_112 with ⟨rfl, v_112⟩ | ⟨rfl, v_112⟩
                · refine tz_if_neF (pc := 115) (tgt := 119) (by decide) dX12_rule1_115 (by decide) (by decide) ?_
                  exact tz_vret (pc := 118) dX12_rule1_118 rfl (Nat.le_of_ble_eq_true rfl) (Nat.le_of_ble_eq_true rfl) ⟨Nat.le_refl _, Nat.le_add_right _ _⟩ ⟨rfl, CL.rt hI q_112⟩
                · refine tz_if_neT (pc := 115) (tgt := 119) (by decide) dX12_rule1_115 (by decide) (by decide) ?_
                  refine tz_aload_n (pc := 119) dX12_rule1_119 rfl rfl ?_
                  refine tz_iload_n (pc := 120) dX12_rule1_120 rfl rfl ?_
                  refine tz_iload_n (pc := 121) dX12_rule1_121 rfl rfl ?_
                  have ro_122 : J_112 165 (126 + 9) = J 165 135 := ((q_112).1.2.2.1.2.1 135 (by decide) rfl)
                  refine tz_cV (pc := 122) (m_rules1 hl n _ _ _ (by omega) (by omega) 126 (q_112).1.1.1.2.2.1 (by decide) (by omega)) vl_X12_304 dX12_rule1_122 o_164 rfl rfl (Nat.le_of_ble_eq_true rfl) ⟨(Nat.le_of_ble_eq_true rfl), (Nat.le_of_ble_eq_true rfl)⟩ rfl rfl (Nat.le_of_ble_eq_true rfl) (Nat.le_of_ble_eq_true rfl) (fun r9 J_122 hq9 => ?_)
                  obtain ⟨rfl, j_122⟩ := hq9
                  subst j_122
                  exact tz_vret (pc := 125) dX12_rule1_125 rfl (Nat.le_of_ble_eq_true rfl) (Nat.le_of_ble_eq_true rfl) ⟨Nat.le_refl _, Nat.le_add_right _ _⟩ ⟨rfl, CL.tr (CL.rl (hI.rt q_112) (by omega) (by omega) (by omega)) (CL.rt hI q_112)⟩
        · refine tz_iconst (pc := 53) dX12_rule1_53 ?_
          refine tz_goto (pc := 54) (tgt := 58) dX12_rule1_54 (by decide) ?_
          refine tz_iconst (pc := 58) dX12_rule1_58 ?_
          refine tz_cV (pc := 59) (m_wantsW hl n _ _ _ (by decide) (by decide) (q_33).2.1 (by decide)) vl_X12_276 dX12_rule1_59 o_164 rfl rfl (Nat.le_of_ble_eq_true rfl) ⟨(Nat.le_of_ble_eq_true rfl), (Nat.le_of_ble_eq_true rfl)⟩ rfl rfl (Nat.le_of_ble_eq_true rfl) (Nat.le_of_ble_eq_true rfl) (fun r9 J_59 hq9 => ?_)
          obtain ⟨z_59, rfl, hz_59, w_59, b_59, c_59, d_59⟩ := hq9
          have q_59 := MRT.w q_33 w_59
          have o_59 : (z_59 = 0 ∧ ¬ J_59 164 43 = 0) ∨ (z_59 = 1 ∧ J_59 164 43 = 0) := by rcases b_59 with e9 | e9; exact Or.inl ⟨e9, d_59 e9⟩; exact Or.inr ⟨e9, (c_59 e9).2.1⟩
          clear b_59 c_59 d_59
          have i_59 := w_59.2.2.1
          rcases o_59 with ⟨rfl, v_59⟩ | ⟨rfl, v_59⟩
          · refine tz_if_eqT (pc := 62) (tgt := 69) (by decide) dX12_rule1_62 (by decide) (by decide) ?_
            refine tz_aload_n (pc := 69) dX12_rule1_69 rfl rfl ?_
            refine tz_iconst (pc := 70) dX12_rule1_70 ?_
            refine tz_cV (pc := 71) (m_term1 hl n _ s m_33 (q_59).1.1.1 (q_59).2.1 (q_59).2.2.2.2 (((q_59).f 44 rfl).trans h44)) vl_X12_298 dX12_rule1_71 o_164 rfl rfl (Nat.le_of_ble_eq_true rfl) ⟨(Nat.le_of_ble_eq_true rfl), (Nat.le_of_ble_eq_true rfl)⟩ rfl rfl (Nat.le_of_ble_eq_true rfl) (Nat.le_of_ble_eq_true rfl) (fun r9 J_71 hq9 => ?_)
            obtain ⟨z_71, rfl, hz_71, m_71, w_71, h_71⟩ := hq9
            have q_71 := MRT.tr q_59 w_71
            have l_71 := w_71.1.1.2
            have i_71 := w_71.2.2.1
            unfold TV at h_71
            refine tz_istore_n (pc := 74) (L2 := [_, _, _]) dX12_rule1_74 rfl (by decide) rfl ?_
            refine tz_aload_n (pc := 75) dX12_rule1_75 rfl rfl ?_
            refine tz_fI (pc := 76) (kz := 43) (v := (J_71 164 43)) dX12_rule1_76 fl_X12_273 i_164_43 rfl rfl (fun r_76 => ?_)
            refine tz_if_ne (pc := 79) (tgt := 118) dX12_rule1_79 (by decide) (by omega) (fun h_79 => ?_) (fun h_79 => ?_)
            · exact tz_vret (pc := 118) dX12_rule1_118 rfl (Nat.le_of_ble_eq_true rfl) (Nat.le_of_ble_eq_true rfl) ⟨Nat.le_refl _, Nat.le_add_right _ _⟩ ⟨rfl, CL.rt hI q_71⟩
            · refine tz_aload_n (pc := 82) dX12_rule1_82 rfl rfl ?_
              refine tz_aload_n (pc := 83) dX12_rule1_83 rfl rfl ?_
              refine tz_fI (pc := 84) (kz := 42) (v := (J_71 164 42)) dX12_rule1_84 fl_X12_258 i_164_42 rfl rfl (fun r_84 => ?_)
              refine tz_bipush (pc := 87) dX12_rule1_87 (by decide) ?_
              refine tz_icmp_ne (pc := 89) (tgt := 96) dX12_rule1_89 (by decide) (by omega) (by decide) (fun h_89 => ?_) (fun h_89 => ?_)
              · refine tz_iconst (pc := 96) dX12_rule1_96 ?_
                refine tz_iconst (pc := 97) dX12_rule1_97 ?_
                refine tz_cV (pc := 98) (m_wantsW hl n _ _ _ (by decide) (by decide) (q_71).2.1 (by decide)) vl_X12_276 dX12_rule1_98 o_164 rfl rfl (Nat.le_of_ble_eq_true rfl) ⟨(Nat.le_of_ble_eq_true rfl), (Nat.le_of_ble_eq_true rfl)⟩ rfl rfl (Nat.le_of_ble_eq_true rfl) (Nat.le_of_ble_eq_true rfl) (fun r9 J_98 hq9 => ?_)
                obtain ⟨z_98, rfl, hz_98, w_98, b_98, c_98, d_98⟩ := hq9
                have q_98 := MRT.w q_71 w_98
                obtain rfl : z_98 = 0 := by rcases b_98 with e9 | e9; exact e9; exact absurd rfl (c_98 e9).2.2
                have v_98 := d_98 rfl
                clear b_98 c_98 d_98
                refine tz_if_eqT (pc := 101) (tgt := 118) (by decide) dX12_rule1_101 (by decide) (by decide) ?_
                exact tz_vret (pc := 118) dX12_rule1_118 rfl (Nat.le_of_ble_eq_true rfl) (Nat.le_of_ble_eq_true rfl) ⟨Nat.le_refl _, Nat.le_add_right _ _⟩ ⟨rfl, CL.rt hI q_98⟩
              · refine tz_iconst (pc := 92) dX12_rule1_92 ?_
                refine tz_goto (pc := 93) (tgt := 97) dX12_rule1_93 (by decide) ?_
                refine tz_iconst (pc := 97) dX12_rule1_97 ?_
                refine tz_cV (pc := 98) (m_wantsW hl n _ _ _ (by decide) (by decide) (q_71).2.1 (by decide)) vl_X12_276 dX12_rule1_98 o_164 rfl rfl (Nat.le_of_ble_eq_true rfl) ⟨(Nat.le_of_ble_eq_true rfl), (Nat.le_of_ble_eq_true rfl)⟩ rfl rfl (Nat.le_of_ble_eq_true rfl) (Nat.le_of_ble_eq_true rfl) (fun r9 J_98 hq9 => ?_)
                obtain ⟨z_98, rfl, hz_98, w_98, b_98, c_98, d_98⟩ := hq9
                have q_98 := MRT.w q_71 w_98
                have o_98 : (z_98 = 0 ∧ ¬ J_98 164 43 = 0) ∨ (z_98 = 1 ∧ J_98 164 43 = 0) := by rcases b_98 with e9 | e9; exact Or.inl ⟨e9, d_98 e9⟩; exact Or.inr ⟨e9, (c_98 e9).2.1⟩
                clear b_98 c_98 d_98
                have i_98 := w_98.2.2.1
                rcases o_98 with ⟨rfl, v_98⟩ | ⟨rfl, v_98⟩
                · refine tz_if_eqT (pc := 101) (tgt := 118) (by decide) dX12_rule1_101 (by decide) (by decide) ?_
                  exact tz_vret (pc := 118) dX12_rule1_118 rfl (Nat.le_of_ble_eq_true rfl) (Nat.le_of_ble_eq_true rfl) ⟨Nat.le_refl _, Nat.le_add_right _ _⟩ ⟨rfl, CL.rt hI q_98⟩
                · refine tz_if_eqF (pc := 101) (tgt := 118) (by decide) dX12_rule1_101 (by decide) (by decide) ?_
                  refine tz_aload_n (pc := 104) dX12_rule1_104 rfl rfl ?_
                  refine tz_aload_n (pc := 105) dX12_rule1_105 rfl rfl ?_
                  refine tz_iload_n (pc := 106) dX12_rule1_106 rfl rfl ?_
                  refine tz_iload_n (pc := 107) dX12_rule1_107 rfl rfl ?_
                  refine tz_cV (pc := 108) (m_isRule hl n _ _ _ (by omega) (by omega) 800 126 10 s m_71 (q_98).1.1.1 (by omega) (by omega)) vl_X12_301 dX12_rule1_108 o_164 rfl rfl (Nat.le_of_ble_eq_true rfl) ⟨(Nat.le_of_ble_eq_true rfl), (Nat.le_of_ble_eq_true rfl)⟩ rfl rfl (Nat.le_of_ble_eq_true rfl) (Nat.le_of_ble_eq_true rfl) (fun r9 J_108 hq9 => ?_)
                  obtain ⟨z_108, rfl, hz_108, rfl, hr_108⟩ := hq9
                  refine tz_iconst (pc := 111) dX12_rule1_111 ?_
                  refine tz_cV (pc := 112) (m_wantsW hl n _ _ _ (by omega) (by decide) (q_98).2.1 (by decide)) vl_X12_276 dX12_rule1_112 o_164 rfl rfl (Nat.le_of_ble_eq_true rfl) ⟨(Nat.le_of_ble_eq_true rfl), (Nat.le_of_ble_eq_true rfl)⟩ rfl rfl (Nat.le_of_ble_eq_true rfl) (Nat.le_of_ble_eq_true rfl) (fun r9 J_112 hq9 => ?_)
                  obtain ⟨z_112, rfl, hz_112, w_112, b_112, c_112, d_112⟩ := hq9
                  have q_112 := MRT.w q_98 w_112
                  have o_112 : (z_112 = 0 ∧ ¬ J_112 164 43 = 0) ∨ (z_112 = 1 ∧ J_112 164 43 = 0) := by rcases b_112 with e9 | e9; exact Or.inl ⟨e9, d_112 e9⟩; exact Or.inr ⟨e9, (c_112 e9).2.1⟩
                  clear b_112 c_112 d_112
                  have i_112 := w_112.2.2.1
                  rcases o_112 with ⟨rfl, v_112⟩ | ⟨rfl, v_112⟩
                  · refine tz_if_neF (pc := 115) (tgt := 119) (by decide) dX12_rule1_115 (by decide) (by decide) ?_
                    exact tz_vret (pc := 118) dX12_rule1_118 rfl (Nat.le_of_ble_eq_true rfl) (Nat.le_of_ble_eq_true rfl) ⟨Nat.le_refl _, Nat.le_add_right _ _⟩ ⟨rfl, CL.rt hI q_112⟩
                  · refine tz_if_neT (pc := 115) (tgt := 119) (by decide) dX12_rule1_115 (by decide) (by decide) ?_
                    refine tz_aload_n (pc := 119) dX12_rule1_119 rfl rfl ?_
                    refine tz_iload_n (pc := 120) dX12_rule1_120 rfl rfl ?_
                    refine tz_iload_n (pc := 121) dX12_rule1_121 rfl rfl ?_
                    have ro_122 : J_112 165 (126 + 9) = J 165 135 := ((q_112).1.2.2.1.2.1 135 (by decide) rfl)
                    refine tz_cV (pc := 122) (m_rules1 hl n _ _ _ (by omega) (by omega) 126 (q_112).1.1.1.2.2.1 (by decide) (by omega)) vl_X12_304 dX12_rule1_122 o_164 rfl rfl (Nat.le_of_ble_eq_true rfl) ⟨(Nat.le_of_ble_eq_true rfl), (Nat.le_of_ble_eq_true rfl)⟩ rfl rfl (Nat.le_of_ble_eq_true rfl) (Nat.le_of_ble_eq_true rfl) (fun r9 J_122 hq9 => ?_)
                    obtain ⟨rfl, j_122⟩ := hq9
                    subst j_122
                    exact tz_vret (pc := 125) dX12_rule1_125 rfl (Nat.le_of_ble_eq_true rfl) (Nat.le_of_ble_eq_true rfl) ⟨Nat.le_refl _, Nat.le_add_right _ _⟩ ⟨rfl, CL.tr (CL.rl (hI.rt q_112) (by omega) (by omega) (by omega)) (CL.rt hI q_112)⟩
          · refine tz_if_eqF (pc := 62) (tgt := 69) (by decide) dX12_rule1_62 (by decide) (by decide) ?_
            refine tz_aload_n (pc := 65) dX12_rule1_65 rfl rfl ?_
            refine tz_cV (pc := 66) (m_goW hl n _ (q_59).2.1) vl_X12_280 dX12_rule1_66 o_164 rfl rfl (Nat.le_of_ble_eq_true rfl) ⟨(Nat.le_of_ble_eq_true rfl), (Nat.le_of_ble_eq_true rfl)⟩ rfl rfl (Nat.le_of_ble_eq_true rfl) (Nat.le_of_ble_eq_true rfl) (fun r9 J_66 hq9 => ?_)
            obtain ⟨rfl, w_66, b_66⟩ := hq9
            have q_66 := MRT.w q_59 w_66
            refine tz_aload_n (pc := 69) dX12_rule1_69 rfl rfl ?_
            refine tz_iconst (pc := 70) dX12_rule1_70 ?_
            refine tz_cV (pc := 71) (m_term1 hl n _ s m_33 (q_66).1.1.1 (q_66).2.1 (q_66).2.2.2.2 (((q_66).f 44 rfl).trans h44)) vl_X12_298 dX12_rule1_71 o_164 rfl rfl (Nat.le_of_ble_eq_true rfl) ⟨(Nat.le_of_ble_eq_true rfl), (Nat.le_of_ble_eq_true rfl)⟩ rfl rfl (Nat.le_of_ble_eq_true rfl) (Nat.le_of_ble_eq_true rfl) (fun r9 J_71 hq9 => ?_)
            obtain ⟨z_71, rfl, hz_71, m_71, w_71, h_71⟩ := hq9
            have q_71 := MRT.tr q_66 w_71
            have l_71 := w_71.1.1.2
            have i_71 := w_71.2.2.1
            unfold TV at h_71
            refine tz_istore_n (pc := 74) (L2 := [_, _, _]) dX12_rule1_74 rfl (by decide) rfl ?_
            refine tz_aload_n (pc := 75) dX12_rule1_75 rfl rfl ?_
            refine tz_fI (pc := 76) (kz := 43) (v := (J_71 164 43)) dX12_rule1_76 fl_X12_273 i_164_43 rfl rfl (fun r_76 => ?_)
            refine tz_if_ne (pc := 79) (tgt := 118) dX12_rule1_79 (by decide) (by omega) (fun h_79 => ?_) (fun h_79 => ?_)
            · exact tz_vret (pc := 118) dX12_rule1_118 rfl (Nat.le_of_ble_eq_true rfl) (Nat.le_of_ble_eq_true rfl) ⟨Nat.le_refl _, Nat.le_add_right _ _⟩ ⟨rfl, CL.rt hI q_71⟩
            · refine tz_aload_n (pc := 82) dX12_rule1_82 rfl rfl ?_
              refine tz_aload_n (pc := 83) dX12_rule1_83 rfl rfl ?_
              refine tz_fI (pc := 84) (kz := 42) (v := (J_71 164 42)) dX12_rule1_84 fl_X12_258 i_164_42 rfl rfl (fun r_84 => ?_)
              refine tz_bipush (pc := 87) dX12_rule1_87 (by decide) ?_
              refine tz_icmp_ne (pc := 89) (tgt := 96) dX12_rule1_89 (by decide) (by omega) (by decide) (fun h_89 => ?_) (fun h_89 => ?_)
              · refine tz_iconst (pc := 96) dX12_rule1_96 ?_
                refine tz_iconst (pc := 97) dX12_rule1_97 ?_
                refine tz_cV (pc := 98) (m_wantsW hl n _ _ _ (by decide) (by decide) (q_71).2.1 (by decide)) vl_X12_276 dX12_rule1_98 o_164 rfl rfl (Nat.le_of_ble_eq_true rfl) ⟨(Nat.le_of_ble_eq_true rfl), (Nat.le_of_ble_eq_true rfl)⟩ rfl rfl (Nat.le_of_ble_eq_true rfl) (Nat.le_of_ble_eq_true rfl) (fun r9 J_98 hq9 => ?_)
                obtain ⟨z_98, rfl, hz_98, w_98, b_98, c_98, d_98⟩ := hq9
                have q_98 := MRT.w q_71 w_98
                obtain rfl : z_98 = 0 := by rcases b_98 with e9 | e9; exact e9; exact absurd rfl (c_98 e9).2.2
                have v_98 := d_98 rfl
                clear b_98 c_98 d_98
                refine tz_if_eqT (pc := 101) (tgt := 118) (by decide) dX12_rule1_101 (by decide) (by decide) ?_
                exact tz_vret (pc := 118) dX12_rule1_118 rfl (Nat.le_of_ble_eq_true rfl) (Nat.le_of_ble_eq_true rfl) ⟨Nat.le_refl _, Nat.le_add_right _ _⟩ ⟨rfl, CL.rt hI q_98⟩
              · refine tz_iconst (pc := 92) dX12_rule1_92 ?_
                refine tz_goto (pc := 93) (tgt := 97) dX12_rule1_93 (by decide) ?_
                refine tz_iconst (pc := 97) dX12_rule1_97 ?_
                refine tz_cV (pc := 98) (m_wantsW hl n _ _ _ (by decide) (by decide) (q_71).2.1 (by decide)) vl_X12_276 dX12_rule1_98 o_164 rfl rfl (Nat.le_of_ble_eq_true rfl) ⟨(Nat.le_of_ble_eq_true rfl), (Nat.le_of_ble_eq_true rfl)⟩ rfl rfl (Nat.le_of_ble_eq_true rfl) (Nat.le_of_ble_eq_true rfl) (fun r9 J_98 hq9 => ?_)
                obtain ⟨z_98, rfl, hz_98, w_98, b_98, c_98, d_98⟩ := hq9
                have q_98 := MRT.w q_71 w_98
                have o_98 : (z_98 = 0 ∧ ¬ J_98 164 43 = 0) ∨ (z_98 = 1 ∧ J_98 164 43 = 0) := by rcases b_98 with e9 | e9; exact Or.inl ⟨e9, d_98 e9⟩; exact Or.inr ⟨e9, (c_98 e9).2.1⟩
                clear b_98 c_98 d_98
                have i_98 := w_98.2.2.1
                rcases o_98 with ⟨rfl, v_98⟩ | ⟨rfl, v_98⟩
                · refine tz_if_eqT (pc := 101) (tgt := 118) (by decide) dX12_rule1_101 (by decide) (by decide) ?_
                  exact tz_vret (pc := 118) dX12_rule1_118 rfl (Nat.le_of_ble_eq_true rfl) (Nat.le_of_ble_eq_true rfl) ⟨Nat.le_refl _, Nat.le_add_right _ _⟩ ⟨rfl, CL.rt hI q_98⟩
                · refine tz_if_eqF (pc := 101) (tgt := 118) (by decide) dX12_rule1_101 (by decide) (by decide) ?_
                  refine tz_aload_n (pc := 104) dX12_rule1_104 rfl rfl ?_
                  refine tz_aload_n (pc := 105) dX12_rule1_105 rfl rfl ?_
                  refine tz_iload_n (pc := 106) dX12_rule1_106 rfl rfl ?_
                  refine tz_iload_n (pc := 107) dX12_rule1_107 rfl rfl ?_
                  refine tz_cV (pc := 108) (m_isRule hl n _ _ _ (by omega) (by omega) 800 126 10 s m_71 (q_98).1.1.1 (by omega) (by omega)) vl_X12_301 dX12_rule1_108 o_164 rfl rfl (Nat.le_of_ble_eq_true rfl) ⟨(Nat.le_of_ble_eq_true rfl), (Nat.le_of_ble_eq_true rfl)⟩ rfl rfl (Nat.le_of_ble_eq_true rfl) (Nat.le_of_ble_eq_true rfl) (fun r9 J_108 hq9 => ?_)
                  obtain ⟨z_108, rfl, hz_108, rfl, hr_108⟩ := hq9
                  refine tz_iconst (pc := 111) dX12_rule1_111 ?_
                  refine tz_cV (pc := 112) (m_wantsW hl n _ _ _ (by omega) (by decide) (q_98).2.1 (by decide)) vl_X12_276 dX12_rule1_112 o_164 rfl rfl (Nat.le_of_ble_eq_true rfl) ⟨(Nat.le_of_ble_eq_true rfl), (Nat.le_of_ble_eq_true rfl)⟩ rfl rfl (Nat.le_of_ble_eq_true rfl) (Nat.le_of_ble_eq_true rfl) (fun r9 J_112 hq9 => ?_)
                  obtain ⟨z_112, rfl, hz_112, w_112, b_112, c_112, d_112⟩ := hq9
                  have q_112 := MRT.w q_98 w_112
                  have o_112 : (z_112 = 0 ∧ ¬ J_112 164 43 = 0) ∨ (z_112 = 1 ∧ J_112 164 43 = 0) := by rcases b_112 with e9 | e9; exact Or.inl ⟨e9, d_112 e9⟩; exact Or.inr ⟨e9, (c_112 e9).2.1⟩
                  clear b_112 c_112 d_112
                  have i_112 := w_112.2.2.1
                  rcases o_112 with ⟨rfl, v_112⟩ | ⟨rfl, v_112⟩
                  · refine tz_if_neF (pc := 115) (tgt := 119) (by decide) dX12_rule1_115 (by decide) (by decide) ?_
                    exact tz_vret (pc := 118) dX12_rule1_118 rfl (Nat.le_of_ble_eq_true rfl) (Nat.le_of_ble_eq_true rfl) ⟨Nat.le_refl _, Nat.le_add_right _ _⟩ ⟨rfl, CL.rt hI q_112⟩
                  · refine tz_if_neT (pc := 115) (tgt := 119) (by decide) dX12_rule1_115 (by decide) (by decide) ?_
                    refine tz_aload_n (pc := 119) dX12_rule1_119 rfl rfl ?_
                    refine tz_iload_n (pc := 120) dX12_rule1_120 rfl rfl ?_
                    refine tz_iload_n (pc := 121) dX12_rule1_121 rfl rfl ?_
                    have ro_122 : J_112 165 (126 + 9) = J 165 135 := ((q_112).1.2.2.1.2.1 135 (by decide) rfl)
                    refine tz_cV (pc := 122) (m_rules1 hl n _ _ _ (by omega) (by omega) 126 (q_112).1.1.1.2.2.1 (by decide) (by omega)) vl_X12_304 dX12_rule1_122 o_164 rfl rfl (Nat.le_of_ble_eq_true rfl) ⟨(Nat.le_of_ble_eq_true rfl), (Nat.le_of_ble_eq_true rfl)⟩ rfl rfl (Nat.le_of_ble_eq_true rfl) (Nat.le_of_ble_eq_true rfl) (fun r9 J_122 hq9 => ?_)
                    obtain ⟨rfl, j_122⟩ := hq9
                    subst j_122
                    exact tz_vret (pc := 125) dX12_rule1_125 rfl (Nat.le_of_ble_eq_true rfl) (Nat.le_of_ble_eq_true rfl) ⟨Nat.le_refl _, Nat.le_add_right _ _⟩ ⟨rfl, CL.tr (CL.rl (hI.rt q_112) (by omega) (by omega) (by omega)) (CL.rt hI q_112)⟩

set_option maxHeartbeats 4000000 in
set_option maxRecDepth 100000 in
theorem m_entry1 {l : Launch} {G : tb_G} (hl : l.stackTraces = false) (n : Nat) (J : zJ)   (s m : Int) (hI : TI J s m) : tz_Ok l G M_X12_entry1 15 0 0 [.ref 164] n J (zqv (fun J' => CL J' J)) zN := by
  refine tz_Ok.of hl (by decide +kernel) rfl (tb_c1 rfl) (Nat.le_of_ble_eq_true rfl) ?_
  show tz_At l G M_X12_entry1 (tb_rm 15 0 0) none (tb_ZM G 0 0 (zQ n 0 (zqv (fun J' => CL J' J))) (zX n 0 zN)) 0 0 n J 0 [some (.ref 164), none] []
  obtain ⟨hM, h44, hP, hu, hL, h66⟩ := id hI
  have hT := hM.told
  have g0 := MRT.rf hM hP hu
  have hL9 : 0 ≤ J 165 135 ∧ J 165 135 ≤ 8 := hL.1.1
  have hL8 : 0 ≤ J 165 152 ∧ J 165 152 ≤ 12 := hL.2.2.1.1
  refine tz_aload_n (pc := 0) dX12_entry1_0 rfl rfl ?_
  refine tz_aload_n (pc := 1) dX12_entry1_1 rfl rfl ?_
  refine tz_fR (pc := 2) dX12_entry1_2 fl_X12_9 r_164_0 ?_
  refine tz_sipush (pc := 5) dX12_entry1_5 (by decide) ?_
  refine tz_aL (pc := 8) (z := 152) (v := (J 165 152)) dX12_entry1_8 a_165 rfl (by decide) rfl (fun r_8 => ?_)
  refine tz_bipush (pc := 9) dX12_entry1_9 (by decide) ?_
  refine tz_icmp_ge (pc := 11) (tgt := 18) dX12_entry1_11 (by decide) (by omega) (by decide) (fun h_11 => ?_) (fun h_11 => ?_)
  · refine tz_iconst (pc := 18) dX12_entry1_18 ?_
    refine tz_iconst (pc := 19) dX12_entry1_19 ?_
    refine tz_cV (pc := 20) (m_wantsW hl n _ _ _ (by decide) (by decide) (g0).2.1 (by decide)) vl_X12_276 dX12_entry1_20 o_164 rfl rfl (Nat.le_of_ble_eq_true rfl) ⟨(Nat.le_of_ble_eq_true rfl), (Nat.le_of_ble_eq_true rfl)⟩ rfl rfl (Nat.le_of_ble_eq_true rfl) (Nat.le_of_ble_eq_true rfl) (fun r9 J_20 hq9 => ?_)
    obtain ⟨z_20, rfl, hz_20, w_20, b_20, c_20, d_20⟩ := hq9
    have q_20 := MRT.w g0 w_20
    obtain rfl : z_20 = 0 := by rcases b_20 with e9 | e9; exact e9; exact absurd rfl (c_20 e9).2.2
    have v_20 := d_20 rfl
    clear b_20 c_20 d_20
    refine tz_if_neF (pc := 23) (tgt := 27) (by decide) dX12_entry1_23 (by decide) (by decide) ?_
    exact tz_vret (pc := 26) dX12_entry1_26 rfl (Nat.le_of_ble_eq_true rfl) (Nat.le_of_ble_eq_true rfl) ⟨Nat.le_refl _, Nat.le_add_right _ _⟩ ⟨rfl, CL.rt hI q_20⟩
  · refine tz_iconst (pc := 14) dX12_entry1_14 ?_
    refine tz_goto (pc := 15) (tgt := 19) dX12_entry1_15 (by decide) ?_
    refine tz_iconst (pc := 19) dX12_entry1_19 ?_
    refine tz_cV (pc := 20) (m_wantsW hl n _ _ _ (by decide) (by decide) (g0).2.1 (by decide)) vl_X12_276 dX12_entry1_20 o_164 rfl rfl (Nat.le_of_ble_eq_true rfl) ⟨(Nat.le_of_ble_eq_true rfl), (Nat.le_of_ble_eq_true rfl)⟩ rfl rfl (Nat.le_of_ble_eq_true rfl) (Nat.le_of_ble_eq_true rfl) (fun r9 J_20 hq9 => ?_)
    obtain ⟨z_20, rfl, hz_20, w_20, b_20, c_20, d_20⟩ := hq9
    have q_20 := MRT.w g0 w_20
    have o_20 : (z_20 = 0 ∧ ¬ J_20 164 43 = 0) ∨ (z_20 = 1 ∧ J_20 164 43 = 0) := by rcases b_20 with e9 | e9; exact Or.inl ⟨e9, d_20 e9⟩; exact Or.inr ⟨e9, (c_20 e9).2.1⟩
    clear b_20 c_20 d_20
    have i_20 := w_20.2.2.1
    rcases o_20 with ⟨rfl, v_20⟩ | ⟨rfl, v_20⟩
    · refine tz_if_neF (pc := 23) (tgt := 27) (by decide) dX12_entry1_23 (by decide) (by decide) ?_
      exact tz_vret (pc := 26) dX12_entry1_26 rfl (Nat.le_of_ble_eq_true rfl) (Nat.le_of_ble_eq_true rfl) ⟨Nat.le_refl _, Nat.le_add_right _ _⟩ ⟨rfl, CL.rt hI q_20⟩
    · refine tz_if_neT (pc := 23) (tgt := 27) (by decide) dX12_entry1_23 (by decide) (by decide) ?_
      refine tz_aload_n (pc := 27) dX12_entry1_27 rfl rfl ?_
      refine tz_cV (pc := 28) (m_goW hl n _ (q_20).2.1) vl_X12_280 dX12_entry1_28 o_164 rfl rfl (Nat.le_of_ble_eq_true rfl) ⟨(Nat.le_of_ble_eq_true rfl), (Nat.le_of_ble_eq_true rfl)⟩ rfl rfl (Nat.le_of_ble_eq_true rfl) (Nat.le_of_ble_eq_true rfl) (fun r9 J_28 hq9 => ?_)
      obtain ⟨rfl, w_28, b_28⟩ := hq9
      have q_28 := MRT.w q_20 w_28
      refine tz_aload_n (pc := 31) dX12_entry1_31 rfl rfl ?_
      refine tz_iconst (pc := 32) dX12_entry1_32 ?_
      refine tz_cV (pc := 33) (m_term1 hl n _ s m (q_28).1.1.1 (q_28).2.1 (q_28).2.2.2.2 (((q_28).f 44 rfl).trans h44)) vl_X12_298 dX12_entry1_33 o_164 rfl rfl (Nat.le_of_ble_eq_true rfl) ⟨(Nat.le_of_ble_eq_true rfl), (Nat.le_of_ble_eq_true rfl)⟩ rfl rfl (Nat.le_of_ble_eq_true rfl) (Nat.le_of_ble_eq_true rfl) (fun r9 J_33 hq9 => ?_)
      obtain ⟨z_33, rfl, hz_33, m_33, w_33, h_33⟩ := hq9
      have q_33 := MRT.tr q_28 w_33
      have l_33 := w_33.1.1.2
      have i_33 := w_33.2.2.1
      unfold TV at h_33
      refine tz_istore_n (pc := 36) (L2 := [_, _]) dX12_entry1_36 rfl (by decide) rfl ?_
      refine tz_aload_n (pc := 37) dX12_entry1_37 rfl rfl ?_
      refine tz_fI (pc := 38) (kz := 43) (v := (J_33 164 43)) dX12_entry1_38 fl_X12_273 i_164_43 rfl rfl (fun r_38 => ?_)
      refine tz_if_ne (pc := 41) (tgt := 93) dX12_entry1_41 (by decide) (by omega) (fun h_41 => ?_) (fun h_41 => ?_)
      · exact tz_vret (pc := 93) dX12_entry1_93 rfl (Nat.le_of_ble_eq_true rfl) (Nat.le_of_ble_eq_true rfl) ⟨Nat.le_refl _, Nat.le_add_right _ _⟩ ⟨rfl, CL.rt hI q_33⟩
      · refine tz_aload_n (pc := 44) dX12_entry1_44 rfl rfl ?_
        refine tz_aload_n (pc := 45) dX12_entry1_45 rfl rfl ?_
        refine tz_fI (pc := 46) (kz := 42) (v := (J_33 164 42)) dX12_entry1_46 fl_X12_258 i_164_42 rfl rfl (fun r_46 => ?_)
        refine tz_bipush (pc := 49) dX12_entry1_49 (by decide) ?_
        refine tz_icmp_ne (pc := 51) (tgt := 58) dX12_entry1_51 (by decide) (by omega) (by decide) (fun h_51 => ?_) (fun h_51 => ?_)
        · refine tz_iconst (pc := 58) dX12_entry1_58 ?_
          refine tz_iconst (pc := 59) dX12_entry1_59 ?_
          refine tz_cV (pc := 60) (m_wantsW hl n _ _ _ (by decide) (by decide) (q_33).2.1 (by decide)) vl_X12_276 dX12_entry1_60 o_164 rfl rfl (Nat.le_of_ble_eq_true rfl) ⟨(Nat.le_of_ble_eq_true rfl), (Nat.le_of_ble_eq_true rfl)⟩ rfl rfl (Nat.le_of_ble_eq_true rfl) (Nat.le_of_ble_eq_true rfl) (fun r9 J_60 hq9 => ?_)
          obtain ⟨z_60, rfl, hz_60, w_60, b_60, c_60, d_60⟩ := hq9
          have q_60 := MRT.w q_33 w_60
          obtain rfl : z_60 = 0 := by rcases b_60 with e9 | e9; exact e9; exact absurd rfl (c_60 e9).2.2
          have v_60 := d_60 rfl
          clear b_60 c_60 d_60
          refine tz_if_eqT (pc := 63) (tgt := 93) (by decide) dX12_entry1_63 (by decide) (by decide) ?_
          exact tz_vret (pc := 93) dX12_entry1_93 rfl (Nat.le_of_ble_eq_true rfl) (Nat.le_of_ble_eq_true rfl) ⟨Nat.le_refl _, Nat.le_add_right _ _⟩ ⟨rfl, CL.rt hI q_60⟩
        · refine tz_iconst (pc := 54) dX12_entry1_54 ?_
          refine tz_goto (pc := 55) (tgt := 59) dX12_entry1_55 (by decide) ?_
          refine tz_iconst (pc := 59) dX12_entry1_59 ?_
          refine tz_cV (pc := 60) (m_wantsW hl n _ _ _ (by decide) (by decide) (q_33).2.1 (by decide)) vl_X12_276 dX12_entry1_60 o_164 rfl rfl (Nat.le_of_ble_eq_true rfl) ⟨(Nat.le_of_ble_eq_true rfl), (Nat.le_of_ble_eq_true rfl)⟩ rfl rfl (Nat.le_of_ble_eq_true rfl) (Nat.le_of_ble_eq_true rfl) (fun r9 J_60 hq9 => ?_)
          obtain ⟨z_60, rfl, hz_60, w_60, b_60, c_60, d_60⟩ := hq9
          have q_60 := MRT.w q_33 w_60
          have o_60 : (z_60 = 0 ∧ ¬ J_60 164 43 = 0) ∨ (z_60 = 1 ∧ J_60 164 43 = 0) := by rcases b_60 with e9 | e9; exact Or.inl ⟨e9, d_60 e9⟩; exact Or.inr ⟨e9, (c_60 e9).2.1⟩
          clear b_60 c_60 d_60
          have i_60 := w_60.2.2.1
          rcases o_60 with ⟨rfl, v_60⟩ | ⟨rfl, v_60⟩
          · refine tz_if_eqT (pc := 63) (tgt := 93) (by decide) dX12_entry1_63 (by decide) (by decide) ?_
            exact tz_vret (pc := 93) dX12_entry1_93 rfl (Nat.le_of_ble_eq_true rfl) (Nat.le_of_ble_eq_true rfl) ⟨Nat.le_refl _, Nat.le_add_right _ _⟩ ⟨rfl, CL.rt hI q_60⟩
          · refine tz_if_eqF (pc := 63) (tgt := 93) (by decide) dX12_entry1_63 (by decide) (by decide) ?_
            refine tz_aload_n (pc := 66) dX12_entry1_66 rfl rfl ?_
            refine tz_aload_n (pc := 67) dX12_entry1_67 rfl rfl ?_
            refine tz_iload_n (pc := 68) dX12_entry1_68 rfl rfl ?_
            have ro_69 : J_60 165 (126 + 26) = J 165 152 := ((q_60).1.2.2.1.2.1 152 (by decide) rfl)
            have rf_69 := (q_60).1.1.1.2.2.1
            refine tz_cV (pc := 69) (m_entryOf hl n _ _ (by omega) (by rw [rf_69]; decide) (by rw [rf_69]; omega)) vl_X12_307 dX12_entry1_69 o_164 rfl rfl (Nat.le_of_ble_eq_true rfl) ⟨(Nat.le_of_ble_eq_true rfl), (Nat.le_of_ble_eq_true rfl)⟩ rfl rfl (Nat.le_of_ble_eq_true rfl) (Nat.le_of_ble_eq_true rfl) (fun r9 J_69 hq9 => ?_)
            obtain ⟨z_69, rfl, hz_69, rfl, hr_69⟩ := hq9
            refine tz_iconst (pc := 72) dX12_entry1_72 ?_
            refine tz_icmp_ne (pc := 73) (tgt := 80) dX12_entry1_73 (by decide) (by omega) (by decide) (fun h_73 => ?_) (fun h_73 => ?_)
            · refine tz_iconst (pc := 80) dX12_entry1_80 ?_
              refine tz_iconst (pc := 81) dX12_entry1_81 ?_
              refine tz_cV (pc := 82) (m_wantsW hl n _ _ _ (by decide) (by decide) (q_60).2.1 (by decide)) vl_X12_276 dX12_entry1_82 o_164 rfl rfl (Nat.le_of_ble_eq_true rfl) ⟨(Nat.le_of_ble_eq_true rfl), (Nat.le_of_ble_eq_true rfl)⟩ rfl rfl (Nat.le_of_ble_eq_true rfl) (Nat.le_of_ble_eq_true rfl) (fun r9 J_82 hq9 => ?_)
              obtain ⟨z_82, rfl, hz_82, w_82, b_82, c_82, d_82⟩ := hq9
              have q_82 := MRT.w q_60 w_82
              obtain rfl : z_82 = 0 := by rcases b_82 with e9 | e9; exact e9; exact absurd rfl (c_82 e9).2.2
              have v_82 := d_82 rfl
              clear b_82 c_82 d_82
              refine tz_if_eqT (pc := 85) (tgt := 93) (by decide) dX12_entry1_85 (by decide) (by decide) ?_
              exact tz_vret (pc := 93) dX12_entry1_93 rfl (Nat.le_of_ble_eq_true rfl) (Nat.le_of_ble_eq_true rfl) ⟨Nat.le_refl _, Nat.le_add_right _ _⟩ ⟨rfl, CL.rt hI q_82⟩
            · refine tz_iconst (pc := 76) dX12_entry1_76 ?_
              refine tz_goto (pc := 77) (tgt := 81) dX12_entry1_77 (by decide) ?_
              refine tz_iconst (pc := 81) dX12_entry1_81 ?_
              refine tz_cV (pc := 82) (m_wantsW hl n _ _ _ (by decide) (by decide) (q_60).2.1 (by decide)) vl_X12_276 dX12_entry1_82 o_164 rfl rfl (Nat.le_of_ble_eq_true rfl) ⟨(Nat.le_of_ble_eq_true rfl), (Nat.le_of_ble_eq_true rfl)⟩ rfl rfl (Nat.le_of_ble_eq_true rfl) (Nat.le_of_ble_eq_true rfl) (fun r9 J_82 hq9 => ?_)
              obtain ⟨z_82, rfl, hz_82, w_82, b_82, c_82, d_82⟩ := hq9
              have q_82 := MRT.w q_60 w_82
              have o_82 : (z_82 = 0 ∧ ¬ J_82 164 43 = 0) ∨ (z_82 = 1 ∧ J_82 164 43 = 0) := by rcases b_82 with e9 | e9; exact Or.inl ⟨e9, d_82 e9⟩; exact Or.inr ⟨e9, (c_82 e9).2.1⟩
              clear b_82 c_82 d_82
              have i_82 := w_82.2.2.1
              rcases o_82 with ⟨rfl, v_82⟩ | ⟨rfl, v_82⟩
              · refine tz_if_eqT (pc := 85) (tgt := 93) (by decide) dX12_entry1_85 (by decide) (by decide) ?_
                exact tz_vret (pc := 93) dX12_entry1_93 rfl (Nat.le_of_ble_eq_true rfl) (Nat.le_of_ble_eq_true rfl) ⟨Nat.le_refl _, Nat.le_add_right _ _⟩ ⟨rfl, CL.rt hI q_82⟩
              · refine tz_if_eqF (pc := 85) (tgt := 93) (by decide) dX12_entry1_85 (by decide) (by decide) ?_
                refine tz_aload_n (pc := 88) dX12_entry1_88 rfl rfl ?_
                refine tz_iload_n (pc := 89) dX12_entry1_89 rfl rfl ?_
                have ro_90 : J_82 165 (126 + 26) = J 165 152 := ((q_82).1.2.2.1.2.1 152 (by decide) rfl)
                refine tz_cV (pc := 90) (m_enters1 hl n _ _ (by omega) 126 (q_82).1.1.1.2.2.1 (by decide) (by omega)) vl_X12_310 dX12_entry1_90 o_164 rfl rfl (Nat.le_of_ble_eq_true rfl) ⟨(Nat.le_of_ble_eq_true rfl), (Nat.le_of_ble_eq_true rfl)⟩ rfl rfl (Nat.le_of_ble_eq_true rfl) (Nat.le_of_ble_eq_true rfl) (fun r9 J_90 hq9 => ?_)
                obtain ⟨rfl, j_90⟩ := hq9
                subst j_90
                exact tz_vret (pc := 93) dX12_entry1_93 rfl (Nat.le_of_ble_eq_true rfl) (Nat.le_of_ble_eq_true rfl) ⟨Nat.le_refl _, Nat.le_add_right _ _⟩ ⟨rfl, CL.tr (CL.en (hI.rt q_82) (by omega) (by omega)) (CL.rt hI q_82)⟩

theorem CL.ro {J1 J : zJ} {s m m1 z : Int} (h : TI J s m) (g : MRT J1 J s m m1) (hz : 0 ≤ z ∧ z ≤ 9) : CL (zup (zup J1 165 165 z) 164 45 1) J := by
  have h1 := h.rt g
  have e5 : ∀ k, zup (zup J1 165 165 z) 164 45 1 165 k = if k = 165 then z else J1 165 k := fun _ => rfl
  have e4 : ∀ k, zup (zup J1 165 165 z) 164 45 1 164 k = if k = 45 then 1 else J1 164 k := fun _ => rfl
  have f : zOf (zbut [164, 165]) (zup (zup J1 165 165 z) 164 45 1) J1 := zOf.up rfl (zOf.up rfl zOf.rf)
  refine CL.tr (J2 := J1) ?_ (CL.rt h g)
  generalize zup (zup J1 165 165 z) 164 45 1 = J9 at *
  have d4 : ∀ k, ¬ k = 45 → J9 164 k = J1 164 k := fun k q => by rw [e4, if_neg q]
  refine ⟨⟨f.mono (zbut_sub (fun c hc => by simp at hc ⊢; omega)), fun k q => by rw [e5, if_neg (by omega)], fun k _ => ⟨by rw [f 166 rfl], by rw [f 168 rfl]⟩, fun k _ => by rw [f 167 rfl], fun k _ => ⟨by rw [f 169 rfl], by rw [f 170 rfl], by rw [f 171 rfl]⟩, fun k q => d4 k (clF_no q).2.2.1⟩, ⟨s, m1, ?_⟩, by rw [d4 43 (by decide)]; exact id, by unfold rmu; rw [d4 37 (by decide), d4 35 (by decide), d4 38 (by decide)]; exact Int.le_refl _⟩
  obtain ⟨t1, t2, t3, t4, t5⟩ := h1
  refine ⟨t1.of ⟨d4 15 (by decide), d4 16 (by decide), d4 17 (by decide)⟩ (by rw [e5, if_neg (by decide)]) (f _ rfl) (f _ rfl) (f _ rfl) (f _ rfl), (d4 44 (by decide)).trans t2, t3.of (fun k _ _ => d4 k (by omega)), by rw [d4 21 (by decide)]; exact t4, ⟨t5.1.1.of (fun k _ _ => by show J9 165 (126 + k) = _; rw [e5, if_neg (by omega)]), ?_, t5.1.2.2.1.of (fun k _ _ => by show J9 165 (126 + k) = _; rw [e5, if_neg (by omega)]), t5.1.2.2.2.of (fun k _ _ => by show J9 165 (126 + k) = _; rw [e5, if_neg (by omega)])⟩, by rw [e5, if_neg (by decide)]; exact t5.2⟩
  have a1 : J9 165 (126 + 39) = z := by rw [e5, if_pos (by decide)]
  have a2 : J9 165 (126 + 40) = 0 := by rw [e5, if_neg (by decide)]; exact t5.2
  show (0 ≤ J9 165 (126 + 39) ∧ J9 165 (126 + 39) ≤ 9) ∧ (0 ≤ J9 165 (126 + 40) ∧ J9 165 (126 + 40) ≤ J9 165 (126 + 39)) ∧ ∀ k, 0 ≤ k → k < 2 * J9 165 (126 + 40) → 0 ≤ J9 165 (126 + (41 + k)) ∧ J9 165 (126 + (41 + k)) < m1
  rw [a1, a2]
  exact ⟨hz, by omega, fun k a c => by omega⟩
set_option maxHeartbeats 4000000 in
set_option maxRecDepth 100000 in
theorem m_room1 {l : Launch} {G : tb_G} (hl : l.stackTraces = false) (n : Nat) (J : zJ)   (s m : Int) (hI : TI J s m) : tz_Ok l G M_X12_room1 4 0 0 [.ref 164] n J (zqv (fun J' => CL J' J)) zN := by
  refine tz_Ok.of hl (by decide +kernel) rfl (tb_c1 rfl) (Nat.le_of_ble_eq_true rfl) ?_
  show tz_At l G M_X12_room1 (tb_rm 4 0 0) none (tb_ZM G 0 0 (zQ n 0 (zqv (fun J' => CL J' J))) (zX n 0 zN)) 0 0 n J 0 [some (.ref 164)] []
  obtain ⟨hM, h44, hP, hu, hL, h66⟩ := id hI
  have hT := hM.told
  have g0 := MRT.rf hM hP hu
  have hL9 : 0 ≤ J 165 135 ∧ J 165 135 ≤ 8 := hL.1.1
  have hL8 : 0 ≤ J 165 152 ∧ J 165 152 ≤ 12 := hL.2.2.1.1
  refine tz_aload_n (pc := 0) dX12_room1_0 rfl rfl ?_
  refine tz_aload_n (pc := 1) dX12_room1_1 rfl rfl ?_
  refine tz_fI (pc := 2) (kz := 45) (v := (J 164 45)) dX12_room1_2 fl_X12_313 i_164_45 rfl rfl (fun r_2 => ?_)
  refine tz_if_ne (pc := 5) (tgt := 12) dX12_room1_5 (by decide) (by omega) (fun h_5 => ?_) (fun h_5 => ?_)
  · refine tz_iconst (pc := 12) dX12_room1_12 ?_
    refine tz_iconst (pc := 13) dX12_room1_13 ?_
    refine tz_cV (pc := 14) (m_wantsW hl n _ _ _ (by decide) (by decide) (g0).2.1 (by decide)) vl_X12_276 dX12_room1_14 o_164 rfl rfl (Nat.le_of_ble_eq_true rfl) ⟨(Nat.le_of_ble_eq_true rfl), (Nat.le_of_ble_eq_true rfl)⟩ rfl rfl (Nat.le_of_ble_eq_true rfl) (Nat.le_of_ble_eq_true rfl) (fun r9 J_14 hq9 => ?_)
    obtain ⟨z_14, rfl, hz_14, w_14, b_14, c_14, d_14⟩ := hq9
    have q_14 := MRT.w g0 w_14
    obtain rfl : z_14 = 0 := by rcases b_14 with e9 | e9; exact e9; exact absurd rfl (c_14 e9).2.2
    have v_14 := d_14 rfl
    clear b_14 c_14 d_14
    refine tz_if_neF (pc := 17) (tgt := 21) (by decide) dX12_room1_17 (by decide) (by decide) ?_
    exact tz_vret (pc := 20) dX12_room1_20 rfl (Nat.le_of_ble_eq_true rfl) (Nat.le_of_ble_eq_true rfl) ⟨Nat.le_refl _, Nat.le_add_right _ _⟩ ⟨rfl, CL.rt hI q_14⟩
  · refine tz_iconst (pc := 8) dX12_room1_8 ?_
    refine tz_goto (pc := 9) (tgt := 13) dX12_room1_9 (by decide) ?_
    refine tz_iconst (pc := 13) dX12_room1_13 ?_
    refine tz_cV (pc := 14) (m_wantsW hl n _ _ _ (by decide) (by decide) (g0).2.1 (by decide)) vl_X12_276 dX12_room1_14 o_164 rfl rfl (Nat.le_of_ble_eq_true rfl) ⟨(Nat.le_of_ble_eq_true rfl), (Nat.le_of_ble_eq_true rfl)⟩ rfl rfl (Nat.le_of_ble_eq_true rfl) (Nat.le_of_ble_eq_true rfl) (fun r9 J_14 hq9 => ?_)
    obtain ⟨z_14, rfl, hz_14, w_14, b_14, c_14, d_14⟩ := hq9
    have q_14 := MRT.w g0 w_14
    have o_14 : (z_14 = 0 ∧ ¬ J_14 164 43 = 0) ∨ (z_14 = 1 ∧ J_14 164 43 = 0) := by rcases b_14 with e9 | e9; exact Or.inl ⟨e9, d_14 e9⟩; exact Or.inr ⟨e9, (c_14 e9).2.1⟩
    clear b_14 c_14 d_14
    have i_14 := w_14.2.2.1
    rcases o_14 with ⟨rfl, v_14⟩ | ⟨rfl, v_14⟩
    · refine tz_if_neF (pc := 17) (tgt := 21) (by decide) dX12_room1_17 (by decide) (by decide) ?_
      exact tz_vret (pc := 20) dX12_room1_20 rfl (Nat.le_of_ble_eq_true rfl) (Nat.le_of_ble_eq_true rfl) ⟨Nat.le_refl _, Nat.le_add_right _ _⟩ ⟨rfl, CL.rt hI q_14⟩
    · refine tz_if_neT (pc := 17) (tgt := 21) (by decide) dX12_room1_17 (by decide) (by decide) ?_
      refine tz_aload_n (pc := 21) dX12_room1_21 rfl rfl ?_
      refine tz_cV (pc := 22) (m_goW hl n _ (q_14).2.1) vl_X12_280 dX12_room1_22 o_164 rfl rfl (Nat.le_of_ble_eq_true rfl) ⟨(Nat.le_of_ble_eq_true rfl), (Nat.le_of_ble_eq_true rfl)⟩ rfl rfl (Nat.le_of_ble_eq_true rfl) (Nat.le_of_ble_eq_true rfl) (fun r9 J_22 hq9 => ?_)
      obtain ⟨rfl, w_22, b_22⟩ := hq9
      have q_22 := MRT.w q_14 w_22
      refine tz_aload_n (pc := 25) dX12_room1_25 rfl rfl ?_
      refine tz_fR (pc := 26) dX12_room1_26 fl_X12_9 r_164_0 ?_
      refine tz_sipush (pc := 29) dX12_room1_29 (by decide) ?_
      refine tz_aload_n (pc := 32) dX12_room1_32 rfl rfl ?_
      refine tz_iconst (pc := 33) dX12_room1_33 ?_
      refine tz_bipush (pc := 34) dX12_room1_34 (by decide) ?_
      refine tz_cV (pc := 36) (m_number hl n _ _ _ (by decide) (by decide) (q_22).2.1 (by decide)) vl_X12_290 dX12_room1_36 o_164 rfl rfl (Nat.le_of_ble_eq_true rfl) ⟨(Nat.le_of_ble_eq_true rfl), (Nat.le_of_ble_eq_true rfl)⟩ rfl rfl (Nat.le_of_ble_eq_true rfl) (Nat.le_of_ble_eq_true rfl) (fun r9 J_36 hq9 => ?_)
      obtain ⟨z_36, rfl, hz_36, w_36, b_36, d_36⟩ := hq9
      have q_36 := MRT.w q_22 w_36
      have i_36 := w_36.2.2.1
      refine tz_aS (pc := 39) (z := 165) dX12_room1_39 a_165 rfl (by decide) (by omega) ?_
      refine tz_aload_n (pc := 40) dX12_room1_40 rfl rfl ?_
      refine tz_iconst (pc := 41) dX12_room1_41 ?_
      refine tz_pI (pc := 42) (kz := 45) dX12_room1_42 fl_X12_313 i_164_45 rfl rfl (by decide) ?_
      exact tz_vret (pc := 45) dX12_room1_45 rfl (Nat.le_of_ble_eq_true rfl) (Nat.le_of_ble_eq_true rfl) ⟨Nat.le_refl _, Nat.le_add_right _ _⟩ ⟨rfl, CL.ro hI q_36 (by omega)⟩

set_option maxHeartbeats 4000000 in
set_option maxRecDepth 100000 in
theorem m_clause1 {l : Launch} {G : tb_G} (hl : l.stackTraces = false) (n : Nat) (J : zJ)   (s m : Int) (hI : TI J s m) : tz_Ok l G M_X12_clause1 22 0 0 [.ref 164] n J (zqv (fun J' => CL J' J)) zN := by
  refine tz_Ok.of hl (by decide +kernel) rfl (tb_c1 rfl) (Nat.le_of_ble_eq_true rfl) ?_
  show tz_At l G M_X12_clause1 (tb_rm 22 0 0) none (tb_ZM G 0 0 (zQ n 0 (zqv (fun J' => CL J' J))) (zX n 0 zN)) 0 0 n J 0 [some (.ref 164), none] []
  obtain ⟨hM, h44, hP, hu, hL, h66⟩ := id hI
  have hT := hM.told
  have g0 := MRT.rf hM hP hu
  have hL9 : 0 ≤ J 165 135 ∧ J 165 135 ≤ 8 := hL.1.1
  have hL8 : 0 ≤ J 165 152 ∧ J 165 152 ≤ 12 := hL.2.2.1.1
  refine tz_aload_n (pc := 0) dX12_clause1_0 rfl rfl ?_
  refine tz_fI (pc := 1) (kz := 38) (v := (J 164 38)) dX12_clause1_1 fl_X12_261 i_164_38 rfl rfl (fun r_1 => ?_)
  refine tz_iconst (pc := 4) dX12_clause1_4 ?_
  refine tz_icmp_ne (pc := 5) (tgt := 15) dX12_clause1_5 (by decide) (by omega) (by decide) (fun h_5 => ?_) (fun h_5 => ?_)
  · refine tz_iconst (pc := 15) dX12_clause1_15 ?_
    refine tz_istore_n (pc := 16) (L2 := [_, _]) dX12_clause1_16 rfl (by decide) rfl ?_
    refine tz_iload_n (pc := 17) dX12_clause1_17 rfl rfl ?_
    refine tz_if_neT (pc := 18) (tgt := 28) (by decide) dX12_clause1_18 (by decide) (by decide) ?_
    refine tz_iload_n (pc := 28) dX12_clause1_28 rfl rfl ?_
    refine tz_iconst (pc := 29) dX12_clause1_29 ?_
    refine tz_icmp_neT (pc := 30) (tgt := 46) (by decide) dX12_clause1_30 (by decide) (by decide) (by decide) ?_
    refine tz_iload_n (pc := 46) dX12_clause1_46 rfl rfl ?_
    refine tz_iconst (pc := 47) dX12_clause1_47 ?_
    refine tz_icmp_neT (pc := 48) (tgt := 58) (by decide) dX12_clause1_48 (by decide) (by decide) (by decide) ?_
    refine tz_iload_n (pc := 58) dX12_clause1_58 rfl rfl ?_
    refine tz_iconst (pc := 59) dX12_clause1_59 ?_
    refine tz_icmp_neT (pc := 60) (tgt := 70) (by decide) dX12_clause1_60 (by decide) (by decide) (by decide) ?_
    refine tz_aload_n (pc := 70) dX12_clause1_70 rfl rfl ?_
    refine tz_iload_n (pc := 71) dX12_clause1_71 rfl rfl ?_
    refine tz_iconst (pc := 72) dX12_clause1_72 ?_
    refine tz_icmp_neT (pc := 73) (tgt := 80) (by decide) dX12_clause1_73 (by decide) (by decide) (by decide) ?_
    refine tz_iconst (pc := 80) dX12_clause1_80 ?_
    refine tz_iconst (pc := 81) dX12_clause1_81 ?_
    refine tz_cV (pc := 82) (m_wantsW hl n _ _ _ (by decide) (by decide) (g0).2.1 (by decide)) vl_X12_276 dX12_clause1_82 o_164 rfl rfl (Nat.le_of_ble_eq_true rfl) ⟨(Nat.le_of_ble_eq_true rfl), (Nat.le_of_ble_eq_true rfl)⟩ rfl rfl (Nat.le_of_ble_eq_true rfl) (Nat.le_of_ble_eq_true rfl) (fun r9 J_82 hq9 => ?_)
    obtain ⟨z_82, rfl, hz_82, w_82, b_82, c_82, d_82⟩ := hq9
    have q_82 := MRT.w g0 w_82
    obtain rfl : z_82 = 0 := by rcases b_82 with e9 | e9; exact e9; exact absurd rfl (c_82 e9).2.2
    have v_82 := d_82 rfl
    clear b_82 c_82 d_82
    refine tz_if_eqT (pc := 85) (tgt := 92) (by decide) dX12_clause1_85 (by decide) (by decide) ?_
    exact tz_vret (pc := 92) dX12_clause1_92 rfl (Nat.le_of_ble_eq_true rfl) (Nat.le_of_ble_eq_true rfl) ⟨Nat.le_refl _, Nat.le_add_right _ _⟩ ⟨rfl, CL.rt hI q_82⟩
  · refine tz_aload_n (pc := 8) dX12_clause1_8 rfl rfl ?_
    refine tz_fI (pc := 9) (kz := 40) (v := (J 164 40)) dX12_clause1_9 fl_X12_249 i_164_40 rfl rfl (fun r_9 => ?_)
    refine tz_goto (pc := 12) (tgt := 16) dX12_clause1_12 (by decide) ?_
    refine tz_istore_n (pc := 16) (L2 := [_, _]) dX12_clause1_16 rfl (by decide) rfl ?_
    refine tz_iload_n (pc := 17) dX12_clause1_17 rfl rfl ?_
    refine tz_if_ne (pc := 18) (tgt := 28) dX12_clause1_18 (by decide) (by omega) (fun h_18 => ?_) (fun h_18 => ?_)
    · refine tz_iload_n (pc := 28) dX12_clause1_28 rfl rfl ?_
      refine tz_iconst (pc := 29) dX12_clause1_29 ?_
      refine tz_icmp_ne (pc := 30) (tgt := 46) dX12_clause1_30 (by decide) (by omega) (by decide) (fun h_30 => ?_) (fun h_30 => ?_)
      · refine tz_iload_n (pc := 46) dX12_clause1_46 rfl rfl ?_
        refine tz_iconst (pc := 47) dX12_clause1_47 ?_
        refine tz_icmp_ne (pc := 48) (tgt := 58) dX12_clause1_48 (by decide) (by omega) (by decide) (fun h_48 => ?_) (fun h_48 => ?_)
        · refine tz_iload_n (pc := 58) dX12_clause1_58 rfl rfl ?_
          refine tz_iconst (pc := 59) dX12_clause1_59 ?_
          refine tz_icmp_ne (pc := 60) (tgt := 70) dX12_clause1_60 (by decide) (by omega) (by decide) (fun h_60 => ?_) (fun h_60 => ?_)
          · refine tz_aload_n (pc := 70) dX12_clause1_70 rfl rfl ?_
            refine tz_iload_n (pc := 71) dX12_clause1_71 rfl rfl ?_
            refine tz_iconst (pc := 72) dX12_clause1_72 ?_
            refine tz_icmp_ne (pc := 73) (tgt := 80) dX12_clause1_73 (by decide) (by omega) (by decide) (fun h_73 => ?_) (fun h_73 => ?_)
            · refine tz_iconst (pc := 80) dX12_clause1_80 ?_
              refine tz_iconst (pc := 81) dX12_clause1_81 ?_
              refine tz_cV (pc := 82) (m_wantsW hl n _ _ _ (by decide) (by decide) (g0).2.1 (by decide)) vl_X12_276 dX12_clause1_82 o_164 rfl rfl (Nat.le_of_ble_eq_true rfl) ⟨(Nat.le_of_ble_eq_true rfl), (Nat.le_of_ble_eq_true rfl)⟩ rfl rfl (Nat.le_of_ble_eq_true rfl) (Nat.le_of_ble_eq_true rfl) (fun r9 J_82 hq9 => ?_)
              obtain ⟨z_82, rfl, hz_82, w_82, b_82, c_82, d_82⟩ := hq9
              have q_82 := MRT.w g0 w_82
              obtain rfl : z_82 = 0 := by rcases b_82 with e9 | e9; exact e9; exact absurd rfl (c_82 e9).2.2
              have v_82 := d_82 rfl
              clear b_82 c_82 d_82
              refine tz_if_eqT (pc := 85) (tgt := 92) (by decide) dX12_clause1_85 (by decide) (by decide) ?_
              exact tz_vret (pc := 92) dX12_clause1_92 rfl (Nat.le_of_ble_eq_true rfl) (Nat.le_of_ble_eq_true rfl) ⟨Nat.le_refl _, Nat.le_add_right _ _⟩ ⟨rfl, CL.rt hI q_82⟩
            · refine tz_iconst (pc := 76) dX12_clause1_76 ?_
              refine tz_goto (pc := 77) (tgt := 81) dX12_clause1_77 (by decide) ?_
              refine tz_iconst (pc := 81) dX12_clause1_81 ?_
              refine tz_cV (pc := 82) (m_wantsW hl n _ _ _ (by decide) (by decide) (g0).2.1 (by decide)) vl_X12_276 dX12_clause1_82 o_164 rfl rfl (Nat.le_of_ble_eq_true rfl) ⟨(Nat.le_of_ble_eq_true rfl), (Nat.le_of_ble_eq_true rfl)⟩ rfl rfl (Nat.le_of_ble_eq_true rfl) (Nat.le_of_ble_eq_true rfl) (fun r9 J_82 hq9 => ?_)
              obtain ⟨z_82, rfl, hz_82, w_82, b_82, c_82, d_82⟩ := hq9
              have q_82 := MRT.w g0 w_82
              have o_82 : (z_82 = 0 ∧ ¬ J_82 164 43 = 0) ∨ (z_82 = 1 ∧ J_82 164 43 = 0) := by rcases b_82 with e9 | e9; exact Or.inl ⟨e9, d_82 e9⟩; exact Or.inr ⟨e9, (c_82 e9).2.1⟩
              clear b_82 c_82 d_82
              have i_82 := w_82.2.2.1
              rcases o_82 with ⟨rfl, v_82⟩ | ⟨rfl, v_82⟩
              · refine tz_if_eqT (pc := 85) (tgt := 92) (by decide) dX12_clause1_85 (by decide) (by decide) ?_
                exact tz_vret (pc := 92) dX12_clause1_92 rfl (Nat.le_of_ble_eq_true rfl) (Nat.le_of_ble_eq_true rfl) ⟨Nat.le_refl _, Nat.le_add_right _ _⟩ ⟨rfl, CL.rt hI q_82⟩
              · refine tz_if_eqF (pc := 85) (tgt := 92) (by decide) dX12_clause1_85 (by decide) (by decide) ?_
                refine tz_aload_n (pc := 88) dX12_clause1_88 rfl rfl ?_
                refine tz_cV (pc := 89) (m_room1 hl n _ s m (hI.rt q_82)) vl_X12_325 dX12_clause1_89 o_164 rfl rfl (Nat.le_of_ble_eq_true rfl) ⟨(Nat.le_of_ble_eq_true rfl), (Nat.le_of_ble_eq_true rfl)⟩ rfl rfl (Nat.le_of_ble_eq_true rfl) (Nat.le_of_ble_eq_true rfl) (fun r9 J_89 hq9 => ?_)
                obtain ⟨rfl, x_89⟩ := hq9
                exact tz_vret (pc := 92) dX12_clause1_92 rfl (Nat.le_of_ble_eq_true rfl) (Nat.le_of_ble_eq_true rfl) ⟨Nat.le_refl _, Nat.le_add_right _ _⟩ ⟨rfl, CL.tr x_89 (CL.rt hI q_82)⟩
          · refine tz_aload_n (pc := 63) dX12_clause1_63 rfl rfl ?_
            refine tz_cV (pc := 64) (m_entry1 hl n _ s m hI) vl_X12_322 dX12_clause1_64 o_164 rfl rfl (Nat.le_of_ble_eq_true rfl) ⟨(Nat.le_of_ble_eq_true rfl), (Nat.le_of_ble_eq_true rfl)⟩ rfl rfl (Nat.le_of_ble_eq_true rfl) (Nat.le_of_ble_eq_true rfl) (fun r9 J_64 hq9 => ?_)
            obtain ⟨rfl, x_64⟩ := hq9
            refine tz_goto (pc := 67) (tgt := 92) dX12_clause1_67 (by decide) ?_
            exact tz_vret (pc := 92) dX12_clause1_92 rfl (Nat.le_of_ble_eq_true rfl) (Nat.le_of_ble_eq_true rfl) ⟨Nat.le_refl _, Nat.le_add_right _ _⟩ ⟨rfl, CL.tr x_64 (CL.rt hI g0)⟩
        · refine tz_aload_n (pc := 51) dX12_clause1_51 rfl rfl ?_
          refine tz_cV (pc := 52) (m_rule1 hl n _ s m hI) vl_X12_319 dX12_clause1_52 o_164 rfl rfl (Nat.le_of_ble_eq_true rfl) ⟨(Nat.le_of_ble_eq_true rfl), (Nat.le_of_ble_eq_true rfl)⟩ rfl rfl (Nat.le_of_ble_eq_true rfl) (Nat.le_of_ble_eq_true rfl) (fun r9 J_52 hq9 => ?_)
          obtain ⟨rfl, x_52⟩ := hq9
          refine tz_goto (pc := 55) (tgt := 92) dX12_clause1_55 (by decide) ?_
          exact tz_vret (pc := 92) dX12_clause1_92 rfl (Nat.le_of_ble_eq_true rfl) (Nat.le_of_ble_eq_true rfl) ⟨Nat.le_refl _, Nat.le_add_right _ _⟩ ⟨rfl, CL.tr x_52 (CL.rt hI g0)⟩
      · refine tz_aload_n (pc := 33) dX12_clause1_33 rfl rfl ?_
        refine tz_cV (pc := 34) (m_goW hl n _ (g0).2.1) vl_X12_280 dX12_clause1_34 o_164 rfl rfl (Nat.le_of_ble_eq_true rfl) ⟨(Nat.le_of_ble_eq_true rfl), (Nat.le_of_ble_eq_true rfl)⟩ rfl rfl (Nat.le_of_ble_eq_true rfl) (Nat.le_of_ble_eq_true rfl) (fun r9 J_34 hq9 => ?_)
        obtain ⟨rfl, w_34, b_34⟩ := hq9
        have q_34 := MRT.w g0 w_34
        refine tz_aload_n (pc := 37) dX12_clause1_37 rfl rfl ?_
        refine tz_iconst (pc := 38) dX12_clause1_38 ?_
        refine tz_cV (pc := 39) (m_term1 hl n _ s m (q_34).1.1.1 (q_34).2.1 (q_34).2.2.2.2 (((q_34).f 44 rfl).trans h44)) vl_X12_298 dX12_clause1_39 o_164 rfl rfl (Nat.le_of_ble_eq_true rfl) ⟨(Nat.le_of_ble_eq_true rfl), (Nat.le_of_ble_eq_true rfl)⟩ rfl rfl (Nat.le_of_ble_eq_true rfl) (Nat.le_of_ble_eq_true rfl) (fun r9 J_39 hq9 => ?_)
        obtain ⟨z_39, rfl, hz_39, m_39, w_39, h_39⟩ := hq9
        have q_39 := MRT.tr q_34 w_39
        have l_39 := w_39.1.1.2
        have i_39 := w_39.2.2.1
        unfold TV at h_39
        refine tz_pop (pc := 42) dX12_clause1_42 rfl ?_
        refine tz_goto (pc := 43) (tgt := 92) dX12_clause1_43 (by decide) ?_
        exact tz_vret (pc := 92) dX12_clause1_92 rfl (Nat.le_of_ble_eq_true rfl) (Nat.le_of_ble_eq_true rfl) ⟨Nat.le_refl _, Nat.le_add_right _ _⟩ ⟨rfl, CL.rt hI q_39⟩
    · refine tz_aload_n (pc := 21) dX12_clause1_21 rfl rfl ?_
      refine tz_cV (pc := 22) (m_symbol1 hl n _ hP (by omega)) vl_X12_316 dX12_clause1_22 o_164 rfl rfl (Nat.le_of_ble_eq_true rfl) ⟨(Nat.le_of_ble_eq_true rfl), (Nat.le_of_ble_eq_true rfl)⟩ rfl rfl (Nat.le_of_ble_eq_true rfl) (Nat.le_of_ble_eq_true rfl) (fun r9 J_22 hq9 => ?_)
      obtain ⟨rfl, x_22⟩ := hq9
      refine tz_goto (pc := 25) (tgt := 92) dX12_clause1_25 (by decide) ?_
      exact tz_vret (pc := 92) dX12_clause1_92 rfl (Nat.le_of_ble_eq_true rfl) (Nat.le_of_ble_eq_true rfl) ⟨Nat.le_refl _, Nat.le_add_right _ _⟩ ⟨rfl, CL.tr (CL.sy hI x_22) (CL.rt hI g0)⟩

