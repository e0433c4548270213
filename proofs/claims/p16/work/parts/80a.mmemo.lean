/-! ===== memos ===== -/
def MR (f : Int → Int) (m : Int) : Prop := (0 ≤ f 9 ∧ f 9 ≤ 8) ∧ ∀ k, 0 ≤ k → k < f 9 → (0 ≤ f (10 + 2 * k) ∧ f (10 + 2 * k) < m) ∧ 0 ≤ f (10 + 2 * k + 1) ∧ f (10 + 2 * k + 1) < m
def MM (f : Int → Int) (m : Int) : Prop := (0 ≤ f 39 ∧ f 39 ≤ 9) ∧ (0 ≤ f 40 ∧ f 40 ≤ f 39) ∧ ∀ k, 0 ≤ k → k < 2 * f 40 → 0 ≤ f (41 + k) ∧ f (41 + k) < m
def MMf (J' J : zJ) : Prop := zOf (zbut [165]) J' J ∧ ∀ k, (k < 40 ∨ 59 ≤ k) → J' 165 k = J 165 k
theorem MMf.rf {J : zJ} : MMf J J := ⟨zOf.rf, fun _ _ => rfl⟩
theorem MMf.tr {J3 J2 J1 : zJ} (h : MMf J3 J2) (g : MMf J2 J1) : MMf J3 J1 := ⟨h.1.tr g.1, fun k q => (h.2 k q).trans (g.2 k q)⟩
theorem MMf.up {J' J : zJ} {k v : Int} (h : MMf J' J) (hk : 40 ≤ k ∧ k < 59) : MMf (zup J' 165 k v) J := ⟨zOf.up rfl h.1, fun q a => (zup_ne (by omega)).trans (h.2 q a)⟩
theorem MM.mono {f : Int → Int} {m m' : Int} (h : MM f m) (q : m ≤ m') : MM f m' := ⟨h.1, h.2.1, fun k a c => by have := h.2.2 k a c; omega⟩
theorem MR.mono {f : Int → Int} {m m' : Int} (h : MR f m) (q : m ≤ m') : MR f m' := ⟨h.1, fun k a c => by have := h.2 k a c; omega⟩
theorem MR.of {f' f : Int → Int} {m : Int} (h : MR f m) (e : ∀ k, 9 ≤ k → k < 26 → f' k = f k) : MR f' m := by
  unfold MR
  rw [e 9 (by decide) (by decide)]
  refine ⟨h.1, fun k a c => ?_⟩
  have h1 := h.1
  rw [e (10 + 2 * k) (by omega) (by omega), e (10 + 2 * k + 1) (by omega) (by omega)]
  exact h.2 k a c
set_option maxHeartbeats 4000000 in
set_option maxRecDepth 100000 in
theorem m_memoAt {l : Launch} {G : tb_G} (hl : l.stackTraces = false) (n : Nat) (J : zJ) (t : Int) (hr_t : -2147483648 ≤ t ∧ t < 2147483648) (m : Int) (hm : MM (J 165) m) : tz_Ok l G M_X12_memoAt 0 0 0 [.ref 164, zi t] n J (zqi (fun z J' => J = J' ∧ (z = -1 ∨ (0 ≤ z ∧ z < J 165 40)))) zN := by
  refine tz_Ok.of hl (by decide +kernel) rfl (tb_c1 rfl) (Nat.le_of_ble_eq_true rfl) ?_
  show tz_At l G M_X12_memoAt (tb_rm 0 0 0) none (tb_ZM G 0 0 (zQ n 0 (zqi (fun z J' => J = J' ∧ (z = -1 ∨ (0 ≤ z ∧ z < J 165 40))))) (zX n 0 zN)) 0 0 n J 0 [some (.ref 164), some (zi t), none] []
  obtain ⟨m1, m2, m3⟩ := id hm
  refine tz_iconst (pc := 0) dX12_memoAt_0 ?_
  refine tz_istore_n (pc := 1) (L2 := [_, _, _]) dX12_memoAt_1 rfl (by decide) rfl ?_
  have loop2 : ∀ (f9 : Nat) (k : Int), ((J 165 40 - k).toNat) < f9 → (0 ≤ k ∧ k ≤ J 165 40) → tz_At l G M_X12_memoAt (tb_rm 0 0 0) none (tb_ZM G 0 0 (zQ n 0 (zqi (fun z J' => J = J' ∧ (z = -1 ∨ (0 ≤ z ∧ z < J 165 40))))) (zX n 0 zN)) 0 0 n J 2 [some (.ref 164), some (zi t), some (zi k)] [] := by
    intro f9
    induction f9 with
    | zero => intro k hm9; exact absurd hm9 (Nat.not_lt_zero _)
    | succ f9 ih2 =>
      intro k hm2 hk
      refine tz_iload_n (pc := 2) dX12_memoAt_2 rfl rfl ?_
      refine tz_aload_n (pc := 3) dX12_memoAt_3 rfl rfl ?_
      refine tz_fR (pc := 4) dX12_memoAt_4 fl_X12_9 r_164_0 ?_
      refine tz_bipush (pc := 7) dX12_memoAt_7 (by decide) ?_
      refine tz_aL (pc := 9) (z := 40) (v := (J 165 40)) dX12_memoAt_9 a_165 rfl (by decide) rfl (fun r_9 => ?_)
      refine tz_icmp_ge (pc := 10) (tgt := 36) dX12_memoAt_10 (by decide) (by omega) (by omega) (fun h_10 => ?_) (fun h_10 => ?_)
      · refine tz_iconst (pc := 36) dX12_memoAt_36 ?_
        exact tz_iret (pc := 37) (z := (-1)) dX12_memoAt_37 rfl (Nat.le_of_ble_eq_true rfl) (Nat.le_of_ble_eq_true rfl) ⟨Nat.le_refl _, Nat.le_add_right _ _⟩ ⟨_, rfl, (by decide), ⟨rfl, by omega⟩⟩
      · refine tz_aload_n (pc := 13) dX12_memoAt_13 rfl rfl ?_
        refine tz_fR (pc := 14) dX12_memoAt_14 fl_X12_9 r_164_0 ?_
        refine tz_bipush (pc := 17) dX12_memoAt_17 (by decide) ?_
        refine tz_iconst (pc := 19) dX12_memoAt_19 ?_
        refine tz_iload_n (pc := 20) dX12_memoAt_20 rfl rfl ?_
        refine tz_imul (pc := 21) (v := 2 * k) dX12_memoAt_21 rfl ?_
        refine tz_iadd (pc := 22) (v := 41 + (2 * k)) dX12_memoAt_22 rfl ?_
        refine tz_aL (pc := 23) (z := (41 + (2 * k))) (v := (J 165 (41 + (2 * k)))) dX12_memoAt_23 a_165 rfl (by omega) rfl (fun r_23 => ?_)
        refine tz_iload_n (pc := 24) dX12_memoAt_24 rfl rfl ?_
        refine tz_icmp_ne (pc := 25) (tgt := 30) dX12_memoAt_25 (by decide) (by omega) (by omega) (fun h_25 => ?_) (fun h_25 => ?_)
        · refine tz_iinc (pc := 30) (z := k + 1) (L2 := [_, _, _]) dX12_memoAt_30 rfl (by omega) rfl ?_
          refine tz_goto (pc := 33) (tgt := 2) dX12_memoAt_33 (by decide) ?_
          exact ih2 (k + 1) (by omega) (by omega)
        · refine tz_iload_n (pc := 28) dX12_memoAt_28 rfl rfl ?_
          exact tz_iret (pc := 29) (z := k) dX12_memoAt_29 rfl (Nat.le_of_ble_eq_true rfl) (Nat.le_of_ble_eq_true rfl) ⟨Nat.le_refl _, Nat.le_add_right _ _⟩ ⟨_, rfl, (by omega), ⟨rfl, by omega⟩⟩
  exact loop2 _ 0 (Nat.lt_succ_self _) (by omega)

theorem ml_s {J1 : zJ} {h j m c : Int} (h3 : ∀ k, 0 ≤ k → k < 2 * h → 0 ≤ J1 165 (41 + k) ∧ J1 165 (41 + k) < m) (hj : 0 ≤ j ∧ j + 2 < 2 * h) (hc : 0 ≤ c ∧ c < m) : ∀ k, 0 ≤ k → k < 2 * h → 0 ≤ zup J1 165 (41 + j) c 165 (41 + k) ∧ zup J1 165 (41 + j) c 165 (41 + k) < m := fun k a q => by
  have e : zup J1 165 (41 + j) c 165 (41 + k) = if 41 + k = 41 + j then c else J1 165 (41 + k) := rfl
  rw [e]
  split
  · exact hc
  · exact h3 k a q
set_option maxHeartbeats 4000000 in
set_option maxRecDepth 100000 in
theorem m_memoLoses {l : Launch} {G : tb_G} (hl : l.stackTraces = false) (n : Nat) (J : zJ) (i : Int) (hr_i : -2147483648 ≤ i ∧ i < 2147483648) (m : Int) (hm : MM (J 165) m) (hi : 0 ≤ i ∧ i < J 165 40) : tz_Ok l G M_X12_memoLoses 0 0 0 [.ref 164, zi i] n J (zqv (fun J' => MM (J' 165) m ∧ J' 165 40 = J 165 40 - 1 ∧ MMf J' J)) zN := by
  refine tz_Ok.of hl (by decide +kernel) rfl (tb_c1 rfl) (Nat.le_of_ble_eq_true rfl) ?_
  show tz_At l G M_X12_memoLoses (tb_rm 0 0 0) none (tb_ZM G 0 0 (zQ n 0 (zqv (fun J' => MM (J' 165) m ∧ J' 165 40 = J 165 40 - 1 ∧ MMf J' J))) (zX n 0 zN)) 0 0 n J 0 [some (.ref 164), some (zi i), none] []
  obtain ⟨m1, m2, m3⟩ := id hm
  refine tz_aload_n (pc := 0) dX12_memoLoses_0 rfl rfl ?_
  refine tz_fR (pc := 1) dX12_memoLoses_1 fl_X12_9 r_164_0 ?_
  refine tz_bipush (pc := 4) dX12_memoLoses_4 (by decide) ?_
  refine tz_dup2 (pc := 6) dX12_memoLoses_6 rfl rfl ?_
  refine tz_aL (pc := 7) (z := 40) (v := (J 165 40)) dX12_memoLoses_7 a_165 rfl (by decide) rfl (fun r_7 => ?_)
  refine tz_iconst (pc := 8) dX12_memoLoses_8 ?_
  refine tz_isub (pc := 9) (v := (J 165 40) - 1) dX12_memoLoses_9 rfl ?_
  refine tz_aS (pc := 10) (z := 40) dX12_memoLoses_10 a_165 rfl (by decide) (by omega) ?_
  refine tz_iconst (pc := 11) dX12_memoLoses_11 ?_
  refine tz_iload_n (pc := 12) dX12_memoLoses_12 rfl rfl ?_
  refine tz_imul (pc := 13) (v := 2 * i) dX12_memoLoses_13 rfl ?_
  refine tz_istore_n (pc := 14) (L2 := [_, _, _]) dX12_memoLoses_14 rfl (by decide) rfl ?_
  have loop15 : ∀ (f9 : Nat) (j : Int) (J1 : zJ), ((2 * J 165 40 - j).toNat) < f9 → (0 ≤ j ∧ j ≤ 2 * (J 165 40 - 1)) → (MMf J1 J) → (J1 165 40 = J 165 40 - 1) → (∀ k, 0 ≤ k → k < 2 * J 165 40 → 0 ≤ J1 165 (41 + k) ∧ J1 165 (41 + k) < m) → tz_At l G M_X12_memoLoses (tb_rm 0 0 0) none (tb_ZM G 0 0 (zQ n 0 (zqv (fun J' => MM (J' 165) m ∧ J' 165 40 = J 165 40 - 1 ∧ MMf J' J))) (zX n 0 zN)) 0 0 n J1 15 [some (.ref 164), some (zi i), some (zi j)] [] := by
    intro f9
    induction f9 with
    | zero => intro j J1 hm9; exact absurd hm9 (Nat.not_lt_zero _)
    | succ f9 ih15 =>
      intro j J1 hm15 hj f1 h4 h3
      refine tz_iload_n (pc := 15) dX12_memoLoses_15 rfl rfl ?_
      refine tz_iconst (pc := 16) dX12_memoLoses_16 ?_
      refine tz_aload_n (pc := 17) dX12_memoLoses_17 rfl rfl ?_
      refine tz_fR (pc := 18) dX12_memoLoses_18 fl_X12_9 r_164_0 ?_
      refine tz_bipush (pc := 21) dX12_memoLoses_21 (by decide) ?_
      refine tz_aL (pc := 23) (z := 40) (v := (J1 165 40)) dX12_memoLoses_23 a_165 rfl (by decide) rfl (fun r_23 => ?_)
      refine tz_imul (pc := 24) (v := 2 * (J1 165 40)) dX12_memoLoses_24 rfl ?_
      refine tz_icmp_ge (pc := 25) (tgt := 54) dX12_memoLoses_25 (by decide) (by omega) (by omega) (fun h_25 => ?_) (fun h_25 => ?_)
      · exact tz_vret (pc := 54) dX12_memoLoses_54 rfl (Nat.le_of_ble_eq_true rfl) (Nat.le_of_ble_eq_true rfl) ⟨Nat.le_refl _, Nat.le_add_right _ _⟩ ⟨rfl, ⟨⟨by rw [f1.2 39 (by decide)]; exact m1, by rw [h4, f1.2 39 (by decide)]; omega, fun k a c => h3 k a (by omega)⟩, h4, f1⟩⟩
      · refine tz_aload_n (pc := 28) dX12_memoLoses_28 rfl rfl ?_
        refine tz_fR (pc := 29) dX12_memoLoses_29 fl_X12_9 r_164_0 ?_
        refine tz_bipush (pc := 32) dX12_memoLoses_32 (by decide) ?_
        refine tz_iload_n (pc := 34) dX12_memoLoses_34 rfl rfl ?_
        refine tz_iadd (pc := 35) (v := 41 + j) dX12_memoLoses_35 rfl ?_
        refine tz_aload_n (pc := 36) dX12_memoLoses_36 rfl rfl ?_
        refine tz_fR (pc := 37) dX12_memoLoses_37 fl_X12_9 r_164_0 ?_
        refine tz_bipush (pc := 40) dX12_memoLoses_40 (by decide) ?_
        refine tz_iload_n (pc := 42) dX12_memoLoses_42 rfl rfl ?_
        refine tz_iadd (pc := 43) (v := 41 + j) dX12_memoLoses_43 rfl ?_
        refine tz_iconst (pc := 44) dX12_memoLoses_44 ?_
        refine tz_iadd (pc := 45) (v := (41 + j) + 2) dX12_memoLoses_45 rfl ?_
        refine tz_aL (pc := 46) (z := ((41 + j) + 2)) (v := (J1 165 ((41 + j) + 2))) dX12_memoLoses_46 a_165 rfl (by omega) rfl (fun r_46 => ?_)
        refine tz_aS (pc := 47) (z := (41 + j)) dX12_memoLoses_47 a_165 rfl (by omega) (by omega) ?_
        refine tz_iinc (pc := 48) (z := j + 1) (L2 := [_, _, _]) dX12_memoLoses_48 rfl (by omega) rfl ?_
        refine tz_goto (pc := 51) (tgt := 15) dX12_memoLoses_51 (by decide) ?_
        have hc9 := h3 (j + 2) (by omega) (by omega)
        rw [show 41 + (j + 2) = 41 + j + 2 by omega] at hc9
        exact ih15 (j + 1) _ (by omega) (by omega) (f1.up (by omega)) ((zup_ne (by omega)).trans h4) (ml_s h3 (by omega) hc9)
  exact loop15 _ _ _ (Nat.lt_succ_self _) (by omega) (MMf.rf.up (by omega)) zup_at (fun k a c => by rw [zup_ne (by omega)]; exact m3 k a (by omega))

theorem mg_s {J2 : zJ} {m t v : Int} (h : MM (J2 165) m) (hl : J2 165 40 < J2 165 39) (ht : 0 ≤ t ∧ t < m) (hv : 0 ≤ v ∧ v < m) : MM (zup (zup (zup J2 165 (41 + 2 * J2 165 40) t) 165 (41 + 2 * J2 165 40 + 1) v) 165 40 (J2 165 40 + 1) 165) m := by
  obtain ⟨h1, h2, h3⟩ := h
  have e : ∀ k, zup (zup (zup J2 165 (41 + 2 * J2 165 40) t) 165 (41 + 2 * J2 165 40 + 1) v) 165 40 (J2 165 40 + 1) 165 k = if k = 40 then J2 165 40 + 1 else if k = 41 + 2 * J2 165 40 + 1 then v else if k = 41 + 2 * J2 165 40 then t else J2 165 k := fun _ => rfl
  unfold MM
  rw [e 39, e 40, if_neg (by omega), if_neg (by omega), if_neg (by omega), if_pos rfl]
  refine ⟨h1, by omega, fun k a c => ?_⟩
  rw [e (41 + k), if_neg (by omega)]
  split
  · exact hv
  · split
    · exact ht
    · exact h3 k a (by omega)
set_option maxHeartbeats 4000000 in
set_option maxRecDepth 100000 in
theorem m_memoGets {l : Launch} {G : tb_G} (hl : l.stackTraces = false) (n : Nat) (J : zJ) (t : Int) (v : Int) (hr_t : -2147483648 ≤ t ∧ t < 2147483648) (hr_v : -2147483648 ≤ v ∧ v < 2147483648) (m : Int) (hm : MM (J 165) m) (ht : 0 ≤ t ∧ t < m) (hv : 0 ≤ v ∧ v < m) : tz_Ok l G M_X12_memoGets 1 0 0 [.ref 164, zi t, zi v] n J (zqv (fun J' => MM (J' 165) m ∧ MMf J' J)) zN := by
  refine tz_Ok.of hl (by decide +kernel) rfl (tb_c1 rfl) (Nat.le_of_ble_eq_true rfl) ?_
  show tz_At l G M_X12_memoGets (tb_rm 1 0 0) none (tb_ZM G 0 0 (zQ n 0 (zqv (fun J' => MM (J' 165) m ∧ MMf J' J))) (zX n 0 zN)) 0 0 n J 0 [some (.ref 164), some (zi t), some (zi v)] []
  obtain ⟨m1, m2, m3⟩ := id hm
  refine tz_aload_n (pc := 0) dX12_memoGets_0 rfl rfl ?_
  refine tz_fR (pc := 1) dX12_memoGets_1 fl_X12_9 r_164_0 ?_
  refine tz_bipush (pc := 4) dX12_memoGets_4 (by decide) ?_
  refine tz_aL (pc := 6) (z := 39) (v := (J 165 39)) dX12_memoGets_6 a_165 rfl (by decide) rfl (fun r_6 => ?_)
  refine tz_if_ne (pc := 7) (tgt := 11) dX12_memoGets_7 (by decide) (by omega) (fun h_7 => ?_) (fun h_7 => ?_)
  · refine tz_aload_n (pc := 11) dX12_memoGets_11 rfl rfl ?_
    refine tz_fR (pc := 12) dX12_memoGets_12 fl_X12_9 r_164_0 ?_
    refine tz_bipush (pc := 15) dX12_memoGets_15 (by decide) ?_
    refine tz_aL (pc := 17) (z := 40) (v := (J 165 40)) dX12_memoGets_17 a_165 rfl (by decide) rfl (fun r_17 => ?_)
    refine tz_aload_n (pc := 18) dX12_memoGets_18 rfl rfl ?_
    refine tz_fR (pc := 19) dX12_memoGets_19 fl_X12_9 r_164_0 ?_
    refine tz_bipush (pc := 22) dX12_memoGets_22 (by decide) ?_
    refine tz_aL (pc := 24) (z := 39) (v := (J 165 39)) dX12_memoGets_24 a_165 rfl (by decide) rfl (fun r_24 => ?_)
    refine tz_icmp_ne (pc := 25) (tgt := 33) dX12_memoGets_25 (by decide) (by omega) (by omega) (fun h_25 => ?_) (fun h_25 => ?_)
    · refine tz_aload_n (pc := 33) dX12_memoGets_33 rfl rfl ?_
      refine tz_fR (pc := 34) dX12_memoGets_34 fl_X12_9 r_164_0 ?_
      refine tz_bipush (pc := 37) dX12_memoGets_37 (by decide) ?_
      refine tz_iconst (pc := 39) dX12_memoGets_39 ?_
      refine tz_aload_n (pc := 40) dX12_memoGets_40 rfl rfl ?_
      refine tz_fR (pc := 41) dX12_memoGets_41 fl_X12_9 r_164_0 ?_
      refine tz_bipush (pc := 44) dX12_memoGets_44 (by decide) ?_
      refine tz_aL (pc := 46) (z := 40) (v := (J 165 40)) dX12_memoGets_46 a_165 rfl (by decide) rfl (fun r_46 => ?_)
      refine tz_imul (pc := 47) (v := 2 * (J 165 40)) dX12_memoGets_47 rfl ?_
      refine tz_iadd (pc := 48) (v := 41 + (2 * (J 165 40))) dX12_memoGets_48 rfl ?_
      refine tz_iload_n (pc := 49) dX12_memoGets_49 rfl rfl ?_
      refine tz_aS (pc := 50) (z := (41 + (2 * (J 165 40)))) dX12_memoGets_50 a_165 rfl (by omega) (by omega) ?_
      refine tz_aload_n (pc := 51) dX12_memoGets_51 rfl rfl ?_
      refine tz_fR (pc := 52) dX12_memoGets_52 fl_X12_9 r_164_0 ?_
      refine tz_bipush (pc := 55) dX12_memoGets_55 (by decide) ?_
      refine tz_iconst (pc := 57) dX12_memoGets_57 ?_
      refine tz_aload_n (pc := 58) dX12_memoGets_58 rfl rfl ?_
      refine tz_fR (pc := 59) dX12_memoGets_59 fl_X12_9 r_164_0 ?_
      refine tz_bipush (pc := 62) dX12_memoGets_62 (by decide) ?_
      refine tz_aL (pc := 64) (z := 40) (v := (J 165 40)) dX12_memoGets_64 a_165 rfl (by decide) (Eq.trans (show zup _ 165 (41 + (2 * (J 165 40))) t 165 40 = _ from zup_ne (by omega)) rfl) (fun r_64 => ?_)
      refine tz_imul (pc := 65) (v := 2 * (J 165 40)) dX12_memoGets_65 rfl ?_
      refine tz_iadd (pc := 66) (v := 41 + (2 * (J 165 40))) dX12_memoGets_66 rfl ?_
      refine tz_iconst (pc := 67) dX12_memoGets_67 ?_
      refine tz_iadd (pc := 68) (v := (41 + (2 * (J 165 40))) + 1) dX12_memoGets_68 rfl ?_
      refine tz_iload_n (pc := 69) dX12_memoGets_69 rfl rfl ?_
      refine tz_aS (pc := 70) (z := ((41 + (2 * (J 165 40))) + 1)) dX12_memoGets_70 a_165 rfl (by omega) (by omega) ?_
      refine tz_aload_n (pc := 71) dX12_memoGets_71 rfl rfl ?_
      refine tz_fR (pc := 72) dX12_memoGets_72 fl_X12_9 r_164_0 ?_
      refine tz_bipush (pc := 75) dX12_memoGets_75 (by decide) ?_
      refine tz_dup2 (pc := 77) dX12_memoGets_77 rfl rfl ?_
      refine tz_aL (pc := 78) (z := 40) (v := (J 165 40)) dX12_memoGets_78 a_165 rfl (by decide) (Eq.trans (show zup _ 165 ((41 + (2 * (J 165 40))) + 1) v 165 40 = _ from zup_ne (by omega)) (Eq.trans (show zup _ 165 (41 + (2 * (J 165 40))) t 165 40 = _ from zup_ne (by omega)) rfl)) (fun r_78 => ?_)
      refine tz_iconst (pc := 79) dX12_memoGets_79 ?_
      refine tz_iadd (pc := 80) (v := (J 165 40) + 1) dX12_memoGets_80 rfl ?_
      refine tz_aS (pc := 81) (z := 40) dX12_memoGets_81 a_165 rfl (by decide) (by omega) ?_
      exact tz_vret (pc := 82) dX12_memoGets_82 rfl (Nat.le_of_ble_eq_true rfl) (Nat.le_of_ble_eq_true rfl) ⟨Nat.le_refl _, Nat.le_add_right _ _⟩ ⟨rfl, ⟨mg_s hm (by omega) ht hv, ((MMf.rf.up (by omega)).up (by omega)).up (by decide)⟩⟩
    · refine tz_aload_n (pc := 28) dX12_memoGets_28 rfl rfl ?_
      refine tz_iconst (pc := 29) dX12_memoGets_29 ?_
      refine tz_cV (pc := 30) (m_memoLoses hl n _ _ (by decide) m hm (by omega)) vl_X12_204 dX12_memoGets_30 o_164 rfl rfl (Nat.le_of_ble_eq_true rfl) ⟨(Nat.le_of_ble_eq_true rfl), (Nat.le_of_ble_eq_true rfl)⟩ rfl rfl (Nat.le_of_ble_eq_true rfl) (Nat.le_of_ble_eq_true rfl) (fun r9 J_30 hq9 => ?_)
      obtain ⟨rfl, m4, e4, f4⟩ := hq9
      have hk0 : 40 ≤ 41 + 2 * J_30 165 40 ∧ 41 + 2 * J_30 165 40 < 59 := by omega
      have hk1 : 40 ≤ 41 + 2 * J_30 165 40 + 1 ∧ 41 + 2 * J_30 165 40 + 1 < 59 := by omega
      refine tz_aload_n (pc := 33) dX12_memoGets_33 rfl rfl ?_
      refine tz_fR (pc := 34) dX12_memoGets_34 fl_X12_9 r_164_0 ?_
      refine tz_bipush (pc := 37) dX12_memoGets_37 (by decide) ?_
      refine tz_iconst (pc := 39) dX12_memoGets_39 ?_
      refine tz_aload_n (pc := 40) dX12_memoGets_40 rfl rfl ?_
      refine tz_fR (pc := 41) dX12_memoGets_41 fl_X12_9 r_164_0 ?_
      refine tz_bipush (pc := 44) dX12_memoGets_44 (by decide) ?_
      refine tz_aL (pc := 46) (z := 40) (v := (J_30 165 40)) dX12_memoGets_46 a_165 rfl (by decide) rfl (fun r_46 => ?_)
      refine tz_imul (pc := 47) (v := 2 * (J_30 165 40)) dX12_memoGets_47 rfl ?_
      refine tz_iadd (pc := 48) (v := 41 + (2 * (J_30 165 40))) dX12_memoGets_48 rfl ?_
      refine tz_iload_n (pc := 49) dX12_memoGets_49 rfl rfl ?_
      refine tz_aS (pc := 50) (z := (41 + (2 * (J_30 165 40)))) dX12_memoGets_50 a_165 rfl (by omega) (by omega) ?_
      refine tz_aload_n (pc := 51) dX12_memoGets_51 rfl rfl ?_
      refine tz_fR (pc := 52) dX12_memoGets_52 fl_X12_9 r_164_0 ?_
      refine tz_bipush (pc := 55) dX12_memoGets_55 (by decide) ?_
      refine tz_iconst (pc := 57) dX12_memoGets_57 ?_
      refine tz_aload_n (pc := 58) dX12_memoGets_58 rfl rfl ?_
      refine tz_fR (pc := 59) dX12_memoGets_59 fl_X12_9 r_164_0 ?_
      refine tz_bipush (pc := 62) dX12_memoGets_62 (by decide) ?_
      refine tz_aL (pc := 64) (z := 40) (v := (J_30 165 40)) dX12_memoGets_64 a_165 rfl (by decide) (Eq.trans (show zup _ 165 (41 + (2 * (J_30 165 40))) t 165 40 = _ from zup_ne (by omega)) rfl) (fun r_64 => ?_)
      refine tz_imul (pc := 65) (v := 2 * (J_30 165 40)) dX12_memoGets_65 rfl ?_
      refine tz_iadd (pc := 66) (v := 41 + (2 * (J_30 165 40))) dX12_memoGets_66 rfl ?_
      refine tz_iconst (pc := 67) dX12_memoGets_67 ?_
      refine tz_iadd (pc := 68) (v := (41 + (2 * (J_30 165 40))) + 1) dX12_memoGets_68 rfl ?_
      refine tz_iload_n (pc := 69) dX12_memoGets_69 rfl rfl ?_
      refine tz_aS (pc := 70) (z := ((41 + (2 * (J_30 165 40))) + 1)) dX12_memoGets_70 a_165 rfl (by omega) (by omega) ?_
      refine tz_aload_n (pc := 71) dX12_memoGets_71 rfl rfl ?_
      refine tz_fR (pc := 72) dX12_memoGets_72 fl_X12_9 r_164_0 ?_
      refine tz_bipush (pc := 75) dX12_memoGets_75 (by decide) ?_
      refine tz_dup2 (pc := 77) dX12_memoGets_77 rfl rfl ?_
      refine tz_aL (pc := 78) (z := 40) (v := (J_30 165 40)) dX12_memoGets_78 a_165 rfl (by decide) (Eq.trans (show zup _ 165 ((41 + (2 * (J_30 165 40))) + 1) v 165 40 = _ from zup_ne (by omega)) (Eq.trans (show zup _ 165 (41 + (2 * (J_30 165 40))) t 165 40 = _ from zup_ne (by omega)) rfl)) (fun r_78 => ?_)
      refine tz_iconst (pc := 79) dX12_memoGets_79 ?_
      refine tz_iadd (pc := 80) (v := (J_30 165 40) + 1) dX12_memoGets_80 rfl ?_
      refine tz_aS (pc := 81) (z := 40) dX12_memoGets_81 a_165 rfl (by decide) (by omega) ?_
      exact tz_vret (pc := 82) dX12_memoGets_82 rfl (Nat.le_of_ble_eq_true rfl) (Nat.le_of_ble_eq_true rfl) ⟨Nat.le_refl _, Nat.le_add_right _ _⟩ ⟨rfl, ⟨mg_s m4 (by rw [f4.2 39 (by decide)]; omega) ht hv, ((f4.up hk0).up hk1).up (by decide)⟩⟩
  · exact tz_vret (pc := 10) dX12_memoGets_10 rfl (Nat.le_of_ble_eq_true rfl) (Nat.le_of_ble_eq_true rfl) ⟨Nat.le_refl _, Nat.le_add_right _ _⟩ ⟨rfl, ⟨hm, MMf.rf⟩⟩

set_option maxHeartbeats 4000000 in
set_option maxRecDepth 100000 in
theorem m_stopped {l : Launch} {G : tb_G} (hl : l.stackTraces = false) (n : Nat) (J : zJ)     : tz_Ok l G M_X12_isStopped 0 0 0 [.ref 164] n J (zqi (fun z J' => J = J' ∧ ((z = 0 ∧ J 164 21 = 0 ∧ J 164 34 ≤ 100) ∨ (z = 1 ∧ (¬ J 164 21 = 0 ∨ 100 < J 164 34))))) zN := by
  refine tz_Ok.of hl (by decide +kernel) rfl (tb_c1 rfl) (Nat.le_of_ble_eq_true rfl) ?_
  show tz_At l G M_X12_isStopped (tb_rm 0 0 0) none (tb_ZM G 0 0 (zQ n 0 (zqi (fun z J' => J = J' ∧ ((z = 0 ∧ J 164 21 = 0 ∧ J 164 34 ≤ 100) ∨ (z = 1 ∧ (¬ J 164 21 = 0 ∨ 100 < J 164 34)))))) (zX n 0 zN)) 0 0 n J 0 [some (.ref 164)] []
  refine tz_aload_n (pc := 0) dX12_isStopped_0 rfl rfl ?_
  refine tz_fI (pc := 1) (kz := 21) (v := (J 164 21)) dX12_isStopped_1 fl_X12_92 i_164_21 rfl rfl (fun r_1 => ?_)
  refine tz_if_ne (pc := 4) (tgt := 16) dX12_isStopped_4 (by decide) (by omega) (fun h_4 => ?_) (fun h_4 => ?_)
  · refine tz_iconst (pc := 16) dX12_isStopped_16 ?_
    refine tz_goto (pc := 17) (tgt := 21) dX12_isStopped_17 (by decide) ?_
    exact tz_zret (pc := 21) (z := 1) dX12_isStopped_21 rfl (Or.inr rfl) (Nat.le_of_ble_eq_true rfl) (Nat.le_of_ble_eq_true rfl) ⟨Nat.le_refl _, Nat.le_add_right _ _⟩ ⟨_, rfl, (by decide), ⟨rfl, by omega⟩⟩
  · refine tz_aload_n (pc := 7) dX12_isStopped_7 rfl rfl ?_
    refine tz_fI (pc := 8) (kz := 34) (v := (J 164 34)) dX12_isStopped_8 fl_X12_208 i_164_34 rfl rfl (fun r_8 => ?_)
    refine tz_bipush (pc := 11) dX12_isStopped_11 (by decide) ?_
    refine tz_icmp_le (pc := 13) (tgt := 20) dX12_isStopped_13 (by decide) (by omega) (by decide) (fun h_13 => ?_) (fun h_13 => ?_)
    · refine tz_iconst (pc := 20) dX12_isStopped_20 ?_
      exact tz_zret (pc := 21) (z := 0) dX12_isStopped_21 rfl (Or.inl rfl) (Nat.le_of_ble_eq_true rfl) (Nat.le_of_ble_eq_true rfl) ⟨Nat.le_refl _, Nat.le_add_right _ _⟩ ⟨_, rfl, (by decide), ⟨rfl, by omega⟩⟩
    · refine tz_iconst (pc := 16) dX12_isStopped_16 ?_
      refine tz_goto (pc := 17) (tgt := 21) dX12_isStopped_17 (by decide) ?_
      exact tz_zret (pc := 21) (z := 1) dX12_isStopped_21 rfl (Or.inr rfl) (Nat.le_of_ble_eq_true rfl) (Nat.le_of_ble_eq_true rfl) ⟨Nat.le_refl _, Nat.le_add_right _ _⟩ ⟨_, rfl, (by decide), ⟨rfl, by omega⟩⟩

