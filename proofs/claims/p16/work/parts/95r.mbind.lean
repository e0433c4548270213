/-! ===== bindsSolved of the reference, exact ===== -/
theorem tb0_r5 {J : zJ} {q v : Int} (h : 0 ≤ q ∧ q < 63) : tb0 (zup J 165 q v) = zup (tb0 J) 165 q v := by
  funext c k
  by_cases h5 : c = 165
  · subst h5
    show (if 0 ≤ k ∧ k < 63 then (if k = q then v else J 165 k) else 0) = if k = q then v else if 0 ≤ k ∧ k < 63 then J 165 k else 0
    (repeat' split) <;> first | rfl | omega
  · rw [zup_nc h5]
    unfold tb0
    have e : ∀ d, ¬ d = 165 → zup J 165 q v d = J d := fun d w => zup_nc w
    rw [e 164 (by decide), e 167 (by decide), e c h5, if_neg h5, if_neg h5]
def WKB (ρ : Int → Int) (bs : Int) (J J1 : zJ) (k : Nat) : Prop := (J1 164 21 = 0 → tb0 J1 = bnO ρ bs (tb0 J) k) ∧ (¬ J1 164 21 = 0 → ¬ (bnO ρ bs (tb0 J) k) 164 21 = 0)
theorem wkb_F {ρ : Int → Int} {bs : Int} {J J1 J2 : zJ} {k : Nat} (h : WKB ρ bs J J1 k) (f : ¬ J1 164 21 = 0) (g : J2 164 21 = 0 → J1 164 21 = 0) : WKB ρ bs J J2 (k + 1) := ⟨fun w => absurd (g w) f, fun _ => by rw [bnO_s, bn1_F (h.2 f)]; exact h.2 f⟩
theorem wkb_n {ρ : Int → Int} {bs v : Int} {J J1 : zJ} {k : Nat} (h : WKB ρ bs J J1 k) (hv : v = k) (h8 : v < 8) (b : ¬ bt bs v) : WKB ρ bs J (zup J1 165 (1 + v) 0) (k + 1) := by
  by_cases f : J1 164 21 = 0
  · have e := h.1 f
    have q : tb0 (zup J1 165 (1 + v) 0) = bnO ρ bs (tb0 J) (k + 1) := by
      rw [bnO_s, ← e, ← hv, bn1_n (show tb0 J1 164 21 = 0 from f) b, tb0_r5 (by omega)]
    exact ⟨fun _ => q, fun n => absurd f n⟩
  · exact wkb_F h f (fun w => w)
theorem wkb_i {ρ : Int → Int} {bs v t s m1 : Int} {J J1 : zJ} {k : Nat} (h : WKB ρ bs J J1 k) (hv : v = k) (h8 : v < 8) (b : bt bs v) (hM : MS J1 0 0 0 s m1) (ht : 0 ≤ t ∧ t < m1) (e6 : J1 166 (0 + t) = -1 - v) (er : ρ t = t) : WKB ρ bs J (zup J1 165 (1 + v) 0) (k + 1) := by
  by_cases f : J1 164 21 = 0
  · have e := h.1 f
    have w := (tm_fv hM ht (by omega) e6).1
    have q : tb0 (zup J1 165 (1 + v) 0) = bnO ρ bs (tb0 J) (k + 1) := by
      rw [bnO_s, ← e, ← hv, bn1_i (show tb0 J1 164 21 = 0 from f) b (by rw [w]; exact er), tb0_r5 (by omega)]
    exact ⟨fun _ => q, fun n => absurd f n⟩
  · exact wkb_F h f (fun w => w)
theorem wkb_g {ρ : Int → Int} {bs v t s m1 z : Int} {J J1 J3 : zJ} {k : Nat} (h : WKB ρ bs J J1 k) (hv : v = k) (h8 : v < 8) (b : bt bs v) (hM : MS J1 0 0 0 s m1) (ht : 0 ≤ t ∧ t < m1) (e6 : J1 166 (0 + t) = -1 - v) (er : ¬ ρ t = t) (x : WKR J3 z (grO ρ 6 (tb0 (zup J1 165 (1 + v) 0)) t)) (g : J3 164 21 = 0 → J1 164 21 = 0) (hz : J3 164 21 = 0 → 0 ≤ z ∧ z < 1000) : WKB ρ bs J (zup J3 165 (1 + v) (zw (1 + z))) (k + 1) := by
  by_cases f : J1 164 21 = 0
  · have e := h.1 f
    have w := (tm_fv hM ht (by omega) e6).1
    have s9 : bnO ρ bs (tb0 J) (k + 1) = zup (grO ρ 6 (tb0 (zup J1 165 (1 + v) 0)) t).1 165 (1 + v) (1 + (grO ρ 6 (tb0 (zup J1 165 (1 + v) 0)) t).2) := by
      rw [bnO_s, ← e, ← hv, bn1_g (show tb0 J1 164 21 = 0 from f) b (by rw [w]; exact er), w, tb0_r5 (by omega)]
    by_cases f3 : J3 164 21 = 0
    · have q := x.1 f3
      refine ⟨fun _ => ?_, fun n => absurd f3 n⟩
      rw [s9, ← q, tb0_r5 (by omega), zw_eq (by have := hz f3; omega)]
    · refine ⟨fun y => absurd y f3, fun _ => ?_⟩
      rw [s9]
      exact x.2 f3
  · exact wkb_F h f g
set_option maxHeartbeats 4000000 in
set_option maxRecDepth 100000 in
theorem x_there {l : Launch} {G : tb_G} (hl : l.stackTraces = false) (n : Nat) (J : zJ) (v : Int) (hr_v : -2147483648 ≤ v ∧ v < 2147483648) (s m : Int) (hM : MS J 0 0 0 s m) (hv : 0 ≤ v ∧ v < 8) : tz_Ok l G M_X12_thereOf 1 0 0 [.ref 164, zi v] n J (zqi (fun z J' => J = J' ∧ ((z = -1 ∧ ∀ q, 0 ≤ q → q < m → ¬ J 166 (0 + q) = -1 - v) ∨ ((0 ≤ z ∧ z < m) ∧ J 166 (0 + z) = -1 - v)))) zN := by
  refine tz_Ok.of hl (by decide +kernel) rfl (tb_c1 rfl) (Nat.le_of_ble_eq_true rfl) ?_
  show tz_At l G M_X12_thereOf (tb_rm 1 0 0) none (tb_ZM G 0 0 (zQ n 0 (zqi (fun z J' => J = J' ∧ ((z = -1 ∧ ∀ q, 0 ≤ q → q < m → ¬ J 166 (0 + q) = -1 - v) ∨ ((0 ≤ z ∧ z < m) ∧ J 166 (0 + z) = -1 - v))))) (zX n 0 zN)) 0 0 n J 0 [some (.ref 164), some (zi v), none] []
  have hT := hM.told
  refine tz_iconst (pc := 0) dX12_thereOf_0 ?_
  refine tz_istore_n (pc := 1) (L2 := [_, _, _]) dX12_thereOf_1 rfl (by decide) rfl ?_
  have loop2 : ∀ (f9 : Nat) (k : Int), ((m - k).toNat) < f9 → (0 ≤ k ∧ k ≤ m) → (∀ q, 0 ≤ q → q < k → ¬ J 166 (0 + q) = -1 - v) → tz_At l G M_X12_thereOf (tb_rm 1 0 0) none (tb_ZM G 0 0 (zQ n 0 (zqi (fun z J' => J = J' ∧ ((z = -1 ∧ ∀ q, 0 ≤ q → q < m → ¬ J 166 (0 + q) = -1 - v) ∨ ((0 ≤ z ∧ z < m) ∧ J 166 (0 + z) = -1 - v))))) (zX n 0 zN)) 0 0 n J 2 [some (.ref 164), some (zi v), some (zi k)] [] := by
    intro f9
    induction f9 with
    | zero => intro k hm9; exact absurd hm9 (Nat.not_lt_zero _)
    | succ f9 ih2 =>
      intro k hm2 hk hn
      refine tz_iload_n (pc := 2) dX12_thereOf_2 rfl rfl ?_
      refine tz_aload_n (pc := 3) dX12_thereOf_3 rfl rfl ?_
      refine tz_cV (pc := 4) (m_many hl n _ 0 0 0 s m hM) vl_X12_96 dX12_thereOf_4 o_164 rfl rfl (Nat.le_of_ble_eq_true rfl) ⟨(Nat.le_of_ble_eq_true rfl), (Nat.le_of_ble_eq_true rfl)⟩ rfl rfl (Nat.le_of_ble_eq_true rfl) (Nat.le_of_ble_eq_true rfl) (fun r9 J_4 hq9 => ?_)
      obtain ⟨z_4, rfl, hz_4, rfl, rfl⟩ := hq9
      refine tz_icmp_ge (pc := 7) (tgt := 29) dX12_thereOf_7 (by decide) (by omega) (by omega) (fun h_7 => ?_) (fun h_7 => ?_)
      · refine tz_iconst (pc := 29) dX12_thereOf_29 ?_
        exact tz_iret (pc := 30) (z := (-1)) dX12_thereOf_30 rfl (Nat.le_of_ble_eq_true rfl) (Nat.le_of_ble_eq_true rfl) ⟨Nat.le_refl _, Nat.le_add_right _ _⟩ ⟨_, rfl, (by decide), (by first | exact ⟨rfl, Or.inr ⟨by omega, by omega⟩⟩ | exact ⟨rfl, Or.inl ⟨rfl, fun q a c => hn q a (by omega)⟩⟩)⟩
      · refine tz_aload_n (pc := 10) dX12_thereOf_10 rfl rfl ?_
        refine tz_iload_n (pc := 11) dX12_thereOf_11 rfl rfl ?_
        refine tz_cV (pc := 12) (m_head hl n _ _ (by omega) 0 0 0 s m hM (by omega)) vl_X12_74 dX12_thereOf_12 o_164 rfl rfl (Nat.le_of_ble_eq_true rfl) ⟨(Nat.le_of_ble_eq_true rfl), (Nat.le_of_ble_eq_true rfl)⟩ rfl rfl (Nat.le_of_ble_eq_true rfl) (Nat.le_of_ble_eq_true rfl) (fun r9 J_12 hq9 => ?_)
        obtain ⟨z_12, rfl, hz_12, rfl, rfl⟩ := hq9
        refine tz_iconst (pc := 15) dX12_thereOf_15 ?_
        refine tz_iload_n (pc := 16) dX12_thereOf_16 rfl rfl ?_
        refine tz_isub (pc := 17) (v := (-1) - v) dX12_thereOf_17 rfl ?_
        refine tz_icmp_ne (pc := 18) (tgt := 23) dX12_thereOf_18 (by decide) (by omega) (by omega) (fun h_18 => ?_) (fun h_18 => ?_)
        · refine tz_iinc (pc := 23) (z := k + 1) (L2 := [_, _, _]) dX12_thereOf_23 rfl (by omega) rfl ?_
          refine tz_goto (pc := 26) (tgt := 2) dX12_thereOf_26 (by decide) ?_
          exact ih2 (k + 1) (by omega) (by omega) (fun q a c => (Decidable.em (q = k)).elim (fun e => by rw [e]; omega) (fun e => hn q a (by omega)))
        · refine tz_iload_n (pc := 21) dX12_thereOf_21 rfl rfl ?_
          exact tz_iret (pc := 22) (z := k) dX12_thereOf_22 rfl (Nat.le_of_ble_eq_true rfl) (Nat.le_of_ble_eq_true rfl) ⟨Nat.le_refl _, Nat.le_add_right _ _⟩ ⟨_, rfl, (by omega), (by first | exact ⟨rfl, Or.inr ⟨by omega, by omega⟩⟩ | exact ⟨rfl, Or.inl ⟨rfl, fun q a c => hn q a (by omega)⟩⟩)⟩
  exact loop2 _ 0 (Nat.lt_succ_self _) (by omega) (fun q a c => by omega)

set_option maxHeartbeats 4000000 in
set_option maxRecDepth 100000 in
theorem x_binds {l : Launch} {G : tb_G} (hl : l.stackTraces = false) (n : Nat) (J : zJ) (x : Int) (hr_x : -2147483648 ≤ x ∧ x < 2147483648) (s m : Int) (ρ : Int → Int) (hM : MS J 0 0 0 s m) (hs : J 164 9 = s) (hU : UF J 400 m) (hρ : mRHO J m ρ) (hbv : ∀ v, 0 ≤ v → v < 8 → bt x v → ∃ t, (0 ≤ t ∧ t < m) ∧ J 166 (0 + t) = -1 - v) : tz_Ok l G M_X12_bindsSolved 14 0 0 [.ref 164, zi x] n J (zqv (fun J' => (∃ m', MG [] [] rB J' J 0 0 0 s m m' ∧ (J' 164 21 = 0 → ∀ v, 1 ≤ v → v ≤ 8 → 0 ≤ J' 165 v ∧ J' 165 v ≤ m')) ∧ WKB ρ x J J' 8)) zN := by
  refine tz_Ok.of hl (by decide +kernel) rfl (tb_c1 rfl) (Nat.le_of_ble_eq_true rfl) ?_
  show tz_At l G M_X12_bindsSolved (tb_rm 14 0 0) none (tb_ZM G 0 0 (zQ n 0 (zqv (fun J' => (∃ m', MG [] [] rB J' J 0 0 0 s m m' ∧ (J' 164 21 = 0 → ∀ v, 1 ≤ v → v ≤ 8 → 0 ≤ J' 165 v ∧ J' 165 v ≤ m')) ∧ WKB ρ x J J' 8))) (zX n 0 zN)) 0 0 n J 0 [some (.ref 164), some (zi x), none, none, none, none] []
  have hT := hM.told
  have g0 : MG [] [] rB J J 0 0 0 s m m := MG.rf hM
  refine tz_aload_n (pc := 0) dX12_bindsSolved_0 rfl rfl ?_
  refine tz_cV (pc := 1) (m_many hl n _ 0 0 0 s m hM) vl_X12_96 dX12_bindsSolved_1 o_164 rfl rfl (Nat.le_of_ble_eq_true rfl) ⟨(Nat.le_of_ble_eq_true rfl), (Nat.le_of_ble_eq_true rfl)⟩ rfl rfl (Nat.le_of_ble_eq_true rfl) (Nat.le_of_ble_eq_true rfl) (fun r9 J_1 hq9 => ?_)
  obtain ⟨z_1, rfl, hz_1, rfl, rfl⟩ := hq9
  refine tz_istore_n (pc := 4) (L2 := [_, _, _, _, _, _]) dX12_bindsSolved_4 rfl (by decide) rfl ?_
  refine tz_iconst (pc := 5) dX12_bindsSolved_5 ?_
  refine tz_istore_n (pc := 6) (L2 := [_, _, _, _, _, _]) dX12_bindsSolved_6 rfl (by decide) rfl ?_
  have loop7 : ∀ (f9 : Nat) (k : Int) (m1 : Int) (d4 : Option Value) (d5 : Option Value) (J1 : zJ), ((8 - k).toNat) < f9 → (0 ≤ k ∧ k ≤ 8) → (MG [] [] rB J1 J 0 0 0 s m m1) → (J1 164 21 = 0 → ∀ v, 1 ≤ v → v < 1 + k → 0 ≤ J1 165 v ∧ J1 165 v ≤ m1) → (WKB ρ x J J1 k.toNat) → tz_At l G M_X12_bindsSolved (tb_rm 14 0 0) none (tb_ZM G 0 0 (zQ n 0 (zqv (fun J' => (∃ m', MG [] [] rB J' J 0 0 0 s m m' ∧ (J' 164 21 = 0 → ∀ v, 1 ≤ v → v ≤ 8 → 0 ≤ J' 165 v ∧ J' 165 v ≤ m')) ∧ WKB ρ x J J' 8))) (zX n 0 zN)) 0 0 n J1 7 [some (.ref 164), some (zi x), some (zi m), some (zi k), d4, d5] [] := by
    intro f9
    induction f9 with
    | zero => intro k m1 d4 d5 J1 hm9; exact absurd hm9 (Nat.not_lt_zero _)
    | succ f9 ih7 =>
      intro k m1 d4 d5 J1 hm7 hk g1 h1 wk
      have ht1 := g1.1.1.told
      have lm1 := g1.1.2
      refine tz_iload_n (pc := 7) dX12_bindsSolved_7 rfl rfl ?_
      refine tz_bipush (pc := 8) dX12_bindsSolved_8 (by decide) ?_
      refine tz_icmp_ge (pc := 10) (tgt := 110) dX12_bindsSolved_10 (by decide) (by omega) (by decide) (fun h_10 => ?_) (fun h_10 => ?_)
      · exact tz_vret (pc := 110) dX12_bindsSolved_110 rfl (Nat.le_of_ble_eq_true rfl) (Nat.le_of_ble_eq_true rfl) ⟨Nat.le_refl _, Nat.le_add_right _ _⟩ ⟨rfl, ⟨⟨m1, g1, fun q v a c => h1 q v a (by omega)⟩, by have e9 : k.toNat = 8 := (by omega); rw [e9] at wk; exact wk⟩⟩
      · refine tz_aload_n (pc := 13) dX12_bindsSolved_13 rfl rfl ?_
        refine tz_fR (pc := 14) dX12_bindsSolved_14 fl_X12_9 r_164_0 ?_
        refine tz_iconst (pc := 17) dX12_bindsSolved_17 ?_
        refine tz_iload_n (pc := 18) dX12_bindsSolved_18 rfl rfl ?_
        refine tz_iadd (pc := 19) (v := 1 + k) dX12_bindsSolved_19 rfl ?_
        refine tz_iconst (pc := 20) dX12_bindsSolved_20 ?_
        refine tz_aS (pc := 21) (z := (1 + k)) dX12_bindsSolved_21 a_165 rfl (by omega) (by decide) ?_
        refine tz_iload_n (pc := 22) dX12_bindsSolved_22 rfl rfl ?_
        refine tz_iload_n (pc := 23) dX12_bindsSolved_23 rfl rfl ?_
        refine tz_ishr (pc := 24) (v := zshr x k) dX12_bindsSolved_24 rfl ?_
        refine tz_iconst (pc := 25) dX12_bindsSolved_25 ?_
        refine tz_iand (pc := 26) (v := zand (zshr x k) 1) dX12_bindsSolved_26 rfl ?_
        refine tz_iconst (pc := 27) dX12_bindsSolved_27 ?_
        refine tz_icmp_ne (pc := 28) (tgt := 39) dX12_bindsSolved_28 (by decide) (zand_rg _ _) (by decide) (fun h_28 => ?_) (fun h_28 => ?_)
        · refine tz_iconst (pc := 39) dX12_bindsSolved_39 ?_
          refine tz_istore (pc := 40) (L2 := [_, _, _, _, _, _]) dX12_bindsSolved_40 (by decide) rfl ?_
          refine tz_iload (pc := 42) dX12_bindsSolved_42 rfl ?_
          refine tz_iconst (pc := 44) dX12_bindsSolved_44 ?_
          refine tz_icmp_eqT (pc := 45) (tgt := 104) (by decide) dX12_bindsSolved_45 (by decide) (by decide) (by decide) ?_
          refine tz_iinc (pc := 104) (z := k + 1) (L2 := [_, _, _, _, _, _]) dX12_bindsSolved_104 rfl (by omega) rfl ?_
          refine tz_goto (pc := 107) (tgt := 7) dX12_bindsSolved_107 (by decide) ?_
          exact ih7 (k + 1) _ _ _ _ (by omega) (by omega) (g1.rb (by omega)) (bs_s1 h1 (by omega) g1.1.1.told.2.1.1) (by rw [show (k + 1).toNat = k.toNat + 1 from by omega]; first | exact wkb_n wk (by omega) (by omega) (by unfold bt; omega) | exact wkb_i wk (by omega) (by omega) bt9 g1.1.1 (t := z_33) (by omega) zt8 (ei9 (by omega) (by omega)) | (exfalso; omega))
        · refine tz_aload_n (pc := 31) dX12_bindsSolved_31 rfl rfl ?_
          refine tz_iload_n (pc := 32) dX12_bindsSolved_32 rfl rfl ?_
          have g2 : MG [] [] rB (zup J1 165 (1 + k) 0) J 0 0 0 s m m1 := g1.rb (by omega)
          refine tz_cV (pc := 33) (x_there hl n _ _ (by omega) s m1 g2.1.1 (by omega)) vl_X12_186 dX12_bindsSolved_33 o_164 rfl rfl (Nat.le_of_ble_eq_true rfl) ⟨(Nat.le_of_ble_eq_true rfl), (Nat.le_of_ble_eq_true rfl)⟩ rfl rfl (Nat.le_of_ble_eq_true rfl) (Nat.le_of_ble_eq_true rfl) (fun r9 J_33 hq9 => ?_)
          obtain ⟨z_33, rfl, hz_33, rfl, hz33⟩ := hq9
          have bt9 : bt x k := by unfold bt; omega
          obtain ⟨t9, th9, te9⟩ := hbv k (by omega) (by omega) bt9
          have lm8 := g1.1.2
          have tg9 : J1 166 (0 + t9) = -1 - k := by rw [(g1.2.1 t9 th9.1 th9.2).1.1]; exact te9
          have zt9 : (0 ≤ z_33 ∧ z_33 < m) ∧ J1 166 (0 + z_33) = -1 - k := by rcases hz33 with ⟨_, q9⟩ | ⟨q8, q9⟩; exact absurd tg9 (q9 t9 th9.1 (by omega)); (have q7 : J1 166 (0 + z_33) = -1 - k := q9; have e9 := ms_vu g1.1.1 (a := t9) (b := z_33) (by omega) q8 (by omega) (tg9.trans q7.symm); exact ⟨by omega, q7⟩)
          have zt8 := zt9.2
          have zt7 : J 166 (0 + z_33) = -1 - k := by rw [← (g1.2.1 z_33 (by omega) (by omega)).1.1]; exact zt8
          have zv9 : VN 400 m z_33 := ⟨by omega, by omega⟩
          have rh9 := hρ z_33 zv9
          have rz9 := rh9.1.z
          refine tz_goto (pc := 36) (tgt := 40) dX12_bindsSolved_36 (by decide) ?_
          refine tz_istore (pc := 40) (L2 := [_, _, _, _, _, _]) dX12_bindsSolved_40 (by decide) rfl ?_
          refine tz_iload (pc := 42) dX12_bindsSolved_42 rfl ?_
          refine tz_iconst (pc := 44) dX12_bindsSolved_44 ?_
          refine tz_icmp_eq (pc := 45) (tgt := 104) dX12_bindsSolved_45 (by decide) (by omega) (by decide) (fun h_45 => ?_) (fun h_45 => ?_)
          · refine tz_iinc (pc := 104) (z := k + 1) (L2 := [_, _, _, _, _, _]) dX12_bindsSolved_104 rfl (by omega) rfl ?_
            refine tz_goto (pc := 107) (tgt := 7) dX12_bindsSolved_107 (by decide) ?_
            exact ih7 (k + 1) _ _ _ _ (by omega) (by omega) (g1.rb (by omega)) (bs_s1 h1 (by omega) g1.1.1.told.2.1.1) (by rw [show (k + 1).toNat = k.toNat + 1 from by omega]; first | exact wkb_n wk (by omega) (by omega) (by unfold bt; omega) | exact wkb_i wk (by omega) (by omega) bt9 g1.1.1 (t := z_33) (by omega) zt8 (ei9 (by omega) (by omega)) | (exfalso; omega))
          · refine tz_iload (pc := 48) dX12_bindsSolved_48 rfl ?_
            refine tz_iload_n (pc := 50) dX12_bindsSolved_50 rfl rfl ?_
            refine tz_icmp_lt (pc := 51) (tgt := 57) dX12_bindsSolved_51 (by decide) (by omega) (by omega) (fun h_51 => ?_) (fun h_51 => ?_)
            · refine tz_aload_n (pc := 57) dX12_bindsSolved_57 rfl rfl ?_
              refine tz_iload (pc := 58) dX12_bindsSolved_58 rfl ?_
              refine tz_cV (pc := 60) (x_top hl n _ _ (by omega) 400 m (hU.mg g2 ⟨rfl, rfl, rfl⟩) zv9) vl_X12_164 dX12_bindsSolved_60 o_164 rfl rfl (Nat.le_of_ble_eq_true rfl) ⟨(Nat.le_of_ble_eq_true rfl), (Nat.le_of_ble_eq_true rfl)⟩ rfl rfl (Nat.le_of_ble_eq_true rfl) (Nat.le_of_ble_eq_true rfl) (fun r9 J_60 hq9 => ?_)
              obtain ⟨z_60, rfl, hz_60, rfl, v_60, b_60, t_60⟩ := hq9
              have a_60 := v_60.1
              have tt60 : tp (J 177) z_33 = z_60 := by rw [← t_60]; show _ = tp (J1 177) z_33; rw [g1.2.2.1.2.2.2 177 rfl]
              rw [tt60] at rh9
              have ei9 : J 178 z_60 = -1 → J 179 z_60 = k → ρ z_33 = z_33 := fun q8 q9 => (ms_vu hM (a := z_33) (b := ρ z_33) (by omega) rz9 (by omega) (by rw [rh9.2.1 q8, zt7, q9])).symm
              have ne9 : (¬ J 178 z_60 = -1 ∨ ¬ J 179 z_60 = k) → ¬ ρ z_33 = z_33 := fun q8 q9 => by rcases Decidable.em (J 178 z_60 = -1) with q7 | q7; (have := rh9.2.1 q7; rw [q9] at this; omega); (have := (rh9.2.2 q7).2; rw [q9] at this; omega)
              refine tz_istore (pc := 63) (L2 := [_, _, _, _, _, _]) dX12_bindsSolved_63 (by decide) rfl ?_
              refine tz_aload_n (pc := 65) dX12_bindsSolved_65 rfl rfl ?_
              refine tz_fR (pc := 66) dX12_bindsSolved_66 fl_X12_53 r_164_26 ?_
              refine tz_iload (pc := 69) dX12_bindsSolved_69 rfl ?_
              refine tz_aL (pc := 71) (z := z_60) (v := (J 178 z_60)) dX12_bindsSolved_71 a_178 rfl (by omega) (Eq.trans (congrFun (g1.2.2.1.2.2.2 178 rfl) z_60) rfl) (fun r_71 => ?_)
              refine tz_iconst (pc := 72) dX12_bindsSolved_72 ?_
              refine tz_icmp_ne (pc := 73) (tgt := 87) dX12_bindsSolved_73 (by decide) (by omega) (by decide) (fun h_73 => ?_) (fun h_73 => ?_)
              · refine tz_aload_n (pc := 87) dX12_bindsSolved_87 rfl rfl ?_
                refine tz_fR (pc := 88) dX12_bindsSolved_88 fl_X12_9 r_164_0 ?_
                refine tz_iconst (pc := 91) dX12_bindsSolved_91 ?_
                refine tz_iload_n (pc := 92) dX12_bindsSolved_92 rfl rfl ?_
                refine tz_iadd (pc := 93) (v := 1 + k) dX12_bindsSolved_93 rfl ?_
                refine tz_iconst (pc := 94) dX12_bindsSolved_94 ?_
                refine tz_aload_n (pc := 95) dX12_bindsSolved_95 rfl rfl ?_
                refine tz_iload (pc := 96) dX12_bindsSolved_96 rfl ?_
                refine tz_iconst (pc := 98) dX12_bindsSolved_98 ?_
                have lm := g1.1.2
                have nr9 := ne9 (by omega)
                refine tz_cV (pc := 99) (x_solved hl n _ _ _ (by omega) (by decide) s m1 m ρ g2.1.1 ((g2.2.2.1.2.2.1 9 (by decide)).trans hs) (hU.mg g2 ⟨rfl, rfl, rfl⟩) lm (by omega) (by decide) (hρ.mg (Int.le_refl _) g2)) vl_X12_183 dX12_bindsSolved_99 o_164 rfl rfl (Nat.le_of_ble_eq_true rfl) ⟨(Nat.le_of_ble_eq_true rfl), (Nat.le_of_ble_eq_true rfl)⟩ rfl rfl (Nat.le_of_ble_eq_true rfl) (Nat.le_of_ble_eq_true rfl) (fun r9 J_99 hq9 => ?_)
                obtain ⟨z_99, rfl, hz_99, m_99, g_99, h_99, x_99⟩ := hq9
                rw [show (7 - 1 : Int).toNat = 6 from rfl] at x_99
                refine tz_iadd (pc := 102) (v := 1 + z_99) dX12_bindsSolved_102 rfl ?_
                refine tz_tw ?_
                have rw_103 := zw_rg (1 + z_99)
                refine tz_aS (pc := 103) (z := (1 + k)) dX12_bindsSolved_103 a_165 rfl (by omega) (zw_rg _) ?_
                refine tz_iinc (pc := 104) (z := k + 1) (L2 := [_, _, _, _, _, _]) dX12_bindsSolved_104 rfl (by omega) rfl ?_
                refine tz_goto (pc := 107) (tgt := 7) dX12_bindsSolved_107 (by decide) ?_
                have q9 := g1.tr9 g2 g_99
                have l9 := g_99.1.2
                have t9 := g_99.1.1.told
                exact ih7 (k + 1) _ _ _ _ (by omega) (by omega) (q9.rb (by omega)) (bs_s2 h1 g_99 h_99 (by omega)) (by rw [show (k + 1).toNat = k.toNat + 1 from by omega]; exact wkb_g wk (by omega) (by omega) bt9 g1.1.1 (by omega) zt8 nr9 x_99 g_99.2.2.2 (fun q8 => by have := h_99 q8; omega))
              · refine tz_aload_n (pc := 76) dX12_bindsSolved_76 rfl rfl ?_
                refine tz_fR (pc := 77) dX12_bindsSolved_77 fl_X12_56 r_164_27 ?_
                refine tz_iload (pc := 80) dX12_bindsSolved_80 rfl ?_
                refine tz_aL (pc := 82) (z := z_60) (v := (J 179 z_60)) dX12_bindsSolved_82 a_179 rfl (by omega) (Eq.trans (congrFun (g1.2.2.1.2.2.2 179 rfl) z_60) rfl) (fun r_82 => ?_)
                refine tz_iload_n (pc := 83) dX12_bindsSolved_83 rfl rfl ?_
                refine tz_icmp_eq (pc := 84) (tgt := 104) dX12_bindsSolved_84 (by decide) (by omega) (by omega) (fun h_84 => ?_) (fun h_84 => ?_)
                · refine tz_iinc (pc := 104) (z := k + 1) (L2 := [_, _, _, _, _, _]) dX12_bindsSolved_104 rfl (by omega) rfl ?_
                  refine tz_goto (pc := 107) (tgt := 7) dX12_bindsSolved_107 (by decide) ?_
                  exact ih7 (k + 1) _ _ _ _ (by omega) (by omega) (g1.rb (by omega)) (bs_s1 h1 (by omega) g1.1.1.told.2.1.1) (by rw [show (k + 1).toNat = k.toNat + 1 from by omega]; first | exact wkb_n wk (by omega) (by omega) (by unfold bt; omega) | exact wkb_i wk (by omega) (by omega) bt9 g1.1.1 (t := z_33) (by omega) zt8 (ei9 (by omega) (by omega)) | (exfalso; omega))
                · refine tz_aload_n (pc := 87) dX12_bindsSolved_87 rfl rfl ?_
                  refine tz_fR (pc := 88) dX12_bindsSolved_88 fl_X12_9 r_164_0 ?_
                  refine tz_iconst (pc := 91) dX12_bindsSolved_91 ?_
                  refine tz_iload_n (pc := 92) dX12_bindsSolved_92 rfl rfl ?_
                  refine tz_iadd (pc := 93) (v := 1 + k) dX12_bindsSolved_93 rfl ?_
                  refine tz_iconst (pc := 94) dX12_bindsSolved_94 ?_
                  refine tz_aload_n (pc := 95) dX12_bindsSolved_95 rfl rfl ?_
                  refine tz_iload (pc := 96) dX12_bindsSolved_96 rfl ?_
                  refine tz_iconst (pc := 98) dX12_bindsSolved_98 ?_
                  have lm := g1.1.2
                  have nr9 := ne9 (by omega)
                  refine tz_cV (pc := 99) (x_solved hl n _ _ _ (by omega) (by decide) s m1 m ρ g2.1.1 ((g2.2.2.1.2.2.1 9 (by decide)).trans hs) (hU.mg g2 ⟨rfl, rfl, rfl⟩) lm (by omega) (by decide) (hρ.mg (Int.le_refl _) g2)) vl_X12_183 dX12_bindsSolved_99 o_164 rfl rfl (Nat.le_of_ble_eq_true rfl) ⟨(Nat.le_of_ble_eq_true rfl), (Nat.le_of_ble_eq_true rfl)⟩ rfl rfl (Nat.le_of_ble_eq_true rfl) (Nat.le_of_ble_eq_true rfl) (fun r9 J_99 hq9 => ?_)
                  obtain ⟨z_99, rfl, hz_99, m_99, g_99, h_99, x_99⟩ := hq9
                  rw [show (7 - 1 : Int).toNat = 6 from rfl] at x_99
                  refine tz_iadd (pc := 102) (v := 1 + z_99) dX12_bindsSolved_102 rfl ?_
                  refine tz_tw ?_
                  have rw_103 := zw_rg (1 + z_99)
                  refine tz_aS (pc := 103) (z := (1 + k)) dX12_bindsSolved_103 a_165 rfl (by omega) (zw_rg _) ?_
                  refine tz_iinc (pc := 104) (z := k + 1) (L2 := [_, _, _, _, _, _]) dX12_bindsSolved_104 rfl (by omega) rfl ?_
                  refine tz_goto (pc := 107) (tgt := 7) dX12_bindsSolved_107 (by decide) ?_
                  have q9 := g1.tr9 g2 g_99
                  have l9 := g_99.1.2
                  have t9 := g_99.1.1.told
                  exact ih7 (k + 1) _ _ _ _ (by omega) (by omega) (q9.rb (by omega)) (bs_s2 h1 g_99 h_99 (by omega)) (by rw [show (k + 1).toNat = k.toNat + 1 from by omega]; exact wkb_g wk (by omega) (by omega) bt9 g1.1.1 (by omega) zt8 nr9 x_99 g_99.2.2.2 (fun q8 => by have := h_99 q8; omega))
            · refine tz_goto (pc := 54) (tgt := 104) dX12_bindsSolved_54 (by decide) ?_
              refine tz_iinc (pc := 104) (z := k + 1) (L2 := [_, _, _, _, _, _]) dX12_bindsSolved_104 rfl (by omega) rfl ?_
              refine tz_goto (pc := 107) (tgt := 7) dX12_bindsSolved_107 (by decide) ?_
              exact ih7 (k + 1) _ _ _ _ (by omega) (by omega) (g1.rb (by omega)) (bs_s1 h1 (by omega) g1.1.1.told.2.1.1) (by rw [show (k + 1).toNat = k.toNat + 1 from by omega]; first | exact wkb_n wk (by omega) (by omega) (by unfold bt; omega) | exact wkb_i wk (by omega) (by omega) bt9 g1.1.1 (t := z_33) (by omega) zt8 (ei9 (by omega) (by omega)) | (exfalso; omega))
  exact loop7 _ 0 m none none _ (Nat.lt_succ_self _) (by omega) g0 (fun _ v a c => by omega) ⟨fun _ => rfl, fun q9 => q9⟩

