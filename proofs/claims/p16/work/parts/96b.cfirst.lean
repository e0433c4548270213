/-! ===== the first rule that fits ===== -/
/-- no rule before the i-th fits t -/
def NOR (S : zJ) (t i : Int) : Prop := ∀ q, 0 ≤ q → q < i → (omt S (S 165 (10 + 2 * q)) t).1 = false
/-- the first rule that fits t is z, and binds as σ says; or none is -/
def FRO (S : zJ) (t z : Int) (σ : Int → Int) : Prop := (z = -1 ∧ NOR S t (S 165 9)) ∨ ((0 ≤ z ∧ z < S 165 9) ∧ (omt S (S 165 (10 + 2 * z)) t).1 = true ∧ sgA σ (omt S (S 165 (10 + 2 * z)) t).2 ∧ NOR S t z)
theorem NOR.s {S : zJ} {t i : Int} (h : NOR S t i) (e : (omt S (S 165 (10 + 2 * i)) t).1 = false) : NOR S t (i + 1) := fun q a b => by
  by_cases w : q = i
  · rw [w]; exact e
  · exact h q a (by omega)
theorem FRO.u {S : zJ} {t z z' : Int} {σ σ' : Int → Int} (h : FRO S t z σ) (g : FRO S t z' σ') : z = z' ∧ (0 ≤ z → sgA σ σ') := by
  rcases h with ⟨a, b⟩ | ⟨a, b, c, d⟩
  · rcases g with ⟨a', b'⟩ | ⟨a', b', c', d'⟩
    · exact ⟨by omega, fun q => by omega⟩
    · have := b z' a'.1 a'.2
      rw [b'] at this
      cases this
  · rcases g with ⟨a', b'⟩ | ⟨a', b', c', d'⟩
    · have := b' z a.1 a.2
      rw [b] at this
      cases this
    · have e : z = z' := by
        by_cases l : z < z'
        · have := d' z a.1 l
          rw [b] at this
          cases this
        · by_cases l' : z' < z
          · have := d z' a'.1 l'
            rw [b'] at this
            cases this
          · omega
      subst e
      exact ⟨rfl, fun _ k p q => (c k p q).trans (c' k p q).symm⟩
set_option maxHeartbeats 4000000 in
set_option maxRecDepth 100000 in
theorem x_firstRule {l : Launch} {G : tb_G} (hl : l.stackTraces = false) (n : Nat) (J : zJ) (t : Int) (hr_t : -2147483648 ≤ t ∧ t < 2147483648) (m : Int) (S : zJ) (C : CT J m) (hm : J 6 12 = m) (hL : LI (J 19) m) (ht : 0 ≤ t ∧ t < m) (E : A0 J S) (W : RW (J 19) (S 165)) : tz_Ok l G M_X7_firstRule 8 0 0 [.ref 18, .ref 139, zi t] n J (zqi (fun z J' => zOf (zbut [140]) J' J ∧ (z = -1 ∨ ((0 ≤ z ∧ z < J 19 4) ∧ gOK (J' 140) m)) ∧ FRO S t z (J' 140))) zN := by
  refine tz_Ok.of hl (by decide +kernel) rfl (tb_c1 rfl) (Nat.le_of_ble_eq_true rfl) ?_
  show tz_At l G M_X7_firstRule (tb_rm 8 0 0) none (tb_ZM G 0 0 (zQ n 0 (zqi (fun z J' => zOf (zbut [140]) J' J ∧ (z = -1 ∨ ((0 ≤ z ∧ z < J 19 4) ∧ gOK (J' 140) m)) ∧ FRO S t z (J' 140)))) (zX n 0 zN)) 0 0 n J 0 [some (.ref 18), some (.ref 139), some (zi t), none] []
  have hb := C.told
  have h4 := hL.1.2.1
  have w4 := W.2.1.1
  refine tz_iconst (pc := 0) dX7_firstRule_0 ?_
  refine tz_istore_n (pc := 1) (L2 := [_, _, _, _]) dX7_firstRule_1 rfl (by decide) rfl ?_
  have loop2 : ∀ (f9 : Nat) (i : Int) (J1 : zJ), ((8 - i).toNat) < f9 → (0 ≤ i ∧ i ≤ J 19 4) → (zOf (zbut [140]) J1 J) → (NOR S t i) → tz_At l G M_X7_firstRule (tb_rm 8 0 0) none (tb_ZM G 0 0 (zQ n 0 (zqi (fun z J' => zOf (zbut [140]) J' J ∧ (z = -1 ∨ ((0 ≤ z ∧ z < J 19 4) ∧ gOK (J' 140) m)) ∧ FRO S t z (J' 140)))) (zX n 0 zN)) 0 0 n J1 2 [some (.ref 18), some (.ref 139), some (zi t), some (zi i)] [] := by
    intro f9
    induction f9 with
    | zero => intro i J1 hm9; exact absurd hm9 (Nat.not_lt_zero _)
    | succ f9 ih2 =>
      intro i J1 hm2 hi f1 hn
      have e9 := hL.2.2.1 i
      refine tz_iload_n (pc := 2) dX7_firstRule_2 rfl rfl ?_
      refine tz_aload_n (pc := 3) dX7_firstRule_3 rfl rfl ?_
      refine tz_fR (pc := 4) dX7_firstRule_4 fl_X7_60 r_18_0 ?_
      refine tz_iconst (pc := 7) dX7_firstRule_7 ?_
      refine tz_aL (pc := 8) (z := 4) (v := (J 19 4)) dX7_firstRule_8 a_19 rfl (by decide) (Eq.trans (congrFun (f1 19 rfl) 4) rfl) (fun r_8 => ?_)
      refine tz_icmp_ge (pc := 9) (tgt := 37) dX7_firstRule_9 (by decide) (by omega) (by omega) (fun h_9 => ?_) (fun h_9 => ?_)
      · refine tz_iconst (pc := 37) dX7_firstRule_37 ?_
        exact tz_iret (pc := 38) (z := (-1)) dX7_firstRule_38 rfl (Nat.le_of_ble_eq_true rfl) (Nat.le_of_ble_eq_true rfl) ⟨Nat.le_refl _, Nat.le_add_right _ _⟩ ⟨_, rfl, (by decide), (by first | exact ⟨a2.tr f1, Or.inr ⟨by omega, a3⟩, Or.inr ⟨by omega, by rw [← w9]; exact mt9.1.symm.trans (qz.resolve_right (fun k => by have := k.2; omega)).1, by rw [← w9, q1.2]; exact mt9.2, hn⟩⟩ | exact ⟨f1, Or.inl rfl, Or.inl ⟨rfl, fun q a b => hn q a (by omega)⟩⟩)⟩
      · refine tz_aload_n (pc := 12) dX7_firstRule_12 rfl rfl ?_
        refine tz_aload_n (pc := 13) dX7_firstRule_13 rfl rfl ?_
        refine tz_fR (pc := 14) dX7_firstRule_14 fl_X7_60 r_18_0 ?_
        refine tz_bipush (pc := 17) dX7_firstRule_17 (by decide) ?_
        refine tz_iload_n (pc := 19) dX7_firstRule_19 rfl rfl ?_
        refine tz_iadd (pc := 20) (v := 15 + i) dX7_firstRule_20 rfl ?_
        refine tz_aL (pc := 21) (z := (15 + i)) (v := (J 19 (15 + i))) dX7_firstRule_21 a_19 rfl (by omega) (Eq.trans (congrFun (f1 19 rfl) (15 + i)) rfl) (fun r_21 => ?_)
        refine tz_iload_n (pc := 22) dX7_firstRule_22 rfl rfl ?_
        refine tz_cV (pc := 23) (x_matches hl n _ _ _ (by omega) (by omega) m (C.of (fun c hc => f1 c (by simp [zbut]; omega))) (by omega) ht) vl_X7_96 dX7_firstRule_23 o_139 rfl rfl (Nat.le_of_ble_eq_true rfl) ⟨(Nat.le_of_ble_eq_true rfl), (Nat.le_of_ble_eq_true rfl)⟩ rfl rfl (Nat.le_of_ble_eq_true rfl) (Nat.le_of_ble_eq_true rfl) (fun r9 J_23 hq9 => ?_)
        obtain ⟨zc, rfl, hz_23, ⟨σ9, qs, q1⟩, a2, a3⟩ := hq9
        have E1 : A0 J1 S := E.f (fun c hc => f1 c (by simp [zbut]; omega))
        have w9 := (W.2.1.2 i (by omega) (by omega)).1
        have mt9 := E1.mt (σ' := fun _ => -1) (C.of (fun c hc => f1 c (by simp [zbut]; omega))) (by rw [f1 6 rfl]; exact hm) (p := J 19 (15 + i)) (t := t) (by omega) ht qs
        have qz := q1.1
        refine tz_if_eq (pc := 26) (tgt := 31) dX7_firstRule_26 (by decide) (by omega) (fun h_26 => ?_) (fun h_26 => ?_)
        · refine tz_iinc (pc := 31) (z := i + 1) (L2 := [_, _, _, _]) dX7_firstRule_31 rfl (by omega) rfl ?_
          refine tz_goto (pc := 34) (tgt := 2) dX7_firstRule_34 (by decide) ?_
          exact ih2 (i + 1) _ (by omega) (by omega) (a2.tr f1) (hn.s (by rw [← w9]; exact mt9.1.symm.trans (qz.resolve_left (fun k => by have := k.2; omega)).1))
        · refine tz_iload_n (pc := 29) dX7_firstRule_29 rfl rfl ?_
          exact tz_iret (pc := 30) (z := i) dX7_firstRule_30 rfl (Nat.le_of_ble_eq_true rfl) (Nat.le_of_ble_eq_true rfl) ⟨Nat.le_refl _, Nat.le_add_right _ _⟩ ⟨_, rfl, (by omega), (by first | exact ⟨a2.tr f1, Or.inr ⟨by omega, a3⟩, Or.inr ⟨by omega, by rw [← w9]; exact mt9.1.symm.trans (qz.resolve_right (fun k => by have := k.2; omega)).1, by rw [← w9, q1.2]; exact mt9.2, hn⟩⟩ | exact ⟨f1, Or.inl rfl, Or.inl ⟨rfl, fun q a b => hn q a (by omega)⟩⟩)⟩
  exact loop2 _ 0 _ (Nat.lt_succ_self _) (by omega) zOf.rf (fun q a b => by omega)

