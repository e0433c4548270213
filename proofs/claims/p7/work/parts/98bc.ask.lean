/-! ===== the reference's table read through the class's ===== -/
theorem ma_all {J : zJ} {m : Int} (E : A0 J (tbz J)) (C : CT J m) (hm : J 6 12 = m) : (∀ t, 0 ≤ t → t < m → J 166 (0 + t) = J 7 t ∧ mar J 0 0 t = J 8 t ∧ msz J 0 0 t = J 10 t) ∧ ∀ t, 0 ≤ t → t < m → ∀ i, 0 ≤ i → i < J 8 t → mag J 0 t i = cag J t i := by
  have T := C.told
  have ts := C.1.1.1
  obtain ⟨⟨e1, e0'⟩, ⟨e6', E2', E3'⟩⟩ := E
  have e1' : J 1 3 = J 164 9 := e1
  have e6 : J 6 12 = J 165 0 := e6'
  have e0 : ∀ k, 0 ≤ k → k < J 164 9 → J 3 k = J 170 (0 + k) := fun k a b => by
    have q := (e0' k a b).2.1
    rw [show tbz J 170 (0 + k) = J 170 (0 + k) from if_pos ⟨by omega, by omega⟩] at q
    exact q
  have h6 : ∀ t, 0 ≤ t → t < m → J 166 (0 + t) = J 7 t := fun t a c => by
    have q := (E2' t a (show t < J 165 0 by omega)).1
    rw [show tbz J 166 (0 + t) = J 166 (0 + t) from if_pos ⟨by omega, by omega⟩] at q
    exact q.symm
  have E3 : ∀ t i, 0 ≤ t → t < m → 0 ≤ i → i < J 8 t → J 9 (t * 3 + i) = J 167 (3 * (0 + t) + i) := fun t i a c x y => by
    have ar := (C.ar a c).1
    have q := E3' t i a (show t < J 165 0 by omega) x y
    rw [show tbz J 167 (3 * (0 + t) + i) = J 167 (3 * (0 + t) + i) from if_pos ⟨by omega, by omega⟩] at q
    exact q
  have ha : ∀ t, 0 ≤ t → t < m → mar J 0 0 t = J 8 t := fun t a c => by
    have h7 := (C.ar a c).2.2
    unfold mar
    rw [h6 t a c, (C.2.1 t a c).1.1]
    exact arh_cg (fun q => (e0 _ q (by omega)).symm)
  have hg : ∀ t, 0 ≤ t → t < m → ∀ i, 0 ≤ i → i < J 8 t → mag J 0 t i = cag J t i := fun t a c i x y => (E3 t i a c x y).symm
  have td' : TD m (mar J 0 0) (mag J 0) (J 12) := fun t x y => by
    obtain ⟨a, b, c⟩ := C.td t x y
    refine ⟨by rw [ha t x y]; exact a, b, fun i p q => ?_⟩
    rw [ha t x y] at q
    rw [hg t x y i p q]
    exact c i p q
  have hz : ∀ t, 0 ≤ t → t < m → msz J 0 0 t = J 10 t := fun t a c => by
    have h12 := (C.td t a c).2.1
    rw [C.sz ⟨a, c⟩]
    exact (tsz_sS td' 6 t ⟨a, c⟩ (by omega)).trans (sV_cg C.td (fun _ _ _ => rfl) ha hg 6 t ⟨a, c⟩)
  exact ⟨fun t a b => ⟨h6 t a b, ha t a b, hz t a b⟩, hg⟩
theorem mar_z {J' J : zJ} (f : MZ J' J) : mar J' 0 0 = mar J 0 0 := by
  funext t
  unfold mar
  rw [f.1 166 rfl, f.1 170 rfl]
theorem mag_z {J' J : zJ} (f : MZ J' J) : mag J' 0 = mag J 0 := by
  funext t i
  unfold mag
  rw [f.1 167 rfl]
theorem msz_z {J' J : zJ} (f : MZ J' J) : msz J' 0 0 = msz J 0 0 := by
  funext t
  unfold msz
  rw [mar_z f, mag_z f]
theorem mtb_hi {J1 J : zJ} (f : ∀ c, 164 ≤ c → c < 183 → J1 c = J c) : mar J1 0 0 = mar J 0 0 ∧ mag J1 0 = mag J 0 ∧ msz J1 0 0 = msz J 0 0 := by
  have a : mar J1 0 0 = mar J 0 0 := by
    funext t
    unfold mar
    rw [f 166 (by decide) (by decide), f 170 (by decide) (by decide)]
  have b : mag J1 0 = mag J 0 := by
    funext t i
    unfold mag
    rw [f 167 (by decide) (by decide)]
  refine ⟨a, b, ?_⟩
  funext t
  unfold msz
  rw [a, b]
/-! ===== term: parts, users, forms that no rule changes ===== -/
def SUB (ar : Int → Int) (ag : Int → Int → Int) (k t : Int) : Prop := ∀ P : Int → Prop, P t → (∀ x i, P x → 0 ≤ i → i < ar x → P (ag x i)) → P k
theorem SUB.rf {ar : Int → Int} {ag : Int → Int → Int} {t : Int} : SUB ar ag t t := fun P h _ => h
theorem SUB.st {ar : Int → Int} {ag : Int → Int → Int} {k t i : Int} (h : SUB ar ag k t) (hi : 0 ≤ i) (hi2 : i < ar k) : SUB ar ag (ag k i) t := fun P a b => b k i (h P a b) hi hi2
theorem SUB.tr {ar : Int → Int} {ag : Int → Int → Int} {k t u : Int} (h : SUB ar ag k t) (g : SUB ar ag t u) : SUB ar ag k u := h (fun x => SUB ar ag x u) g (fun x i a b c => a.st b c)
theorem SUB.iff {ar : Int → Int} {ag : Int → Int → Int} {k t : Int} : SUB ar ag k t ↔ k = t ∨ ∃ i, (0 ≤ i ∧ i < ar t) ∧ SUB ar ag k (ag t i) := by
  constructor
  · intro h
    refine h (fun x => x = t ∨ ∃ i, (0 ≤ i ∧ i < ar t) ∧ SUB ar ag x (ag t i)) (Or.inl rfl) (fun x i w a b => ?_)
    rcases w with w | ⟨j, hj, w⟩
    · subst w
      exact Or.inr ⟨i, ⟨a, b⟩, SUB.rf⟩
    · exact Or.inr ⟨j, hj, w.st a b⟩
  · intro h
    rcases h with h | ⟨i, hi, w⟩
    · rw [h]
      exact SUB.rf
    · exact w.tr (SUB.rf.st hi.1 hi.2)
theorem SUB.rg {ar : Int → Int} {ag : Int → Int → Int} {k t m : Int} (ha : ∀ x i, 0 ≤ x → x < m → 0 ≤ i → i < ar x → 0 ≤ ag x i ∧ ag x i < x) (ht : 0 ≤ t ∧ t < m) (h : SUB ar ag k t) : 0 ≤ k ∧ k ≤ t := h (fun k => 0 ≤ k ∧ k ≤ t) ⟨ht.1, Int.le_refl _⟩ (fun x i w a b => by
  obtain ⟨w1, w2⟩ := w
  have := ha x i w1 (by omega) a b
  exact ⟨by omega, by omega⟩)
theorem SUB.cg {ar ar' : Int → Int} {ag ag' : Int → Int → Int} {k t m : Int} (ha : ∀ x i, 0 ≤ x → x < m → 0 ≤ i → i < ar x → 0 ≤ ag x i ∧ ag x i < x) (e8 : ∀ x, 0 ≤ x → x < m → ar' x = ar x) (eg : ∀ x, 0 ≤ x → x < m → ∀ i, 0 ≤ i → i < ar x → ag' x i = ag x i) (ht : 0 ≤ t ∧ t < m) : SUB ar ag k t ↔ SUB ar' ag' k t := by
  constructor
  · intro h
    refine (h (fun k => (0 ≤ k ∧ k ≤ t) ∧ SUB ar' ag' k t) ⟨⟨ht.1, Int.le_refl _⟩, SUB.rf⟩ (fun x i w a b => ?_)).2
    obtain ⟨⟨w0, w1⟩, w2⟩ := w
    have q := ha x i w0 (by omega) a b
    refine ⟨⟨by omega, by omega⟩, ?_⟩
    rw [← eg x w0 (by omega) i a b]
    exact w2.st a (by rw [e8 x w0 (by omega)]; exact b)
  · intro h
    refine (h (fun k => (0 ≤ k ∧ k ≤ t) ∧ SUB ar ag k t) ⟨⟨ht.1, Int.le_refl _⟩, SUB.rf⟩ (fun x i w a b => ?_)).2
    obtain ⟨⟨w0, w1⟩, w2⟩ := w
    rw [e8 x w0 (by omega)] at b
    have q := ha x i w0 (by omega) a b
    rw [eg x w0 (by omega) i a b]
    exact ⟨⟨by omega, by omega⟩, w2.st a b⟩
noncomputable def ind (p : Prop) : Int := @ite Int p (Classical.propDecidable p) 1 0
theorem ind_y {p : Prop} (h : p) : ind p = 1 := if_pos h
theorem ind_n {p : Prop} (h : ¬ p) : ind p = 0 := if_neg h
theorem ind_cg {p q : Prop} (h : p ↔ q) : ind p = ind q := by rw [propext h]
noncomputable def sumI (p : Int → Prop) : Nat → Int
  | 0 => 0
  | n + 1 => sumI p n + ind (p n)
theorem sumI_cg {p q : Int → Prop} : ∀ n : Nat, (∀ k : Int, 0 ≤ k → k < n → (p k ↔ q k)) → sumI p n = sumI q n
  | 0, _ => rfl
  | n + 1, h => by
    show sumI p n + ind (p n) = sumI q n + ind (q n)
    rw [sumI_cg n (fun k a b => h k a (by omega)), ind_cg (h n (by omega) (by omega))]
theorem sumI_up {p : Int → Prop} {a : Nat} : ∀ b : Nat, (∀ k : Int, (a : Int) ≤ k → k < ((a + b : Nat) : Int) → ¬ p k) → sumI p (a + b) = sumI p a
  | 0, _ => rfl
  | b + 1, h => by
    show sumI p (a + b) + ind (p ((a + b : Nat) : Int)) = sumI p a
    rw [sumI_up b (fun k x y => h k x (by omega)), ind_n (h ((a + b : Nat) : Int) (by omega) (by omega))]
    omega
theorem sumI_s {p : Int → Prop} {i : Int} (hi : 0 ≤ i) : sumI p (i + 1).toNat = sumI p i.toNat + ind (p i) := by
  rw [show (i + 1).toNat = i.toNat + 1 from by omega]
  show sumI p i.toNat + ind (p (i.toNat : Int)) = _
  rw [Int.toNat_of_nonneg hi]
theorem or_l {z : Int} {a : Prop} (h : (z = 1 ∧ a) ∨ (z = 0 ∧ ¬ a)) (k : ¬ z = 0) : a := h.elim (fun w => w.2) (fun w => absurd w.1 k)
theorem or_r {z : Int} {a : Prop} (h : (z = 1 ∧ a) ∨ (z = 0 ∧ ¬ a)) (k : z = 0) : ¬ a := h.elim (fun w => absurd (w.1.symm.trans k) (by decide)) (fun w => w.2)
theorem or_i {z : Int} {a : Prop} (h : (z = 1 ∧ a) ∨ (z = 0 ∧ ¬ a)) : z = ind a := h.elim (fun w => w.1.trans (ind_y w.2).symm) (fun w => w.1.trans (ind_n w.2).symm)
theorem CT.rga {J : zJ} {m : Int} (C : CT J m) : ∀ x i, 0 ≤ x → x < m → 0 ≤ i → i < J 8 x → 0 ≤ cag J x i ∧ cag J x i < x := fun x i a b c d => (C.arg a b c d).1
theorem mk_end {J J1 : zJ} {m t q : Int} (C : CT J m) (ht : 0 ≤ t ∧ t < m) (h1 : J1 17 q = 0 ∨ J1 17 q = 1) (h5 : J1 17 q = 1 → SUB (J 8) (cag J) q t) (h6 : J1 17 t = 1) (h7 : ∀ x, -1 < x → x ≤ t → J1 17 x = 1 → ∀ i, 0 ≤ i → i < J 8 x → J1 17 (J 9 (x * 3 + i)) = 1) : (J1 17 q = 1 ∧ SUB (J 8) (cag J) q t) ∨ (J1 17 q = 0 ∧ ¬ SUB (J 8) (cag J) q t) := by
  rcases h1 with e | e
  · refine Or.inr ⟨e, fun w => ?_⟩
    have z := (w (fun x => (0 ≤ x ∧ x ≤ t) ∧ J1 17 x = 1) ⟨⟨ht.1, Int.le_refl _⟩, h6⟩ (fun x i v a b => by
      obtain ⟨⟨v0, v1⟩, v2⟩ := v
      have g := (C.arg (t := x) (i := i) v0 (by omega) a b).1
      exact ⟨⟨g.1, by show J 9 (x * 3 + i) ≤ t; omega⟩, h7 x (by omega) v1 v2 i a b⟩)).2
    omega
  · exact Or.inl ⟨e, h5 e⟩
theorem zup_1 {J : zJ} {c : Nat} {a q : Int} (h : J c q = 1) : zup J c a 1 c q = 1 := by
  by_cases e : q = a
  · rw [e]; exact zup_at
  · rw [zup_ne e]; exact h
set_option maxHeartbeats 4000000 in
set_option maxRecDepth 100000 in
theorem e_mark {l : Launch} {G : tb_G} (hl : l.stackTraces = false) (n : Nat) (J : zJ) (t : Int) (hr_t : -2147483648 ≤ t ∧ t < 2147483648) (m : Int) (C : CT J m) (h0 : 0 ≤ t ∧ t < m) : tz_Ok l G M_X9_markParts 1 0 0 [.ref 6, zi t] n J (zqv (fun J' => zOf (zbut [17]) J' J ∧ ∀ q, 0 ≤ q → q < 401 → (J' 17 q = 1 ∧ SUB (J 8) (cag J) q t) ∨ (J' 17 q = 0 ∧ ¬ SUB (J 8) (cag J) q t))) zN := by
  refine tz_Ok.of hl (by decide +kernel) rfl (tb_c1 rfl) (Nat.le_of_ble_eq_true rfl) ?_
  show tz_At l G M_X9_markParts (tb_rm 1 0 0) none (tb_ZM G 0 0 (zQ n 0 (zqv (fun J' => zOf (zbut [17]) J' J ∧ ∀ q, 0 ≤ q → q < 401 → (J' 17 q = 1 ∧ SUB (J 8) (cag J) q t) ∨ (J' 17 q = 0 ∧ ¬ SUB (J 8) (cag J) q t)))) (zX n 0 zN)) 0 0 n J 0 [some (.ref 6), some (zi t), none, none] []
  have ht := C.told
  refine tz_aload_n (pc := 0) dX9_markParts_0 rfl rfl ?_
  refine tz_fR (pc := 1) dX9_markParts_1 fl_X9_42 r_6_11 ?_
  refine tz_iconst (pc := 4) dX9_markParts_4 ?_
  refine tz_cS (pc := 5) (zJ_fill hl n _ 17 _ 401 0 (by decide) a_17 rfl) sl_X9_53 dX9_markParts_5 rfl rfl (Nat.le_of_ble_eq_true rfl) ⟨(Nat.le_of_ble_eq_true rfl), (Nat.le_of_ble_eq_true rfl)⟩ rfl rfl (Nat.le_of_ble_eq_true rfl) (Nat.le_of_ble_eq_true rfl) (fun r9 J_5 hq9 => ?_)
  obtain ⟨rfl, rfl⟩ := hq9
  refine tz_aload_n (pc := 8) dX9_markParts_8 rfl rfl ?_
  refine tz_fR (pc := 9) dX9_markParts_9 fl_X9_42 r_6_11 ?_
  refine tz_iload_n (pc := 12) dX9_markParts_12 rfl rfl ?_
  refine tz_iconst (pc := 13) dX9_markParts_13 ?_
  refine tz_aS (pc := 14) (z := t) dX9_markParts_14 a_17 rfl (by omega) (by decide) ?_
  refine tz_iload_n (pc := 15) dX9_markParts_15 rfl rfl ?_
  refine tz_istore_n (pc := 16) (L2 := [_, _, _, _]) dX9_markParts_16 rfl (by decide) rfl ?_
  have loop17 : ∀ (f9 : Nat) (k : Int) (d3 : Option Value) (J1 : zJ), ((k + 1).toNat) < f9 → (-1 ≤ k ∧ k ≤ t) → (zOf (zbut [17]) J1 J) → (∀ q, 0 ≤ q → q < 401 → J1 17 q = 0 ∨ J1 17 q = 1) → (∀ q, 0 ≤ q → q < 401 → J1 17 q = 1 → SUB (J 8) (cag J) q t) → (J1 17 t = 1) → (∀ x, k < x → x ≤ t → J1 17 x = 1 → ∀ j, 0 ≤ j → j < J 8 x → J1 17 (J 9 (x * 3 + j)) = 1) → tz_At l G M_X9_markParts (tb_rm 1 0 0) none (tb_ZM G 0 0 (zQ n 0 (zqv (fun J' => zOf (zbut [17]) J' J ∧ ∀ q, 0 ≤ q → q < 401 → (J' 17 q = 1 ∧ SUB (J 8) (cag J) q t) ∨ (J' 17 q = 0 ∧ ¬ SUB (J 8) (cag J) q t)))) (zX n 0 zN)) 0 0 n J1 17 [some (.ref 6), some (zi t), some (zi k), d3] [] := by
    intro f9
    induction f9 with
    | zero => intro k d3 J1 hm9; exact absurd hm9 (Nat.not_lt_zero _)
    | succ f9 ih17 =>
      intro k d3 J1 hm17 hk fr h1 h5 h6 h7
      refine tz_iload_n (pc := 17) dX9_markParts_17 rfl rfl ?_
      refine tz_if_lt (pc := 18) (tgt := 67) dX9_markParts_18 (by decide) (by omega) (fun h_18 => ?_) (fun h_18 => ?_)
      · exact tz_vret (pc := 67) dX9_markParts_67 rfl (Nat.le_of_ble_eq_true rfl) (Nat.le_of_ble_eq_true rfl) ⟨Nat.le_refl _, Nat.le_add_right _ _⟩ ⟨rfl, ⟨fr, fun q a b => mk_end C h0 (h1 q a b) (h5 q a b) h6 (fun x p => h7 x (by omega))⟩⟩
      · refine tz_iconst (pc := 21) dX9_markParts_21 ?_
        refine tz_istore_n (pc := 22) (L2 := [_, _, _, _]) dX9_markParts_22 rfl (by decide) rfl ?_
        have loop23 : ∀ (f9 : Nat) (i : Int) (J2 : zJ), ((3 - i).toNat) < f9 → (0 ≤ i ∧ i ≤ J 8 k) → (zOf (zbut [17]) J2 J1) → (∀ q, 0 ≤ q → q < 401 → J2 17 q = 0 ∨ J2 17 q = 1) → (∀ q, 0 ≤ q → q < 401 → J2 17 q = 1 → SUB (J 8) (cag J) q t) → (J2 17 t = 1) → (∀ x, k < x → x ≤ t → J2 17 x = 1 → ∀ j, 0 ≤ j → j < J 8 x → J2 17 (J 9 (x * 3 + j)) = 1) → (J2 17 k = 1 → ∀ j, 0 ≤ j → j < i → J2 17 (J 9 (k * 3 + j)) = 1) → tz_At l G M_X9_markParts (tb_rm 1 0 0) none (tb_ZM G 0 0 (zQ n 0 (zqv (fun J' => zOf (zbut [17]) J' J ∧ ∀ q, 0 ≤ q → q < 401 → (J' 17 q = 1 ∧ SUB (J 8) (cag J) q t) ∨ (J' 17 q = 0 ∧ ¬ SUB (J 8) (cag J) q t)))) (zX n 0 zN)) 0 0 n J2 23 [some (.ref 6), some (zi t), some (zi k), some (zi i)] [] := by
          intro f9
          induction f9 with
          | zero => intro i J2 hm9; exact absurd hm9 (Nat.not_lt_zero _)
          | succ f9 ih23 =>
            intro i J2 hm23 hi fr2 g1 g5 g6 g7 g8
            have har := C.ar (t := k) (by omega) (by omega)
            refine tz_aload_n (pc := 23) dX9_markParts_23 rfl rfl ?_
            refine tz_fR (pc := 24) dX9_markParts_24 fl_X9_42 r_6_11 ?_
            refine tz_iload_n (pc := 27) dX9_markParts_27 rfl rfl ?_
            refine tz_aL (pc := 28) (z := k) (v := (J2 17 k)) dX9_markParts_28 a_17 rfl (by omega) rfl (fun r_28 => ?_)
            refine tz_iconst (pc := 29) dX9_markParts_29 ?_
            refine tz_icmp_ne (pc := 30) (tgt := 61) dX9_markParts_30 (by decide) (by omega) (by decide) (fun h_30 => ?_) (fun h_30 => ?_)
            · refine tz_iinc (pc := 61) (z := k - 1) (L2 := [_, _, _, _]) dX9_markParts_61 rfl (by omega) rfl ?_
              refine tz_goto (pc := 64) (tgt := 17) dX9_markParts_64 (by decide) ?_
              exact ih17 (k - 1) _ _ (by omega) (by omega) (zOf.tr fr2 fr) g1 g5 g6 (fun x a b c j p q => (Decidable.em (x = k)).elim (fun e => by subst e; first | exact absurd c (by omega) | exact g8 c j p (by omega)) (fun e => g7 x (by omega) b c j p q))
            · refine tz_iload_n (pc := 33) dX9_markParts_33 rfl rfl ?_
              refine tz_aload_n (pc := 34) dX9_markParts_34 rfl rfl ?_
              refine tz_fR (pc := 35) dX9_markParts_35 fl_X9_15 r_6_2 ?_
              refine tz_iload_n (pc := 38) dX9_markParts_38 rfl rfl ?_
              refine tz_aL (pc := 39) (z := k) (v := (J 8 k)) dX9_markParts_39 a_8 rfl (by omega) (Eq.trans (congrFun (fr2 8 rfl) k) (Eq.trans (congrFun (fr 8 rfl) k) rfl)) (fun r_39 => ?_)
              refine tz_icmp_ge (pc := 40) (tgt := 61) dX9_markParts_40 (by decide) (by omega) (by omega) (fun h_40 => ?_) (fun h_40 => ?_)
              · refine tz_iinc (pc := 61) (z := k - 1) (L2 := [_, _, _, _]) dX9_markParts_61 rfl (by omega) rfl ?_
                refine tz_goto (pc := 64) (tgt := 17) dX9_markParts_64 (by decide) ?_
                exact ih17 (k - 1) _ _ (by omega) (by omega) (zOf.tr fr2 fr) g1 g5 g6 (fun x a b c j p q => (Decidable.em (x = k)).elim (fun e => by subst e; first | exact absurd c (by omega) | exact g8 c j p (by omega)) (fun e => g7 x (by omega) b c j p q))
              · have hg := C.arg (t := k) (i := i) (by omega) (by omega) (by omega) (by omega)
                refine tz_aload_n (pc := 43) dX9_markParts_43 rfl rfl ?_
                refine tz_fR (pc := 44) dX9_markParts_44 fl_X9_42 r_6_11 ?_
                refine tz_aload_n (pc := 47) dX9_markParts_47 rfl rfl ?_
                refine tz_iload_n (pc := 48) dX9_markParts_48 rfl rfl ?_
                refine tz_iload_n (pc := 49) dX9_markParts_49 rfl rfl ?_
                refine tz_cV (pc := 50) (c_arg hl n _ _ _ (by omega) (by omega) (by omega)) vl_X9_99 dX9_markParts_50 o_6 rfl rfl (Nat.le_of_ble_eq_true rfl) ⟨(Nat.le_of_ble_eq_true rfl), (Nat.le_of_ble_eq_true rfl)⟩ rfl rfl (Nat.le_of_ble_eq_true rfl) (Nat.le_of_ble_eq_true rfl) (fun r9 J_50 hq9 => ?_)
                obtain ⟨z_50, rfl, hz_50, rfl, hv_50⟩ := hq9
                obtain rfl : (J 9 (k * 3 + i)) = z_50 := by rw [← hv_50, show J2 9 = J 9 from (fr2 9 rfl).trans (fr 9 rfl)]
                refine tz_iconst (pc := 53) dX9_markParts_53 ?_
                refine tz_aS (pc := 54) (z := (J 9 (k * 3 + i))) dX9_markParts_54 a_17 rfl (by omega) (by decide) ?_
                refine tz_iinc (pc := 55) (z := i + 1) (L2 := [_, _, _, _]) dX9_markParts_55 rfl (by omega) rfl ?_
                refine tz_goto (pc := 58) (tgt := 23) dX9_markParts_58 (by decide) ?_
                have mk9 : J2 17 k = 1 := by omega
                exact ih23 (i + 1) _ (by omega) (by omega) (zOf.up rfl fr2) (fun q a b => (Decidable.em (q = J 9 (k * 3 + i))).elim (fun e => Or.inr (by rw [e]; exact zup_at)) (fun e => by rw [zup_ne e]; exact g1 q a b)) (fun q a b c => (Decidable.em (q = J 9 (k * 3 + i))).elim (fun e => by rw [e]; exact (g5 k (by omega) (by omega) mk9).st hi.1 (by omega)) (fun e => g5 q a b ((zup_ne e).symm.trans c))) (zup_1 g6) (fun x a b c j p q => zup_1 (g7 x a b ((zup_ne (by omega)).symm.trans c) j p q)) (fun _ j a b => (Decidable.em (j = i)).elim (fun e => by rw [e]; exact zup_at) (fun e => zup_1 (g8 mk9 j a (by omega))))
        exact loop23 _ 0 _ (Nat.lt_succ_self _) (by have := C.ar (t := k) (by omega) (by omega); omega) zOf.rf h1 h5 h6 h7 (fun _ j a b => absurd a (by omega))
  exact loop17 _ _ none _ (Nat.lt_succ_self _) (by omega) (zOf.up rfl (zOf.fl rfl zOf.rf)) (fun q a b => (Decidable.em (q = t)).elim (fun e => Or.inr (by rw [e]; exact zup_at)) (fun e => Or.inl ((zup_ne e).trans (zfl_in b)))) (fun q a b c => (Decidable.em (q = t)).elim (fun e => by rw [e]; exact SUB.rf) (fun e => absurd (c.symm.trans ((zup_ne e).trans (zfl_in b))) (by decide))) zup_at (fun x a b => absurd a (by omega))

set_option maxHeartbeats 4000000 in
set_option maxRecDepth 100000 in
theorem e_shared {l : Launch} {G : tb_G} (hl : l.stackTraces = false) (n : Nat) (J : zJ) (t : Int) (hr_t : -2147483648 ≤ t ∧ t < 2147483648) (m : Int) (C : CT J m) (h0 : 0 ≤ t ∧ t < m) : tz_Ok l G M_X9_shared 2 0 0 [.ref 6, zi t] n J (zqi (fun z J' => zOf (zbut [17]) J' J ∧ z = sumI (fun x => SUB (J 8) (cag J) x t) (t + 1).toNat)) zN := by
  refine tz_Ok.of hl (by decide +kernel) rfl (tb_c1 rfl) (Nat.le_of_ble_eq_true rfl) ?_
  show tz_At l G M_X9_shared (tb_rm 2 0 0) none (tb_ZM G 0 0 (zQ n 0 (zqi (fun z J' => zOf (zbut [17]) J' J ∧ z = sumI (fun x => SUB (J 8) (cag J) x t) (t + 1).toNat))) (zX n 0 zN)) 0 0 n J 0 [some (.ref 6), some (zi t), none, none] []
  have ht := C.told
  refine tz_aload_n (pc := 0) dX9_shared_0 rfl rfl ?_
  refine tz_iload_n (pc := 1) dX9_shared_1 rfl rfl ?_
  refine tz_cV (pc := 2) (e_mark hl n _ _ (by omega) m C h0) vl_X9_102 dX9_shared_2 o_6 rfl rfl (Nat.le_of_ble_eq_true rfl) ⟨(Nat.le_of_ble_eq_true rfl), (Nat.le_of_ble_eq_true rfl)⟩ rfl rfl (Nat.le_of_ble_eq_true rfl) (Nat.le_of_ble_eq_true rfl) (fun r9 J_2 hq9 => ?_)
  obtain ⟨rfl, fr, h1⟩ := hq9
  refine tz_iconst (pc := 5) dX9_shared_5 ?_
  refine tz_istore_n (pc := 6) (L2 := [_, _, _, _]) dX9_shared_6 rfl (by decide) rfl ?_
  refine tz_iconst (pc := 7) dX9_shared_7 ?_
  refine tz_istore_n (pc := 8) (L2 := [_, _, _, _]) dX9_shared_8 rfl (by decide) rfl ?_
  have loop9 : ∀ (f9 : Nat) (k : Int) (s : Int), ((t + 1 - k).toNat) < f9 → (0 ≤ k ∧ k ≤ t + 1) → (0 ≤ s ∧ s ≤ k) → (s = sumI (fun x => SUB (J 8) (cag J) x t) k.toNat) → tz_At l G M_X9_shared (tb_rm 2 0 0) none (tb_ZM G 0 0 (zQ n 0 (zqi (fun z J' => zOf (zbut [17]) J' J ∧ z = sumI (fun x => SUB (J 8) (cag J) x t) (t + 1).toNat))) (zX n 0 zN)) 0 0 n J_2 9 [some (.ref 6), some (zi t), some (zi s), some (zi k)] [] := by
    intro f9
    induction f9 with
    | zero => intro k s hm9; exact absurd hm9 (Nat.not_lt_zero _)
    | succ f9 ih9 =>
      intro k s hm9 hk hs hq
      refine tz_iload_n (pc := 9) dX9_shared_9 rfl rfl ?_
      refine tz_iload_n (pc := 10) dX9_shared_10 rfl rfl ?_
      refine tz_icmp_gt (pc := 11) (tgt := 29) dX9_shared_11 (by decide) (by omega) (by omega) (fun h_11 => ?_) (fun h_11 => ?_)
      · refine tz_iload_n (pc := 29) dX9_shared_29 rfl rfl ?_
        exact tz_iret (pc := 30) (z := s) dX9_shared_30 rfl (Nat.le_of_ble_eq_true rfl) (Nat.le_of_ble_eq_true rfl) ⟨Nat.le_refl _, Nat.le_add_right _ _⟩ ⟨_, rfl, (by omega), ⟨fr, by rw [hq, show k = t + 1 from by omega]⟩⟩
      · refine tz_iload_n (pc := 14) dX9_shared_14 rfl rfl ?_
        refine tz_aload_n (pc := 15) dX9_shared_15 rfl rfl ?_
        refine tz_fR (pc := 16) dX9_shared_16 fl_X9_42 r_6_11 ?_
        refine tz_iload_n (pc := 19) dX9_shared_19 rfl rfl ?_
        have hg := h1 k (by omega) (by omega)
        have hg0 : _ ∨ _ := hg.elim (fun w9 => Or.inr w9.1) (fun w9 => Or.inl w9.1)
        refine tz_aL (pc := 20) (z := k) (v := (J_2 17 k)) dX9_shared_20 a_17 rfl (by omega) rfl (fun r_20 => ?_)
        refine tz_iadd (pc := 21) (v := s + (J_2 17 k)) dX9_shared_21 rfl ?_
        refine tz_istore_n (pc := 22) (L2 := [_, _, _, _]) dX9_shared_22 rfl (by decide) rfl ?_
        refine tz_iinc (pc := 23) (z := k + 1) (L2 := [_, _, _, _]) dX9_shared_23 rfl (by omega) rfl ?_
        refine tz_goto (pc := 26) (tgt := 9) dX9_shared_26 (by decide) ?_
        exact ih9 (k + 1) _ (by omega) (by omega) (by omega) (by rw [sumI_s (by omega), ← hq, or_i hg])
  exact loop9 _ 0 _ (Nat.lt_succ_self _) (by omega) (by omega) rfl

set_option maxHeartbeats 4000000 in
set_option maxRecDepth 100000 in
theorem e_users {l : Launch} {G : tb_G} (hl : l.stackTraces = false) (n : Nat) (J : zJ) (t : Int) (hr_t : -2147483648 ≤ t ∧ t < 2147483648) (m : Int) (C : CT J m) (hm : J 6 12 = m) (h0 : 0 ≤ t ∧ t < m) : tz_Ok l G M_X9_users 1 0 0 [.ref 6, zi t] n J (zqi (fun z J' => J = J' ∧ z = sumI (fun x => t < x ∧ (J 9 (x * 3 + 0) = t ∨ J 9 (x * 3 + 1) = t ∨ J 9 (x * 3 + 2) = t)) m.toNat)) zN := by
  refine tz_Ok.of hl (by decide +kernel) rfl (tb_c1 rfl) (Nat.le_of_ble_eq_true rfl) ?_
  show tz_At l G M_X9_users (tb_rm 1 0 0) none (tb_ZM G 0 0 (zQ n 0 (zqi (fun z J' => J = J' ∧ z = sumI (fun x => t < x ∧ (J 9 (x * 3 + 0) = t ∨ J 9 (x * 3 + 1) = t ∨ J 9 (x * 3 + 2) = t)) m.toNat))) (zX n 0 zN)) 0 0 n J 0 [some (.ref 6), some (zi t), none, none] []
  have ht := C.told
  refine tz_iconst (pc := 0) dX9_users_0 ?_
  refine tz_istore_n (pc := 1) (L2 := [_, _, _, _]) dX9_users_1 rfl (by decide) rfl ?_
  refine tz_iload_n (pc := 2) dX9_users_2 rfl rfl ?_
  refine tz_iconst (pc := 3) dX9_users_3 ?_
  refine tz_iadd (pc := 4) (v := t + 1) dX9_users_4 rfl ?_
  refine tz_istore_n (pc := 5) (L2 := [_, _, _, _]) dX9_users_5 rfl (by decide) rfl ?_
  have loop6 : ∀ (f9 : Nat) (k : Int) (s : Int), ((m - k).toNat) < f9 → (t + 1 ≤ k ∧ k ≤ m) → (0 ≤ s ∧ s ≤ k) → (s = sumI (fun x => t < x ∧ (J 9 (x * 3 + 0) = t ∨ J 9 (x * 3 + 1) = t ∨ J 9 (x * 3 + 2) = t)) k.toNat) → tz_At l G M_X9_users (tb_rm 1 0 0) none (tb_ZM G 0 0 (zQ n 0 (zqi (fun z J' => J = J' ∧ z = sumI (fun x => t < x ∧ (J 9 (x * 3 + 0) = t ∨ J 9 (x * 3 + 1) = t ∨ J 9 (x * 3 + 2) = t)) m.toNat))) (zX n 0 zN)) 0 0 n J 6 [some (.ref 6), some (zi t), some (zi s), some (zi k)] [] := by
    intro f9
    induction f9 with
    | zero => intro k s hm9; exact absurd hm9 (Nat.not_lt_zero _)
    | succ f9 ih6 =>
      intro k s hm6 hk hs hq
      refine tz_iload_n (pc := 6) dX9_users_6 rfl rfl ?_
      refine tz_aload_n (pc := 7) dX9_users_7 rfl rfl ?_
      refine tz_fI (pc := 8) (kz := 12) (v := m) dX9_users_8 fl_X9_45 i_6_12 rfl hm (fun r_8 => ?_)
      refine tz_icmp_ge (pc := 11) (tgt := 53) dX9_users_11 (by decide) (by omega) (by omega) (fun h_11 => ?_) (fun h_11 => ?_)
      · refine tz_iload_n (pc := 53) dX9_users_53 rfl rfl ?_
        exact tz_iret (pc := 54) (z := s) dX9_users_54 rfl (Nat.le_of_ble_eq_true rfl) (Nat.le_of_ble_eq_true rfl) ⟨Nat.le_refl _, Nat.le_add_right _ _⟩ ⟨_, rfl, (by omega), ⟨rfl, by rw [hq, show k = m from by omega]⟩⟩
      · refine tz_aload_n (pc := 14) dX9_users_14 rfl rfl ?_
        refine tz_iload_n (pc := 15) dX9_users_15 rfl rfl ?_
        refine tz_iconst (pc := 16) dX9_users_16 ?_
        refine tz_cV (pc := 17) (c_arg hl n _ _ _ (by omega) (by omega) (by omega)) vl_X9_99 dX9_users_17 o_6 rfl rfl (Nat.le_of_ble_eq_true rfl) ⟨(Nat.le_of_ble_eq_true rfl), (Nat.le_of_ble_eq_true rfl)⟩ rfl rfl (Nat.le_of_ble_eq_true rfl) (Nat.le_of_ble_eq_true rfl) (fun r9 J_17 hq9 => ?_)
        obtain ⟨z_17, rfl, hz_17, rfl, rfl⟩ := hq9
        refine tz_iload_n (pc := 20) dX9_users_20 rfl rfl ?_
        refine tz_icmp_eq (pc := 21) (tgt := 44) dX9_users_21 (by decide) (by omega) (by omega) (fun h_21 => ?_) (fun h_21 => ?_)
        · refine tz_iinc (pc := 44) (z := s + 1) (L2 := [_, _, _, _]) dX9_users_44 rfl (by omega) rfl ?_
          refine tz_iinc (pc := 47) (z := k + 1) (L2 := [_, _, _, _]) dX9_users_47 rfl (by omega) rfl ?_
          refine tz_goto (pc := 50) (tgt := 6) dX9_users_50 (by decide) ?_
          exact ih6 (k + 1) _ (by omega) (by omega) (by omega) (by rw [sumI_s (by omega), ← hq]; first | (rw [ind_y (by omega)]) | (rw [ind_n (by omega)]; try omega))
        · refine tz_aload_n (pc := 24) dX9_users_24 rfl rfl ?_
          refine tz_iload_n (pc := 25) dX9_users_25 rfl rfl ?_
          refine tz_iconst (pc := 26) dX9_users_26 ?_
          refine tz_cV (pc := 27) (c_arg hl n _ _ _ (by omega) (by omega) (by omega)) vl_X9_99 dX9_users_27 o_6 rfl rfl (Nat.le_of_ble_eq_true rfl) ⟨(Nat.le_of_ble_eq_true rfl), (Nat.le_of_ble_eq_true rfl)⟩ rfl rfl (Nat.le_of_ble_eq_true rfl) (Nat.le_of_ble_eq_true rfl) (fun r9 J_27 hq9 => ?_)
          obtain ⟨z_27, rfl, hz_27, rfl, rfl⟩ := hq9
          refine tz_iload_n (pc := 30) dX9_users_30 rfl rfl ?_
          refine tz_icmp_eq (pc := 31) (tgt := 44) dX9_users_31 (by decide) (by omega) (by omega) (fun h_31 => ?_) (fun h_31 => ?_)
          · refine tz_iinc (pc := 44) (z := s + 1) (L2 := [_, _, _, _]) dX9_users_44 rfl (by omega) rfl ?_
            refine tz_iinc (pc := 47) (z := k + 1) (L2 := [_, _, _, _]) dX9_users_47 rfl (by omega) rfl ?_
            refine tz_goto (pc := 50) (tgt := 6) dX9_users_50 (by decide) ?_
            exact ih6 (k + 1) _ (by omega) (by omega) (by omega) (by rw [sumI_s (by omega), ← hq]; first | (rw [ind_y (by omega)]) | (rw [ind_n (by omega)]; try omega))
          · refine tz_aload_n (pc := 34) dX9_users_34 rfl rfl ?_
            refine tz_iload_n (pc := 35) dX9_users_35 rfl rfl ?_
            refine tz_iconst (pc := 36) dX9_users_36 ?_
            refine tz_cV (pc := 37) (c_arg hl n _ _ _ (by omega) (by omega) (by omega)) vl_X9_99 dX9_users_37 o_6 rfl rfl (Nat.le_of_ble_eq_true rfl) ⟨(Nat.le_of_ble_eq_true rfl), (Nat.le_of_ble_eq_true rfl)⟩ rfl rfl (Nat.le_of_ble_eq_true rfl) (Nat.le_of_ble_eq_true rfl) (fun r9 J_37 hq9 => ?_)
            obtain ⟨z_37, rfl, hz_37, rfl, rfl⟩ := hq9
            refine tz_iload_n (pc := 40) dX9_users_40 rfl rfl ?_
            refine tz_icmp_ne (pc := 41) (tgt := 47) dX9_users_41 (by decide) (by omega) (by omega) (fun h_41 => ?_) (fun h_41 => ?_)
            · refine tz_iinc (pc := 47) (z := k + 1) (L2 := [_, _, _, _]) dX9_users_47 rfl (by omega) rfl ?_
              refine tz_goto (pc := 50) (tgt := 6) dX9_users_50 (by decide) ?_
              exact ih6 (k + 1) _ (by omega) (by omega) (by omega) (by rw [sumI_s (by omega), ← hq]; first | (rw [ind_y (by omega)]) | (rw [ind_n (by omega)]; try omega))
            · refine tz_iinc (pc := 44) (z := s + 1) (L2 := [_, _, _, _]) dX9_users_44 rfl (by omega) rfl ?_
              refine tz_iinc (pc := 47) (z := k + 1) (L2 := [_, _, _, _]) dX9_users_47 rfl (by omega) rfl ?_
              refine tz_goto (pc := 50) (tgt := 6) dX9_users_50 (by decide) ?_
              exact ih6 (k + 1) _ (by omega) (by omega) (by omega) (by rw [sumI_s (by omega), ← hq]; first | (rw [ind_y (by omega)]) | (rw [ind_n (by omega)]; try omega))
  exact loop6 _ _ _ (Nat.lt_succ_self _) (by omega) (by omega) (by have q := sumI_up (p := fun x => t < x ∧ (J 9 (x * 3 + 0) = t ∨ J 9 (x * 3 + 1) = t ∨ J 9 (x * 3 + 2) = t)) (a := 0) (t + 1).toNat (fun k a b w => by have := w.1; omega); rw [Nat.zero_add] at q; exact q.symm)

theorem FRO.no {S : zJ} {t z : Int} {σ : Int → Int} (h : FRO S t z σ) (e : z = -1) : NOR S t (S 165 9) := by
  rcases h with ⟨_, b⟩ | ⟨b, _⟩
  · exact b
  · omega
theorem FRO.ys {S : zJ} {t z : Int} {σ : Int → Int} (h : FRO S t z σ) (e : ¬ z = -1) : ¬ NOR S t (S 165 9) := by
  rcases h with ⟨b, _⟩ | ⟨b, c, _⟩
  · exact absurd b e
  · intro w
    have := w z b.1 b.2
    rw [c] at this
    cases this
set_option maxHeartbeats 4000000 in
set_option maxRecDepth 100000 in
theorem e_isReduced {l : Launch} {G : tb_G} (hl : l.stackTraces = false) (n : Nat) (J : zJ) (t : Int) (hr_t : -2147483648 ≤ t ∧ t < 2147483648) (m : Int) (S : zJ) (C : CT J m) (hm : J 6 12 = m) (hL : LI (J 19) m) (ht : 0 ≤ t ∧ t < m) (E : A0 J S) (W : RW (J 19) (S 165)) : tz_Ok l G M_X7_isReduced 9 0 0 [.ref 155, zi t] n J (zqi (fun z J' => ((z = 1 ∧ (∀ k, SUB (J 8) (cag J) k t → NOR S k (S 165 9))) ∨ (z = 0 ∧ ¬ (∀ k, SUB (J 8) (cag J) k t → NOR S k (S 165 9)))) ∧ zOf (zbut [17, 140]) J' J)) zN := by
  refine tz_Ok.of hl (by decide +kernel) rfl (tb_c1 rfl) (Nat.le_of_ble_eq_true rfl) ?_
  show tz_At l G M_X7_isReduced (tb_rm 9 0 0) none (tb_ZM G 0 0 (zQ n 0 (zqi (fun z J' => ((z = 1 ∧ (∀ k, SUB (J 8) (cag J) k t → NOR S k (S 165 9))) ∨ (z = 0 ∧ ¬ (∀ k, SUB (J 8) (cag J) k t → NOR S k (S 165 9)))) ∧ zOf (zbut [17, 140]) J' J))) (zX n 0 zN)) 0 0 n J 0 [some (.ref 155), some (zi t), none] []
  have hb := C.told
  refine tz_aload_n (pc := 0) dX7_isReduced_0 rfl rfl ?_
  refine tz_fR (pc := 1) dX7_isReduced_1 fl_X7_21 r_155_1 ?_
  refine tz_iload_n (pc := 4) dX7_isReduced_4 rfl rfl ?_
  refine tz_cV (pc := 5) (e_mark hl n _ _ (by omega) m C ht) vl_X7_104 dX7_isReduced_5 o_6 rfl rfl (Nat.le_of_ble_eq_true rfl) ⟨(Nat.le_of_ble_eq_true rfl), (Nat.le_of_ble_eq_true rfl)⟩ rfl rfl (Nat.le_of_ble_eq_true rfl) (Nat.le_of_ble_eq_true rfl) (fun r9 J_5 hq9 => ?_)
  obtain ⟨rfl, k1, k2⟩ := hq9
  refine tz_iconst (pc := 8) dX7_isReduced_8 ?_
  refine tz_istore_n (pc := 9) (L2 := [_, _, _]) dX7_isReduced_9 rfl (by decide) rfl ?_
  have loop10 : ∀ (f9 : Nat) (i : Int) (J1 : zJ), ((401 - i).toNat) < f9 → (0 ≤ i ∧ i ≤ t + 1) → (zOf (zbut [17, 140]) J1 J) → (∀ q, 0 ≤ q → q < 401 → (J1 17 q = 1 ∧ SUB (J 8) (cag J) q t) ∨ (J1 17 q = 0 ∧ ¬ SUB (J 8) (cag J) q t)) → (∀ k, 0 ≤ k → k < i → SUB (J 8) (cag J) k t → NOR S k (S 165 9)) → tz_At l G M_X7_isReduced (tb_rm 9 0 0) none (tb_ZM G 0 0 (zQ n 0 (zqi (fun z J' => ((z = 1 ∧ (∀ k, SUB (J 8) (cag J) k t → NOR S k (S 165 9))) ∨ (z = 0 ∧ ¬ (∀ k, SUB (J 8) (cag J) k t → NOR S k (S 165 9)))) ∧ zOf (zbut [17, 140]) J' J))) (zX n 0 zN)) 0 0 n J1 10 [some (.ref 155), some (zi t), some (zi i)] [] := by
    intro f9
    induction f9 with
    | zero => intro i J1 hm9; exact absurd hm9 (Nat.not_lt_zero _)
    | succ f9 ih10 =>
      intro i J1 hm10 hi f1 mk hr
      have mi9 := mk i
      refine tz_iload_n (pc := 10) dX7_isReduced_10 rfl rfl ?_
      refine tz_iload_n (pc := 11) dX7_isReduced_11 rfl rfl ?_
      refine tz_icmp_gt (pc := 12) (tgt := 55) dX7_isReduced_12 (by decide) (by omega) (by omega) (fun h_12 => ?_) (fun h_12 => ?_)
      · refine tz_iconst (pc := 55) dX7_isReduced_55 ?_
        exact tz_zret (pc := 56) (z := 1) dX7_isReduced_56 rfl (Or.inr rfl) (Nat.le_of_ble_eq_true rfl) (Nat.le_of_ble_eq_true rfl) ⟨Nat.le_refl _, Nat.le_add_right _ _⟩ ⟨_, rfl, (by decide), (by first | exact ⟨Or.inr ⟨rfl, fun w => a3.ys (by omega) (w i ((mi9 (by omega) (by omega)).resolve_right (fun w => by have := w.1; omega)).2)⟩, (a1.mono (fun c hc => by simp [zbut] at hc ⊢; omega)).tr f1⟩ | exact ⟨Or.inl ⟨rfl, fun k w => by have g := SUB.rg C.rga ht w; exact hr k g.1 (by omega) w⟩, f1⟩)⟩
      · refine tz_aload_n (pc := 15) dX7_isReduced_15 rfl rfl ?_
        refine tz_fR (pc := 16) dX7_isReduced_16 fl_X7_21 r_155_1 ?_
        refine tz_fR (pc := 19) dX7_isReduced_19 fl_X7_108 r_6_11 ?_
        refine tz_iload_n (pc := 22) dX7_isReduced_22 rfl rfl ?_
        refine tz_aL (pc := 23) (z := i) (v := (J1 17 i)) dX7_isReduced_23 a_17 rfl (by omega) rfl (fun r_23 => ?_)
        refine tz_iconst (pc := 24) dX7_isReduced_24 ?_
        refine tz_icmp_ne (pc := 25) (tgt := 49) dX7_isReduced_25 (by decide) (by omega) (by decide) (fun h_25 => ?_) (fun h_25 => ?_)
        · refine tz_iinc (pc := 49) (z := i + 1) (L2 := [_, _, _]) dX7_isReduced_49 rfl (by omega) rfl ?_
          refine tz_goto (pc := 52) (tgt := 10) dX7_isReduced_52 (by decide) ?_
          exact ih10 (i + 1) _ (by omega) (by omega) f1 mk (fun k a b c => (Decidable.em (k = i)).elim (fun e => by subst e; exact absurd c ((mi9 (by omega) (by omega)).resolve_left (fun w => by have := w.1; omega)).2) (fun e => hr k a (by omega) c))
        · refine tz_aload_n (pc := 28) dX7_isReduced_28 rfl rfl ?_
          refine tz_fR (pc := 29) dX7_isReduced_29 fl_X7_9 r_155_0 ?_
          refine tz_fR (pc := 32) dX7_isReduced_32 fl_X7_56 r_5_1 ?_
          refine tz_aload_n (pc := 35) dX7_isReduced_35 rfl rfl ?_
          refine tz_fR (pc := 36) dX7_isReduced_36 fl_X7_22 r_155_2 ?_
          refine tz_iload_n (pc := 39) dX7_isReduced_39 rfl rfl ?_
          refine tz_cS (pc := 40) (x_firstRule hl n _ _ (by omega) m S (C.of (fun c hc => f1 c (by simp [zbut]; omega))) (by rw [f1 6 rfl]; exact hm) (by rw [f1 19 rfl]; exact hL) (by omega) (E.f (fun c hc => f1 c (by simp [zbut]; omega))) (by rw [f1 19 rfl]; exact W)) sl_X7_111 dX7_isReduced_40 rfl rfl (Nat.le_of_ble_eq_true rfl) ⟨(Nat.le_of_ble_eq_true rfl), (Nat.le_of_ble_eq_true rfl)⟩ rfl rfl (Nat.le_of_ble_eq_true rfl) (Nat.le_of_ble_eq_true rfl) (fun r9 J_40 hq9 => ?_)
          obtain ⟨z_40, rfl, hz_40, a1, -, a3⟩ := hq9
          refine tz_iconst (pc := 43) dX7_isReduced_43 ?_
          refine tz_icmp_eq (pc := 44) (tgt := 49) dX7_isReduced_44 (by decide) (by omega) (by decide) (fun h_44 => ?_) (fun h_44 => ?_)
          · refine tz_iinc (pc := 49) (z := i + 1) (L2 := [_, _, _]) dX7_isReduced_49 rfl (by omega) rfl ?_
            refine tz_goto (pc := 52) (tgt := 10) dX7_isReduced_52 (by decide) ?_
            exact ih10 (i + 1) _ (by omega) (by omega) ((a1.mono (fun c hc => by simp [zbut] at hc ⊢; omega)).tr f1) (fun q a b => by rw [a1 17 rfl]; exact mk q a b) (fun k a b c => (Decidable.em (k = i)).elim (fun e => by rw [e]; exact a3.no (by omega)) (fun e => hr k a (by omega) c))
          · refine tz_iconst (pc := 47) dX7_isReduced_47 ?_
            exact tz_zret (pc := 48) (z := 0) dX7_isReduced_48 rfl (Or.inl rfl) (Nat.le_of_ble_eq_true rfl) (Nat.le_of_ble_eq_true rfl) ⟨Nat.le_refl _, Nat.le_add_right _ _⟩ ⟨_, rfl, (by decide), (by first | exact ⟨Or.inr ⟨rfl, fun w => a3.ys (by omega) (w i ((mi9 (by omega) (by omega)).resolve_right (fun w => by have := w.1; omega)).2)⟩, (a1.mono (fun c hc => by simp [zbut] at hc ⊢; omega)).tr f1⟩ | exact ⟨Or.inl ⟨rfl, fun k w => by have g := SUB.rg C.rga ht w; exact hr k g.1 (by omega) w⟩, f1⟩)⟩
  exact loop10 _ 0 _ (Nat.lt_succ_self _) (by omega) (k1.mono (fun c hc => by simp [zbut] at hc ⊢; omega)) k2 (fun k a b => absurd a (by omega))

theorem cwt_s {J : zJ} {m : Int} (h : CT J m) : ∀ (k : Nat) (t : Int), (0 ≤ t ∧ t < m) → J 12 t ≤ k → J 11 t = cwt J t
  | 0, t, ht, h1 => by have := (h.nums ht.1 ht.2).2.2; omega
  | k + 1, t, ht, h1 => by
    have ha := (h.ar ht.1 ht.2).1
    have e := ((h.2.1 t ht.1 ht.2).1).2.2.1.1
    have hs : ∀ i, 0 ≤ i → i < J 8 t → J 11 (J 9 (t * 3 + i)) = cwt J (J 9 (t * 3 + i)) := fun i x y => by
      have hb := h.arg ht.1 ht.2 x y
      exact cwt_s h k _ ⟨hb.1.1, by omega⟩ (by omega)
    have hU : cwt J t = cgw J t + sps (cwt J) (cag J) t (J 8 t).toNat := sV_un h.td ht
    have e' : J 11 t = cgw J t + zw3 J t := e
    rw [hU, e']
    unfold zw3
    have hc : J 8 t = 0 ∨ J 8 t = 1 ∨ J 8 t = 2 ∨ J 8 t = 3 := by omega
    have s0 := hs 0
    have s1 := hs 1
    have s2 := hs 2
    generalize cgw J t = g
    rcases hc with hc | hc | hc | hc <;> rw [hc] at s0 s1 s2 ⊢
    · rfl
    · rw [if_pos (by decide), if_neg (by decide), if_neg (by decide), s0 (by decide) (by decide)]
      show g + (cwt J (J 9 (t * 3 + 0)) + 0 + 0) = g + (0 + cwt J (J 9 (t * 3 + 0)))
      omega
    · rw [if_pos (by decide), if_pos (by decide), if_neg (by decide), s0 (by decide) (by decide), s1 (by decide) (by decide)]
      show g + (cwt J (J 9 (t * 3 + 0)) + cwt J (J 9 (t * 3 + 1)) + 0) = g + (0 + cwt J (J 9 (t * 3 + 0)) + cwt J (J 9 (t * 3 + 1)))
      omega
    · rw [if_pos (by decide), if_pos (by decide), if_pos (by decide), s0 (by decide) (by decide), s1 (by decide) (by decide), s2 (by decide) (by decide)]
      show g + (cwt J (J 9 (t * 3 + 0)) + cwt J (J 9 (t * 3 + 1)) + cwt J (J 9 (t * 3 + 2))) = g + (0 + cwt J (J 9 (t * 3 + 0)) + cwt J (J 9 (t * 3 + 1)) + cwt J (J 9 (t * 3 + 2)))
      omega
theorem CT.wt {J : zJ} {m t : Int} (h : CT J m) (ht : 0 ≤ t ∧ t < m) : J 11 t = cwt J t := cwt_s h 6 t ht (by have := (h.nums ht.1 ht.2).2.2; omega)
/-- the set of the variables, as both sides put it together -/
def vsP (f : Int → Int) (v : Int → Int) (ag : Int → Int → Int) (t : Int) : Nat → Int
  | 0 => v t
  | n + 1 => zor (vsP f v ag t n) (f (ag t n))
def vsF (v ar : Int → Int) (ag : Int → Int → Int) : Nat → Int → Int
  | 0, _ => 0
  | k + 1, t => vsP (vsF v ar ag k) v ag t (ar t).toNat
theorem vsP_s {f v : Int → Int} {ag : Int → Int → Int} {t i : Int} (hi : 0 ≤ i) : vsP f v ag t (i + 1).toNat = zor (vsP f v ag t i.toNat) (f (ag t i)) := by
  rw [show (i + 1).toNat = i.toNat + 1 from by omega]
  show zor (vsP f v ag t i.toNat) (f (ag t (i.toNat : Int))) = _
  rw [Int.toNat_of_nonneg hi]
theorem vsP_cg {f f' v v' : Int → Int} {ag ag' : Int → Int → Int} {t : Int} (hv : v' t = v t) : ∀ n : Nat, (∀ i : Int, 0 ≤ i → i < n → f' (ag' t i) = f (ag t i)) → vsP f' v' ag' t n = vsP f v ag t n
  | 0, _ => hv
  | n + 1, h => by
    show zor _ _ = zor _ _
    rw [vsP_cg hv n (fun i a b => h i a (by omega)), h n (by omega) (by omega)]
theorem vsF_cg {m : Int} {v v' ar ar' dp : Int → Int} {ag ag' : Int → Int → Int} (h : TD m ar ag dp) (hv : ∀ t, 0 ≤ t → t < m → v' t = v t) (ha : ∀ t, 0 ≤ t → t < m → ar' t = ar t) (hh : ∀ t, 0 ≤ t → t < m → ∀ i, 0 ≤ i → i < ar t → ag' t i = ag t i) : ∀ (k : Nat) (t : Int), (0 ≤ t ∧ t < m) → vsF v' ar' ag' k t = vsF v ar ag k t
  | 0, _, _ => rfl
  | k + 1, t, ht => by
    show vsP _ _ _ t (ar' t).toNat = vsP _ _ _ t (ar t).toNat
    rw [ha t ht.1 ht.2]
    obtain ⟨hb, _, hg⟩ := h t ht.1 ht.2
    exact vsP_cg (hv t ht.1 ht.2) _ (fun i a b => by
      have g := hg i a (by omega)
      rw [hh t ht.1 ht.2 i a (by omega)]
      exact vsF_cg h hv ha hh k (ag t i) (by omega))
theorem CT.vs {J : zJ} {m : Int} (h : CT J m) : ∀ (k : Nat) (t : Int), (0 ≤ t ∧ t < m) → J 12 t ≤ k → J 13 t = vsF (zv0 J) (J 8) (cag J) k t
  | 0, t, ht, h1 => by have := (h.nums ht.1 ht.2).2.2; omega
  | k + 1, t, ht, h1 => by
    have ha := (h.ar ht.1 ht.2).1
    have e := ((h.2.1 t ht.1 ht.2).1).2.2.2
    have hs : ∀ i, 0 ≤ i → i < J 8 t → J 13 (J 9 (t * 3 + i)) = vsF (zv0 J) (J 8) (cag J) k (J 9 (t * 3 + i)) := fun i x y => by
      have hb := h.arg ht.1 ht.2 x y
      exact CT.vs h k _ ⟨hb.1.1, by omega⟩ (by omega)
    rw [e]
    show zv3 J t = vsP _ _ _ t (J 8 t).toNat
    unfold zv3
    have hc : J 8 t = 0 ∨ J 8 t = 1 ∨ J 8 t = 2 ∨ J 8 t = 3 := by omega
    have s0 := hs 0
    have s1 := hs 1
    have s2 := hs 2
    rcases hc with hc | hc | hc | hc <;> rw [hc] at s0 s1 s2 ⊢
    · rfl
    · rw [if_neg (by decide), if_pos (by decide), s0 (by decide) (by decide)]
      rfl
    · rw [if_neg (by decide), if_neg (by decide), if_pos (by decide), s0 (by decide) (by decide), s1 (by decide) (by decide)]
      rfl
    · rw [if_neg (by decide), if_neg (by decide), if_neg (by decide), s0 (by decide) (by decide), s1 (by decide) (by decide), s2 (by decide) (by decide)]
      rfl
def mv0 (J : zJ) (b : Int) (t : Int) : Int := if J 166 (b + t) < 0 then zshl 1 (-1 - J 166 (b + t)) else 0
set_option maxHeartbeats 4000000 in
set_option maxRecDepth 100000 in
theorem m_right4 {l : Launch} {G : tb_G} (hl : l.stackTraces = false) (n : Nat) (J : zJ) (x : Int) (y : Int) (hr_x : -2147483648 ≤ x ∧ x < 2147483648) (hr_y : -2147483648 ≤ y ∧ y < 2147483648)  (hy : ¬ y = 0) : tz_Ok l G M_X12_right 0 0 0 [.ref 164, zi x, zi y] n J (zqi (fun z J' => (zOf (zbut [164]) J' J ∧ ∀ k, ¬ k = 8 → J' 164 k = J 164 k) ∧ (z = 0 ∨ z = 1) ∧ (z = 1 → J = J' ∧ J 164 8 = 0 ∧ (¬ x = 0 ∨ y = 0)) ∧ (J 164 8 = 0 → (z = 0 → J' 164 8 = y ∧ x = 0) ∧ (z = 1 → J' 164 8 = 0 ∧ ¬ x = 0)))) zN := by
  refine tz_Ok.of hl (by decide +kernel) rfl (tb_c1 rfl) (Nat.le_of_ble_eq_true rfl) ?_
  show tz_At l G M_X12_right (tb_rm 0 0 0) none (tb_ZM G 0 0 (zQ n 0 (zqi (fun z J' => (zOf (zbut [164]) J' J ∧ ∀ k, ¬ k = 8 → J' 164 k = J 164 k) ∧ (z = 0 ∨ z = 1) ∧ (z = 1 → J = J' ∧ J 164 8 = 0 ∧ (¬ x = 0 ∨ y = 0)) ∧ (J 164 8 = 0 → (z = 0 → J' 164 8 = y ∧ x = 0) ∧ (z = 1 → J' 164 8 = 0 ∧ ¬ x = 0))))) (zX n 0 zN)) 0 0 n J 0 [some (.ref 164), some (zi x), some (zi y)] []
  refine tz_aload_n (pc := 0) dX12_right_0 rfl rfl ?_
  refine tz_fI (pc := 1) (kz := 8) (v := (J 164 8)) dX12_right_1 fl_X12_68 i_164_8 rfl rfl (fun r_1 => ?_)
  refine tz_if_ne (pc := 4) (tgt := 16) dX12_right_4 (by decide) (by omega) (fun h_4 => ?_) (fun h_4 => ?_)
  · refine tz_aload_n (pc := 16) dX12_right_16 rfl rfl ?_
    refine tz_fI (pc := 17) (kz := 8) (v := (J 164 8)) dX12_right_17 fl_X12_68 i_164_8 rfl rfl (fun r_17 => ?_)
    refine tz_if_ne (pc := 20) (tgt := 27) dX12_right_20 (by decide) (by omega) (fun h_20 => ?_) (fun h_20 => ?_)
    · refine tz_iconst (pc := 27) dX12_right_27 ?_
      exact tz_zret (pc := 28) (z := 0) dX12_right_28 rfl (Or.inl rfl) (Nat.le_of_ble_eq_true rfl) (Nat.le_of_ble_eq_true rfl) ⟨Nat.le_refl _, Nat.le_add_right _ _⟩ ⟨_, rfl, (by decide), ⟨⟨zOf.rf, fun _ _ => rfl⟩, by omega, fun q9 => ⟨rfl, by omega, by omega⟩, fun w9 => ⟨fun q9 => by omega, fun q9 => by omega⟩⟩⟩
    · refine tz_iconst (pc := 23) dX12_right_23 ?_
      refine tz_goto (pc := 24) (tgt := 28) dX12_right_24 (by decide) ?_
      exact tz_zret (pc := 28) (z := 1) dX12_right_28 rfl (Or.inr rfl) (Nat.le_of_ble_eq_true rfl) (Nat.le_of_ble_eq_true rfl) ⟨Nat.le_refl _, Nat.le_add_right _ _⟩ ⟨_, rfl, (by decide), ⟨⟨zOf.rf, fun _ _ => rfl⟩, by omega, fun q9 => ⟨rfl, by omega, by omega⟩, fun w9 => ⟨fun q9 => absurd q9 (by omega), fun q9 => ⟨by omega, by omega⟩⟩⟩⟩
  · refine tz_iload_n (pc := 7) dX12_right_7 rfl rfl ?_
    refine tz_if_ne (pc := 8) (tgt := 16) dX12_right_8 (by decide) (by omega) (fun h_8 => ?_) (fun h_8 => ?_)
    · refine tz_aload_n (pc := 16) dX12_right_16 rfl rfl ?_
      refine tz_fI (pc := 17) (kz := 8) (v := (J 164 8)) dX12_right_17 fl_X12_68 i_164_8 rfl rfl (fun r_17 => ?_)
      refine tz_if_ne (pc := 20) (tgt := 27) dX12_right_20 (by decide) (by omega) (fun h_20 => ?_) (fun h_20 => ?_)
      · refine tz_iconst (pc := 27) dX12_right_27 ?_
        exact tz_zret (pc := 28) (z := 0) dX12_right_28 rfl (Or.inl rfl) (Nat.le_of_ble_eq_true rfl) (Nat.le_of_ble_eq_true rfl) ⟨Nat.le_refl _, Nat.le_add_right _ _⟩ ⟨_, rfl, (by decide), ⟨⟨zOf.rf, fun _ _ => rfl⟩, by omega, fun q9 => ⟨rfl, by omega, by omega⟩, fun w9 => ⟨fun q9 => by omega, fun q9 => by omega⟩⟩⟩
      · refine tz_iconst (pc := 23) dX12_right_23 ?_
        refine tz_goto (pc := 24) (tgt := 28) dX12_right_24 (by decide) ?_
        exact tz_zret (pc := 28) (z := 1) dX12_right_28 rfl (Or.inr rfl) (Nat.le_of_ble_eq_true rfl) (Nat.le_of_ble_eq_true rfl) ⟨Nat.le_refl _, Nat.le_add_right _ _⟩ ⟨_, rfl, (by decide), ⟨⟨zOf.rf, fun _ _ => rfl⟩, by omega, fun q9 => ⟨rfl, by omega, by omega⟩, fun w9 => ⟨fun q9 => absurd q9 (by omega), fun q9 => ⟨by omega, by omega⟩⟩⟩⟩
    · refine tz_aload_n (pc := 11) dX12_right_11 rfl rfl ?_
      refine tz_iload_n (pc := 12) dX12_right_12 rfl rfl ?_
      refine tz_pI (pc := 13) (kz := 8) dX12_right_13 fl_X12_68 i_164_8 rfl rfl (by omega) ?_
      refine tz_aload_n (pc := 16) dX12_right_16 rfl rfl ?_
      refine tz_fI (pc := 17) (kz := 8) (v := y) dX12_right_17 fl_X12_68 i_164_8 rfl rfl (fun r_17 => ?_)
      refine tz_if_ne (pc := 20) (tgt := 27) dX12_right_20 (by decide) (by omega) (fun h_20 => ?_) (fun h_20 => ?_)
      · refine tz_iconst (pc := 27) dX12_right_27 ?_
        exact tz_zret (pc := 28) (z := 0) dX12_right_28 rfl (Or.inl rfl) (Nat.le_of_ble_eq_true rfl) (Nat.le_of_ble_eq_true rfl) ⟨Nat.le_refl _, Nat.le_add_right _ _⟩ ⟨_, rfl, (by decide), ⟨⟨zOf.up rfl zOf.rf, fun k hk => zup_ne hk⟩, by omega, fun q9 => by omega, fun w9 => ⟨fun q9 => ⟨zup_at, by omega⟩, fun q9 => by omega⟩⟩⟩
      · refine tz_iconst (pc := 23) dX12_right_23 ?_
        refine tz_goto (pc := 24) (tgt := 28) dX12_right_24 (by decide) ?_
        exact tz_zret (pc := 28) (z := 1) dX12_right_28 rfl (Or.inr rfl) (Nat.le_of_ble_eq_true rfl) (Nat.le_of_ble_eq_true rfl) ⟨Nat.le_refl _, Nat.le_add_right _ _⟩ ⟨_, rfl, (by decide), ⟨⟨zOf.up rfl zOf.rf, fun k hk => zup_ne hk⟩, by omega, fun q9 => by omega, fun w9 => ⟨fun q9 => ⟨zup_at, by omega⟩, fun q9 => by omega⟩⟩⟩

set_option maxHeartbeats 4000000 in
set_option maxRecDepth 100000 in
theorem m_isTermNow4 {l : Launch} {G : tb_G} (hl : l.stackTraces = false) (n : Nat) (J : zJ) (t : Int) (hr_t : -2147483648 ≤ t ∧ t < 2147483648)  (h0 : 0 ≤ J 165 0) : tz_Ok l G M_X12_isTermNow 2 0 0 [.ref 164, zi t] n J (zqi (fun z J' => (zOf (zbut [164]) J' J ∧ ∀ k, ¬ k = 8 → J' 164 k = J 164 k) ∧ (z = 0 ∨ z = 1) ∧ (z = 1 → 0 ≤ t ∧ t < J 165 0) ∧ (J 164 8 = 0 → (z = 0 → J' 164 8 = 1 ∧ ¬ (0 ≤ t ∧ t < J 165 0)) ∧ (z = 1 → J' 164 8 = 0 ∧ 0 ≤ t ∧ t < J 165 0)))) zN := by
  refine tz_Ok.of hl (by decide +kernel) rfl (tb_c1 rfl) (Nat.le_of_ble_eq_true rfl) ?_
  show tz_At l G M_X12_isTermNow (tb_rm 2 0 0) none (tb_ZM G 0 0 (zQ n 0 (zqi (fun z J' => (zOf (zbut [164]) J' J ∧ ∀ k, ¬ k = 8 → J' 164 k = J 164 k) ∧ (z = 0 ∨ z = 1) ∧ (z = 1 → 0 ≤ t ∧ t < J 165 0) ∧ (J 164 8 = 0 → (z = 0 → J' 164 8 = 1 ∧ ¬ (0 ≤ t ∧ t < J 165 0)) ∧ (z = 1 → J' 164 8 = 0 ∧ 0 ≤ t ∧ t < J 165 0))))) (zX n 0 zN)) 0 0 n J 0 [some (.ref 164), some (zi t)] []
  refine tz_aload_n (pc := 0) dX12_isTermNow_0 rfl rfl ?_
  refine tz_aload_n (pc := 1) dX12_isTermNow_1 rfl rfl ?_
  refine tz_iload_n (pc := 2) dX12_isTermNow_2 rfl rfl ?_
  refine tz_cV (pc := 3) (m_isTerm hl n _ _ (by omega) h0) vl_X12_376 dX12_isTermNow_3 o_164 rfl rfl (Nat.le_of_ble_eq_true rfl) ⟨(Nat.le_of_ble_eq_true rfl), (Nat.le_of_ble_eq_true rfl)⟩ rfl rfl (Nat.le_of_ble_eq_true rfl) (Nat.le_of_ble_eq_true rfl) (fun r9 J_3 hq9 => ?_)
  obtain ⟨z_3, rfl, hz_3, rfl, ht9⟩ := hq9
  refine tz_iconst (pc := 6) dX12_isTermNow_6 ?_
  refine tz_cV (pc := 7) (m_right4 hl n _ _ _ (by omega) (by decide) (by decide)) vl_X12_334 dX12_isTermNow_7 o_164 rfl rfl (Nat.le_of_ble_eq_true rfl) ⟨(Nat.le_of_ble_eq_true rfl), (Nat.le_of_ble_eq_true rfl)⟩ rfl rfl (Nat.le_of_ble_eq_true rfl) (Nat.le_of_ble_eq_true rfl) (fun r9 J_7 hq9 => ?_)
  obtain ⟨z_7, rfl, hz_7, f9, b9, c9, w9⟩ := hq9
  exact tz_zret (pc := 10) (z := z_7) dX12_isTermNow_10 rfl (by omega) (Nat.le_of_ble_eq_true rfl) (Nat.le_of_ble_eq_true rfl) ⟨Nat.le_refl _, Nat.le_add_right _ _⟩ ⟨_, rfl, (by omega), ⟨f9, b9, fun q9 => by have := (c9 q9).2.2; omega, fun y9 => ⟨fun q9 => ⟨((w9 y9).1 q9).1, by have := ((w9 y9).1 q9).2; omega⟩, fun q9 => ⟨((w9 y9).2 q9).1, by have := ((w9 y9).2 q9).2; omega⟩⟩⟩⟩

set_option maxHeartbeats 4000000 in
set_option maxRecDepth 100000 in
theorem e_isInR {l : Launch} {G : tb_G} (hl : l.stackTraces = false) (n : Nat) : ∀ (r9 : Nat) (J : zJ) (x : Int) (t : Int) (hr_x : -2147483648 ≤ x ∧ x < 2147483648) (hr_t : -2147483648 ≤ t ∧ t < 2147483648) (b r d s m : Int) (hM : MS J b r d s m) (ht : 0 ≤ t ∧ t < m), ((J 168 (b + t)).toNat) < r9 → tz_Ok l G M_X12_isIn (3 + 1 * r9) 0 0 [.ref 164, zi x, zi t] n J (zqi (fun z J' => J = J' ∧ ((z = 1 ∧ SUB (mar J b d) (mag J b) x t) ∨ (z = 0 ∧ ¬ SUB (mar J b d) (mag J b) x t)))) zN := by
  intro r9
  induction r9 with
  | zero => intro J x t hr_x hr_t b r d s m hM ht hm9; exact absurd hm9 (Nat.not_lt_zero _)
  | succ r9 ih =>
    intro J x t hr_x hr_t b r d s m hM ht hm9
    refine tz_Ok.of hl (by decide +kernel) rfl (tb_c1 rfl) (Nat.le_of_ble_eq_true rfl) ?_
    show tz_At l G M_X12_isIn (tb_rm (3 + 1 * (r9 + 1)) 0 0) none (tb_ZM G 0 0 (zQ n 0 (zqi (fun z J' => J = J' ∧ ((z = 1 ∧ SUB (mar J b d) (mag J b) x t) ∨ (z = 0 ∧ ¬ SUB (mar J b d) (mag J b) x t))))) (zX n 0 zN)) 0 0 n J 0 [some (.ref 164), some (zi x), some (zi t), none] []
    obtain ⟨hM1, hM2, hM3, hM4, hM5, hM6⟩ := id hM
    have hT := hM.told
    have ha := hM.ar ht
    refine tz_iload_n (pc := 0) dX12_isIn_0 rfl rfl ?_
    refine tz_iload_n (pc := 1) dX12_isIn_1 rfl rfl ?_
    refine tz_icmp_ne (pc := 2) (tgt := 7) dX12_isIn_2 (by decide) (by omega) (by omega) (fun h_2 => ?_) (fun h_2 => ?_)
    · refine tz_iconst (pc := 7) dX12_isIn_7 ?_
      refine tz_istore_n (pc := 8) (L2 := [_, _, _, _]) dX12_isIn_8 rfl (by decide) rfl ?_
      have loop9 : ∀ (f9 : Nat) (i : Int), ((3 - i).toNat) < f9 → (0 ≤ i ∧ i ≤ mar J b d t) → (¬ x = t ∧ ∀ j, 0 ≤ j → j < i → ¬ SUB (mar J b d) (mag J b) x (J 167 (3 * (b + t) + j))) → tz_At l G M_X12_isIn (tb_rm (3 + 1 * (r9 + 1)) 0 0) none (tb_ZM G 0 0 (zQ n 0 (zqi (fun z J' => J = J' ∧ ((z = 1 ∧ SUB (mar J b d) (mag J b) x t) ∨ (z = 0 ∧ ¬ SUB (mar J b d) (mag J b) x t))))) (zX n 0 zN)) 0 0 n J 9 [some (.ref 164), some (zi x), some (zi t), some (zi i)] [] := by
        intro f9
        induction f9 with
        | zero => intro i hm9; exact absurd hm9 (Nat.not_lt_zero _)
        | succ f9 ih9 =>
          intro i hm9 hi hn
          refine tz_iload_n (pc := 9) dX12_isIn_9 rfl rfl ?_
          refine tz_aload_n (pc := 10) dX12_isIn_10 rfl rfl ?_
          refine tz_iload_n (pc := 11) dX12_isIn_11 rfl rfl ?_
          refine tz_cV (pc := 12) (m_arity hl n _ _ (by omega) b r d s m hM (by omega)) vl_X12_111 dX12_isIn_12 o_164 rfl rfl (Nat.le_of_ble_eq_true rfl) ⟨(show 2 + 1 ≤ 3 + 1 * (r9 + 1) by omega), (show 8 + (2 + 11) + 40 * (2) ≤ 40 * (3 + 1 * (r9 + 1)) by omega)⟩ rfl rfl (Nat.le_of_ble_eq_true rfl) (Nat.le_of_ble_eq_true rfl) (fun r9 J_12 hq9 => ?_)
          obtain ⟨z_12, rfl, hz_12, rfl, rfl⟩ := hq9
          refine tz_icmp_ge (pc := 15) (tgt := 40) dX12_isIn_15 (by decide) (by omega) (by omega) (fun h_15 => ?_) (fun h_15 => ?_)
          · refine tz_iconst (pc := 40) dX12_isIn_40 ?_
            exact tz_zret (pc := 41) (z := 0) dX12_isIn_41 rfl (Or.inl rfl) (Nat.le_of_ble_eq_true rfl) (Nat.le_of_ble_eq_true rfl) ⟨Nat.le_refl _, Nat.le_add_right _ _⟩ ⟨_, rfl, (by decide), (by first | exact ⟨rfl, Or.inl ⟨rfl, SUB.iff.2 (Or.inl (by omega))⟩⟩ | exact ⟨rfl, Or.inl ⟨rfl, SUB.iff.2 (Or.inr ⟨i, by omega, or_l hz1 (by omega)⟩)⟩⟩ | exact ⟨rfl, Or.inr ⟨rfl, fun w9 => (SUB.iff.1 w9).elim (fun e => hn.1 e) (fun ⟨j, hj, w8⟩ => hn.2 j hj.1 (by omega) w8)⟩⟩)⟩
          · refine tz_aload_n (pc := 18) dX12_isIn_18 rfl rfl ?_
            refine tz_iload_n (pc := 19) dX12_isIn_19 rfl rfl ?_
            refine tz_aload_n (pc := 20) dX12_isIn_20 rfl rfl ?_
            refine tz_iload_n (pc := 21) dX12_isIn_21 rfl rfl ?_
            refine tz_iload_n (pc := 22) dX12_isIn_22 rfl rfl ?_
            refine tz_cV (pc := 23) (m_arg hl n _ _ _ (by omega) (by omega) b r d s m hM (by omega) (by omega)) vl_X12_88 dX12_isIn_23 o_164 rfl rfl (Nat.le_of_ble_eq_true rfl) ⟨(show 0 + 1 ≤ 3 + 1 * (r9 + 1) by omega), (show 8 + (3 + 11) + 40 * (0) ≤ 40 * (3 + 1 * (r9 + 1)) by omega)⟩ rfl rfl (Nat.le_of_ble_eq_true rfl) (Nat.le_of_ble_eq_true rfl) (fun r9 J_23 hq9 => ?_)
            obtain ⟨z_23, rfl, hz_23, rfl, rfl⟩ := hq9
            have hg := hM.arg (t := t) (i := i) ht (by omega)
            refine tz_cV (pc := 26) (ih _ _ _ (by omega) (by omega) b r d s m hM (by omega) (by omega)) vl_X12_132 dX12_isIn_26 o_164 rfl rfl (Nat.le_of_ble_eq_true rfl) ⟨(show (3 + 1 * r9) + 1 ≤ 3 + 1 * (r9 + 1) by omega), (show 8 + (4 + 11) + 40 * ((3 + 1 * r9)) ≤ 40 * (3 + 1 * (r9 + 1)) by omega)⟩ rfl rfl (Nat.le_of_ble_eq_true rfl) (Nat.le_of_ble_eq_true rfl) (fun r9 J_26 hq9 => ?_)
            obtain ⟨z_26, rfl, hz_26, rfl, hz1⟩ := hq9
            have hz0 : z_26 = 0 ∨ z_26 = 1 := by omega
            refine tz_if_eq (pc := 29) (tgt := 34) dX12_isIn_29 (by decide) (by omega) (fun h_29 => ?_) (fun h_29 => ?_)
            · refine tz_iinc (pc := 34) (z := i + 1) (L2 := [_, _, _, _]) dX12_isIn_34 rfl (by omega) rfl ?_
              refine tz_goto (pc := 37) (tgt := 9) dX12_isIn_37 (by decide) ?_
              exact ih9 (i + 1) (by omega) (by omega) ⟨hn.1, fun j a b9 => (Decidable.em (j = i)).elim (fun e => by rw [e]; exact or_r hz1 (by omega)) (fun e => hn.2 j a (by omega))⟩
            · refine tz_iconst (pc := 32) dX12_isIn_32 ?_
              exact tz_zret (pc := 33) (z := 1) dX12_isIn_33 rfl (Or.inr rfl) (Nat.le_of_ble_eq_true rfl) (Nat.le_of_ble_eq_true rfl) ⟨Nat.le_refl _, Nat.le_add_right _ _⟩ ⟨_, rfl, (by decide), (by first | exact ⟨rfl, Or.inl ⟨rfl, SUB.iff.2 (Or.inl (by omega))⟩⟩ | exact ⟨rfl, Or.inl ⟨rfl, SUB.iff.2 (Or.inr ⟨i, by omega, or_l hz1 (by omega)⟩)⟩⟩ | exact ⟨rfl, Or.inr ⟨rfl, fun w9 => (SUB.iff.1 w9).elim (fun e => hn.1 e) (fun ⟨j, hj, w8⟩ => hn.2 j hj.1 (by omega) w8)⟩⟩)⟩
      exact loop9 _ 0 (Nat.lt_succ_self _) (by omega) ⟨by omega, fun j a b => absurd a (by omega)⟩
    · refine tz_iconst (pc := 5) dX12_isIn_5 ?_
      exact tz_zret (pc := 6) (z := 1) dX12_isIn_6 rfl (Or.inr rfl) (Nat.le_of_ble_eq_true rfl) (Nat.le_of_ble_eq_true rfl) ⟨Nat.le_refl _, Nat.le_add_right _ _⟩ ⟨_, rfl, (by decide), (by first | exact ⟨rfl, Or.inl ⟨rfl, SUB.iff.2 (Or.inl (by omega))⟩⟩ | exact ⟨rfl, Or.inl ⟨rfl, SUB.iff.2 (Or.inr ⟨i, by omega, or_l hz1 (by omega)⟩)⟩⟩ | exact ⟨rfl, Or.inr ⟨rfl, fun w9 => (SUB.iff.1 w9).elim (fun e => hn.1 e) (fun ⟨j, hj, w8⟩ => hn.2 j hj.1 (by omega) w8)⟩⟩)⟩

theorem e_isIn {l : Launch} {G : tb_G} (hl : l.stackTraces = false) (n : Nat) (J : zJ) (x t : Int) (hr_x : -2147483648 ≤ x ∧ x < 2147483648) (hr_t : -2147483648 ≤ t ∧ t < 2147483648) (b r d s m : Int) (hM : MS J b r d s m) (ht : 0 ≤ t ∧ t < m) : tz_Ok l G M_X12_isIn 10 0 0 [.ref 164, zi x, zi t] n J (zqi (fun z J' => J = J' ∧ ((z = 1 ∧ SUB (mar J b d) (mag J b) x t) ∨ (z = 0 ∧ ¬ SUB (mar J b d) (mag J b) x t)))) zN := e_isInR hl n 7 J x t hr_x hr_t b r d s m hM ht (by have := (hM.ar ht).2.2.1; omega)
set_option maxHeartbeats 4000000 in
set_option maxRecDepth 100000 in
theorem e_qshared {l : Launch} {G : tb_G} (hl : l.stackTraces = false) (n : Nat) (J : zJ) (t : Int) (hr_t : -2147483648 ≤ t ∧ t < 2147483648) (b r d s m : Int) (hM : MS J b r d s m) (ht : 0 ≤ t ∧ t < m) : tz_Ok l G M_X12_sharedOf 11 0 0 [.ref 164, zi t] n J (zqi (fun z J' => J = J' ∧ z = sumI (fun x => SUB (mar J b d) (mag J b) x t) m.toNat)) zN := by
  refine tz_Ok.of hl (by decide +kernel) rfl (tb_c1 rfl) (Nat.le_of_ble_eq_true rfl) ?_
  show tz_At l G M_X12_sharedOf (tb_rm 11 0 0) none (tb_ZM G 0 0 (zQ n 0 (zqi (fun z J' => J = J' ∧ z = sumI (fun x => SUB (mar J b d) (mag J b) x t) m.toNat))) (zX n 0 zN)) 0 0 n J 0 [some (.ref 164), some (zi t), none, none] []
  obtain ⟨hM1, hM2, hM3, hM4, hM5, hM6⟩ := id hM
  have hT := hM.told
  refine tz_iconst (pc := 0) dX12_sharedOf_0 ?_
  refine tz_istore_n (pc := 1) (L2 := [_, _, _, _]) dX12_sharedOf_1 rfl (by decide) rfl ?_
  refine tz_iconst (pc := 2) dX12_sharedOf_2 ?_
  refine tz_istore_n (pc := 3) (L2 := [_, _, _, _]) dX12_sharedOf_3 rfl (by decide) rfl ?_
  have loop4 : ∀ (f9 : Nat) (q : Int) (i : Int), ((m - i).toNat) < f9 → ((0 ≤ i ∧ i ≤ m) ∧ 0 ≤ q ∧ q ≤ i) → (q = sumI (fun x => SUB (mar J b d) (mag J b) x t) i.toNat) → tz_At l G M_X12_sharedOf (tb_rm 11 0 0) none (tb_ZM G 0 0 (zQ n 0 (zqi (fun z J' => J = J' ∧ z = sumI (fun x => SUB (mar J b d) (mag J b) x t) m.toNat))) (zX n 0 zN)) 0 0 n J 4 [some (.ref 164), some (zi t), some (zi q), some (zi i)] [] := by
    intro f9
    induction f9 with
    | zero => intro q i hm9; exact absurd hm9 (Nat.not_lt_zero _)
    | succ f9 ih4 =>
      intro q i hm4 hi hq
      refine tz_iload_n (pc := 4) dX12_sharedOf_4 rfl rfl ?_
      refine tz_aload_n (pc := 5) dX12_sharedOf_5 rfl rfl ?_
      refine tz_cV (pc := 6) (m_many hl n _ b r d s m hM) vl_X12_96 dX12_sharedOf_6 o_164 rfl rfl (Nat.le_of_ble_eq_true rfl) ⟨(Nat.le_of_ble_eq_true rfl), (Nat.le_of_ble_eq_true rfl)⟩ rfl rfl (Nat.le_of_ble_eq_true rfl) (Nat.le_of_ble_eq_true rfl) (fun r9 J_6 hq9 => ?_)
      obtain ⟨z_6, rfl, hz_6, rfl, rfl⟩ := hq9
      refine tz_icmp_ge (pc := 9) (tgt := 30) dX12_sharedOf_9 (by decide) (by omega) (by omega) (fun h_9 => ?_) (fun h_9 => ?_)
      · refine tz_iload_n (pc := 30) dX12_sharedOf_30 rfl rfl ?_
        exact tz_iret (pc := 31) (z := q) dX12_sharedOf_31 rfl (Nat.le_of_ble_eq_true rfl) (Nat.le_of_ble_eq_true rfl) ⟨Nat.le_refl _, Nat.le_add_right _ _⟩ ⟨_, rfl, (by omega), ⟨rfl, by rw [hq, show i = m from by omega]⟩⟩
      · refine tz_aload_n (pc := 12) dX12_sharedOf_12 rfl rfl ?_
        refine tz_iload_n (pc := 13) dX12_sharedOf_13 rfl rfl ?_
        refine tz_iload_n (pc := 14) dX12_sharedOf_14 rfl rfl ?_
        refine tz_cV (pc := 15) (e_isIn hl n _ _ _ (by omega) (by omega) b r d s m hM ht) vl_X12_132 dX12_sharedOf_15 o_164 rfl rfl (Nat.le_of_ble_eq_true rfl) ⟨(Nat.le_of_ble_eq_true rfl), (Nat.le_of_ble_eq_true rfl)⟩ rfl rfl (Nat.le_of_ble_eq_true rfl) (Nat.le_of_ble_eq_true rfl) (fun r9 J_15 hq9 => ?_)
        obtain ⟨z_15, rfl, hz_15, rfl, hz1⟩ := hq9
        refine tz_if_eq (pc := 18) (tgt := 24) dX12_sharedOf_18 (by decide) (by omega) (fun h_18 => ?_) (fun h_18 => ?_)
        · refine tz_iinc (pc := 24) (z := i + 1) (L2 := [_, _, _, _]) dX12_sharedOf_24 rfl (by omega) rfl ?_
          refine tz_goto (pc := 27) (tgt := 4) dX12_sharedOf_27 (by decide) ?_
          exact ih4 _ (i + 1) (by omega) (by omega) (by rw [sumI_s (by omega), ← hq]; first | (rw [ind_y (or_l hz1 (by omega))]) | (rw [ind_n (or_r hz1 (by omega))]; try omega))
        · refine tz_iinc (pc := 21) (z := q + 1) (L2 := [_, _, _, _]) dX12_sharedOf_21 rfl (by omega) rfl ?_
          refine tz_iinc (pc := 24) (z := i + 1) (L2 := [_, _, _, _]) dX12_sharedOf_24 rfl (by omega) rfl ?_
          refine tz_goto (pc := 27) (tgt := 4) dX12_sharedOf_27 (by decide) ?_
          exact ih4 _ (i + 1) (by omega) (by omega) (by rw [sumI_s (by omega), ← hq]; first | (rw [ind_y (or_l hz1 (by omega))]) | (rw [ind_n (or_r hz1 (by omega))]; try omega))
  exact loop4 _ 0 0 (Nat.lt_succ_self _) (by omega) rfl

def EIX (J : zJ) (b k t e n : Int) : Prop := (e = 1 ∧ ∃ j, (0 ≤ j ∧ j < n) ∧ J 167 (3 * (b + k) + j) = t) ∨ (e = 0 ∧ ¬ ∃ j, (0 ≤ j ∧ j < n) ∧ J 167 (3 * (b + k) + j) = t)
theorem EIX.z {J : zJ} {b k t : Int} : EIX J b k t 0 0 := Or.inr ⟨rfl, fun ⟨j, hj, _⟩ => by omega⟩
theorem EIX.y {J : zJ} {b k t e n : Int} (h : EIX J b k t e n) (he : ¬ e = 0) : EIX J b k t 1 (n + 1) := by
  rcases h with ⟨_, j, hj, w⟩ | ⟨a, _⟩
  · exact Or.inl ⟨rfl, j, by omega, w⟩
  · exact absurd a he
theorem EIX.f {J : zJ} {b k t n : Int} (hn : 0 ≤ n) (h : J 167 (3 * (b + k) + n) = t) : EIX J b k t 1 (n + 1) := Or.inl ⟨rfl, n, by omega, h⟩
theorem EIX.n {J : zJ} {b k t e n : Int} (h : EIX J b k t e n) (he : e = 0) (hn : ¬ J 167 (3 * (b + k) + n) = t) : EIX J b k t 0 (n + 1) := by
  rcases h with ⟨a, _⟩ | ⟨_, c⟩
  · omega
  · refine Or.inr ⟨rfl, fun ⟨j, hj, w⟩ => ?_⟩
    by_cases q : j = n
    · subst q
      exact hn w
    · exact c ⟨j, by omega, w⟩
theorem EIX.i {J : zJ} {b k t e n : Int} (h : EIX J b k t e n) : e = ind (∃ j, (0 ≤ j ∧ j < n) ∧ J 167 (3 * (b + k) + j) = t) := or_i h
set_option maxHeartbeats 4000000 in
set_option maxRecDepth 100000 in
theorem e_quses {l : Launch} {G : tb_G} (hl : l.stackTraces = false) (n : Nat) (J : zJ) (t : Int) (hr_t : -2147483648 ≤ t ∧ t < 2147483648) (b r d s m : Int) (hM : MS J b r d s m)  : tz_Ok l G M_X12_usesOf 3 0 0 [.ref 164, zi t] n J (zqi (fun z J' => J = J' ∧ z = sumI (fun x => ∃ j, (0 ≤ j ∧ j < mar J b d x) ∧ J 167 (3 * (b + x) + j) = t) m.toNat)) zN := by
  refine tz_Ok.of hl (by decide +kernel) rfl (tb_c1 rfl) (Nat.le_of_ble_eq_true rfl) ?_
  show tz_At l G M_X12_usesOf (tb_rm 3 0 0) none (tb_ZM G 0 0 (zQ n 0 (zqi (fun z J' => J = J' ∧ z = sumI (fun x => ∃ j, (0 ≤ j ∧ j < mar J b d x) ∧ J 167 (3 * (b + x) + j) = t) m.toNat))) (zX n 0 zN)) 0 0 n J 0 [some (.ref 164), some (zi t), none, none, none, none] []
  obtain ⟨hM1, hM2, hM3, hM4, hM5, hM6⟩ := id hM
  have hT := hM.told
  refine tz_iconst (pc := 0) dX12_usesOf_0 ?_
  refine tz_istore_n (pc := 1) (L2 := [_, _, _, _, _, _]) dX12_usesOf_1 rfl (by decide) rfl ?_
  refine tz_iconst (pc := 2) dX12_usesOf_2 ?_
  refine tz_istore_n (pc := 3) (L2 := [_, _, _, _, _, _]) dX12_usesOf_3 rfl (by decide) rfl ?_
  have loop4 : ∀ (f9 : Nat) (q : Int) (k : Int) (d4 : Option Value) (d5 : Option Value), ((m - k).toNat) < f9 → (0 ≤ q ∧ q ≤ k) → (0 ≤ k ∧ k ≤ m) → (q = sumI (fun x => ∃ j, (0 ≤ j ∧ j < mar J b d x) ∧ J 167 (3 * (b + x) + j) = t) k.toNat) → tz_At l G M_X12_usesOf (tb_rm 3 0 0) none (tb_ZM G 0 0 (zQ n 0 (zqi (fun z J' => J = J' ∧ z = sumI (fun x => ∃ j, (0 ≤ j ∧ j < mar J b d x) ∧ J 167 (3 * (b + x) + j) = t) m.toNat))) (zX n 0 zN)) 0 0 n J 4 [some (.ref 164), some (zi t), some (zi q), some (zi k), d4, d5] [] := by
    intro f9
    induction f9 with
    | zero => intro q k d4 d5 hm9; exact absurd hm9 (Nat.not_lt_zero _)
    | succ f9 ih4 =>
      intro q k d4 d5 hm4 hq hk hs
      refine tz_iload_n (pc := 4) dX12_usesOf_4 rfl rfl ?_
      refine tz_aload_n (pc := 5) dX12_usesOf_5 rfl rfl ?_
      refine tz_cV (pc := 6) (m_many hl n _ b r d s m hM) vl_X12_96 dX12_usesOf_6 o_164 rfl rfl (Nat.le_of_ble_eq_true rfl) ⟨(Nat.le_of_ble_eq_true rfl), (Nat.le_of_ble_eq_true rfl)⟩ rfl rfl (Nat.le_of_ble_eq_true rfl) (Nat.le_of_ble_eq_true rfl) (fun r9 J_6 hq9 => ?_)
      obtain ⟨z_6, rfl, hz_6, rfl, rfl⟩ := hq9
      refine tz_icmp_ge (pc := 9) (tgt := 76) dX12_usesOf_9 (by decide) (by omega) (by omega) (fun h_9 => ?_) (fun h_9 => ?_)
      · refine tz_iload_n (pc := 76) dX12_usesOf_76 rfl rfl ?_
        exact tz_iret (pc := 77) (z := q) dX12_usesOf_77 rfl (Nat.le_of_ble_eq_true rfl) (Nat.le_of_ble_eq_true rfl) ⟨Nat.le_refl _, Nat.le_add_right _ _⟩ ⟨_, rfl, (by omega), ⟨rfl, by rw [hs, show k = m from by omega]⟩⟩
      · refine tz_iconst (pc := 12) dX12_usesOf_12 ?_
        refine tz_istore (pc := 13) (L2 := [_, _, _, _, _, _]) dX12_usesOf_13 (by decide) rfl ?_
        refine tz_iconst (pc := 15) dX12_usesOf_15 ?_
        refine tz_istore (pc := 16) (L2 := [_, _, _, _, _, _]) dX12_usesOf_16 (by decide) rfl ?_
        have loop18 : ∀ (f9 : Nat) (e : Int) (i : Int), ((3 - i).toNat) < f9 → (e = 0 ∨ e = 1) → (0 ≤ i ∧ i ≤ mar J b d k) → (EIX J b k t e i) → tz_At l G M_X12_usesOf (tb_rm 3 0 0) none (tb_ZM G 0 0 (zQ n 0 (zqi (fun z J' => J = J' ∧ z = sumI (fun x => ∃ j, (0 ≤ j ∧ j < mar J b d x) ∧ J 167 (3 * (b + x) + j) = t) m.toNat))) (zX n 0 zN)) 0 0 n J 18 [some (.ref 164), some (zi t), some (zi q), some (zi k), some (zi e), some (zi i)] [] := by
          intro f9
          induction f9 with
          | zero => intro e i hm9; exact absurd hm9 (Nat.not_lt_zero _)
          | succ f9 ih18 =>
            intro e i hm18 he hi hx9
            have ha9 := hM.ar (t := k) (by omega)
            refine tz_iload (pc := 18) dX12_usesOf_18 rfl ?_
            refine tz_aload_n (pc := 20) dX12_usesOf_20 rfl rfl ?_
            refine tz_iload_n (pc := 21) dX12_usesOf_21 rfl rfl ?_
            refine tz_cV (pc := 22) (m_arity hl n _ _ (by omega) b r d s m hM (by omega)) vl_X12_111 dX12_usesOf_22 o_164 rfl rfl (Nat.le_of_ble_eq_true rfl) ⟨(Nat.le_of_ble_eq_true rfl), (Nat.le_of_ble_eq_true rfl)⟩ rfl rfl (Nat.le_of_ble_eq_true rfl) (Nat.le_of_ble_eq_true rfl) (fun r9 J_22 hq9 => ?_)
            obtain ⟨z_22, rfl, hz_22, rfl, rfl⟩ := hq9
            refine tz_icmp_ge (pc := 25) (tgt := 57) dX12_usesOf_25 (by decide) (by omega) (by omega) (fun h_25 => ?_) (fun h_25 => ?_)
            · refine tz_iload_n (pc := 57) dX12_usesOf_57 rfl rfl ?_
              refine tz_iload (pc := 58) dX12_usesOf_58 rfl ?_
              refine tz_if_eq (pc := 60) (tgt := 67) dX12_usesOf_60 (by decide) (by omega) (fun h_60 => ?_) (fun h_60 => ?_)
              · refine tz_iconst (pc := 67) dX12_usesOf_67 ?_
                refine tz_iadd (pc := 68) (v := q + 0) dX12_usesOf_68 rfl ?_
                refine tz_istore_n (pc := 69) (L2 := [_, _, _, _, _, _]) dX12_usesOf_69 rfl (by decide) rfl ?_
                refine tz_iinc (pc := 70) (z := k + 1) (L2 := [_, _, _, _, _, _]) dX12_usesOf_70 rfl (by omega) rfl ?_
                refine tz_goto (pc := 73) (tgt := 4) dX12_usesOf_73 (by decide) ?_
                have ei9 : i = mar J b d k := by omega
                rw [ei9] at hx9
                exact ih4 _ (k + 1) _ _ (by omega) (by omega) (by omega) (by rw [sumI_s (by omega), ← hs, ← hx9.i]; omega)
              · refine tz_iconst (pc := 63) dX12_usesOf_63 ?_
                refine tz_goto (pc := 64) (tgt := 68) dX12_usesOf_64 (by decide) ?_
                refine tz_iadd (pc := 68) (v := q + 1) dX12_usesOf_68 rfl ?_
                refine tz_istore_n (pc := 69) (L2 := [_, _, _, _, _, _]) dX12_usesOf_69 rfl (by decide) rfl ?_
                refine tz_iinc (pc := 70) (z := k + 1) (L2 := [_, _, _, _, _, _]) dX12_usesOf_70 rfl (by omega) rfl ?_
                refine tz_goto (pc := 73) (tgt := 4) dX12_usesOf_73 (by decide) ?_
                have ei9 : i = mar J b d k := by omega
                rw [ei9] at hx9
                exact ih4 _ (k + 1) _ _ (by omega) (by omega) (by omega) (by rw [sumI_s (by omega), ← hs, ← hx9.i]; omega)
            · refine tz_iload (pc := 28) dX12_usesOf_28 rfl ?_
              refine tz_if_ne (pc := 30) (tgt := 44) dX12_usesOf_30 (by decide) (by omega) (fun h_30 => ?_) (fun h_30 => ?_)
              · refine tz_iconst (pc := 44) dX12_usesOf_44 ?_
                refine tz_goto (pc := 45) (tgt := 49) dX12_usesOf_45 (by decide) ?_
                refine tz_istore (pc := 49) (L2 := [_, _, _, _, _, _]) dX12_usesOf_49 (by decide) rfl ?_
                refine tz_iinc (pc := 51) (z := i + 1) (L2 := [_, _, _, _, _, _]) dX12_usesOf_51 rfl (by omega) rfl ?_
                refine tz_goto (pc := 54) (tgt := 18) dX12_usesOf_54 (by decide) ?_
                exact ih18 _ (i + 1) (by omega) (by omega) (by omega) (by first | exact hx9.y (by omega) | exact EIX.f (by omega) (by omega) | exact hx9.n (by omega) (by omega))
              · refine tz_aload_n (pc := 33) dX12_usesOf_33 rfl rfl ?_
                refine tz_iload_n (pc := 34) dX12_usesOf_34 rfl rfl ?_
                refine tz_iload (pc := 35) dX12_usesOf_35 rfl ?_
                refine tz_cV (pc := 37) (m_arg hl n _ _ _ (by omega) (by omega) b r d s m hM (by omega) (by omega)) vl_X12_88 dX12_usesOf_37 o_164 rfl rfl (Nat.le_of_ble_eq_true rfl) ⟨(Nat.le_of_ble_eq_true rfl), (Nat.le_of_ble_eq_true rfl)⟩ rfl rfl (Nat.le_of_ble_eq_true rfl) (Nat.le_of_ble_eq_true rfl) (fun r9 J_37 hq9 => ?_)
                obtain ⟨z_37, rfl, hz_37, rfl, rfl⟩ := hq9
                refine tz_iload_n (pc := 40) dX12_usesOf_40 rfl rfl ?_
                refine tz_icmp_ne (pc := 41) (tgt := 48) dX12_usesOf_41 (by decide) (by omega) (by omega) (fun h_41 => ?_) (fun h_41 => ?_)
                · refine tz_iconst (pc := 48) dX12_usesOf_48 ?_
                  refine tz_istore (pc := 49) (L2 := [_, _, _, _, _, _]) dX12_usesOf_49 (by decide) rfl ?_
                  refine tz_iinc (pc := 51) (z := i + 1) (L2 := [_, _, _, _, _, _]) dX12_usesOf_51 rfl (by omega) rfl ?_
                  refine tz_goto (pc := 54) (tgt := 18) dX12_usesOf_54 (by decide) ?_
                  exact ih18 _ (i + 1) (by omega) (by omega) (by omega) (by first | exact hx9.y (by omega) | exact EIX.f (by omega) (by omega) | exact hx9.n (by omega) (by omega))
                · refine tz_iconst (pc := 44) dX12_usesOf_44 ?_
                  refine tz_goto (pc := 45) (tgt := 49) dX12_usesOf_45 (by decide) ?_
                  refine tz_istore (pc := 49) (L2 := [_, _, _, _, _, _]) dX12_usesOf_49 (by decide) rfl ?_
                  refine tz_iinc (pc := 51) (z := i + 1) (L2 := [_, _, _, _, _, _]) dX12_usesOf_51 rfl (by omega) rfl ?_
                  refine tz_goto (pc := 54) (tgt := 18) dX12_usesOf_54 (by decide) ?_
                  exact ih18 _ (i + 1) (by omega) (by omega) (by omega) (by first | exact hx9.y (by omega) | exact EIX.f (by omega) (by omega) | exact hx9.n (by omega) (by omega))
        exact loop18 _ 0 0 (Nat.lt_succ_self _) (by omega) (by have := (hM.ar (t := k) (by omega)).1; omega) EIX.z
  exact loop4 _ 0 0 none none (Nat.lt_succ_self _) (by omega) (by omega) rfl

set_option maxHeartbeats 4000000 in
set_option maxRecDepth 100000 in
theorem e_qvarsR {l : Launch} {G : tb_G} (hl : l.stackTraces = false) (n : Nat) : ∀ (r9 : Nat) (J : zJ) (t : Int) (hr_t : -2147483648 ≤ t ∧ t < 2147483648) (b r d s m : Int) (hM : MS J b r d s m) (ht : 0 ≤ t ∧ t < m), ((J 168 (b + t)).toNat) < r9 → tz_Ok l G M_X12_variablesIn (3 + 1 * r9) 0 0 [.ref 164, zi t] n J (zqi (fun z J' => J = J' ∧ ∀ k9 : Nat, J 168 (b + t) ≤ k9 → vsF (mv0 J b) (mar J b d) (mag J b) k9 t = z)) zN := by
  intro r9
  induction r9 with
  | zero => intro J t hr_t b r d s m hM ht hm9; exact absurd hm9 (Nat.not_lt_zero _)
  | succ r9 ih =>
    intro J t hr_t b r d s m hM ht hm9
    refine tz_Ok.of hl (by decide +kernel) rfl (tb_c1 rfl) (Nat.le_of_ble_eq_true rfl) ?_
    show tz_At l G M_X12_variablesIn (tb_rm (3 + 1 * (r9 + 1)) 0 0) none (tb_ZM G 0 0 (zQ n 0 (zqi (fun z J' => J = J' ∧ ∀ k9 : Nat, J 168 (b + t) ≤ k9 → vsF (mv0 J b) (mar J b d) (mag J b) k9 t = z))) (zX n 0 zN)) 0 0 n J 0 [some (.ref 164), some (zi t), none, none] []
    obtain ⟨hM1, hM2, hM3, hM4, hM5, hM6⟩ := id hM
    have hT := hM.told
    have ha := hM.ar ht
    refine tz_aload_n (pc := 0) dX12_variablesIn_0 rfl rfl ?_
    refine tz_iload_n (pc := 1) dX12_variablesIn_1 rfl rfl ?_
    refine tz_cV (pc := 2) (m_isVar hl n _ _ (by omega) b r d s m hM (by omega)) vl_X12_78 dX12_variablesIn_2 o_164 rfl rfl (Nat.le_of_ble_eq_true rfl) ⟨(show 1 + 1 ≤ 3 + 1 * (r9 + 1) by omega), (show 8 + (2 + 11) + 40 * (1) ≤ 40 * (3 + 1 * (r9 + 1)) by omega)⟩ rfl rfl (Nat.le_of_ble_eq_true rfl) (Nat.le_of_ble_eq_true rfl) (fun r9 J_2 hq9 => ?_)
    obtain ⟨z_2, rfl, hz_2, rfl, rfl⟩ := hq9
    by_cases hw_5 : J 166 (b + t) < 0
    · rw [show (if J 166 (b + t) < 0 then 1 else 0 : Int) = 1 from if_pos hw_5]
      refine tz_if_eqF (pc := 5) (tgt := 18) (by decide) dX12_variablesIn_5 (by decide) (by decide) ?_
      refine tz_iconst (pc := 8) dX12_variablesIn_8 ?_
      refine tz_aload_n (pc := 9) dX12_variablesIn_9 rfl rfl ?_
      refine tz_iload_n (pc := 10) dX12_variablesIn_10 rfl rfl ?_
      refine tz_cV (pc := 11) (m_varOf hl n _ _ (by omega) b r d s m hM (by omega)) vl_X12_123 dX12_variablesIn_11 o_164 rfl rfl (Nat.le_of_ble_eq_true rfl) ⟨(show 1 + 1 ≤ 3 + 1 * (r9 + 1) by omega), (show 8 + (2 + 11) + 40 * (1) ≤ 40 * (3 + 1 * (r9 + 1)) by omega)⟩ rfl rfl (Nat.le_of_ble_eq_true rfl) (Nat.le_of_ble_eq_true rfl) (fun r9 J_11 hq9 => ?_)
      obtain ⟨z_11, rfl, hz_11, rfl, rfl⟩ := hq9
      refine tz_ishl (pc := 14) (v := zshl 1 (-1 - J 166 (b + t))) dX12_variablesIn_14 rfl ?_
      have r_14 := zshl_rg 1 (-1 - J 166 (b + t))
      refine tz_goto (pc := 15) (tgt := 19) dX12_variablesIn_15 (by decide) ?_
      refine tz_istore_n (pc := 19) (L2 := [_, _, _, _]) dX12_variablesIn_19 rfl (by decide) rfl ?_
      refine tz_iconst (pc := 20) dX12_variablesIn_20 ?_
      refine tz_istore_n (pc := 21) (L2 := [_, _, _, _]) dX12_variablesIn_21 rfl (by decide) rfl ?_
      have loop22 : ∀ (f9 : Nat) (q : Int) (i : Int), ((3 - i).toNat) < f9 → (-2147483648 ≤ q ∧ q < 2147483648) → (0 ≤ i ∧ i ≤ mar J b d t) → (∀ k9 : Nat, J 168 (b + t) ≤ ((k9 + 1 : Nat) : Int) → vsP (vsF (mv0 J b) (mar J b d) (mag J b) k9) (mv0 J b) (mag J b) t i.toNat = q) → tz_At l G M_X12_variablesIn (tb_rm (3 + 1 * (r9 + 1)) 0 0) none (tb_ZM G 0 0 (zQ n 0 (zqi (fun z J' => J = J' ∧ ∀ k9 : Nat, J 168 (b + t) ≤ k9 → vsF (mv0 J b) (mar J b d) (mag J b) k9 t = z))) (zX n 0 zN)) 0 0 n J 22 [some (.ref 164), some (zi t), some (zi q), some (zi i)] [] := by
        intro f9
        induction f9 with
        | zero => intro q i hm9; exact absurd hm9 (Nat.not_lt_zero _)
        | succ f9 ih22 =>
          intro q i hm22 hq hi hv9
          refine tz_iload_n (pc := 22) dX12_variablesIn_22 rfl rfl ?_
          refine tz_aload_n (pc := 23) dX12_variablesIn_23 rfl rfl ?_
          refine tz_iload_n (pc := 24) dX12_variablesIn_24 rfl rfl ?_
          refine tz_cV (pc := 25) (m_arity hl n _ _ (by omega) b r d s m hM (by omega)) vl_X12_111 dX12_variablesIn_25 o_164 rfl rfl (Nat.le_of_ble_eq_true rfl) ⟨(show 2 + 1 ≤ 3 + 1 * (r9 + 1) by omega), (show 8 + (2 + 11) + 40 * (2) ≤ 40 * (3 + 1 * (r9 + 1)) by omega)⟩ rfl rfl (Nat.le_of_ble_eq_true rfl) (Nat.le_of_ble_eq_true rfl) (fun r9 J_25 hq9 => ?_)
          obtain ⟨z_25, rfl, hz_25, rfl, rfl⟩ := hq9
          refine tz_icmp_ge (pc := 28) (tgt := 50) dX12_variablesIn_28 (by decide) (by omega) (by omega) (fun h_28 => ?_) (fun h_28 => ?_)
          · refine tz_iload_n (pc := 50) dX12_variablesIn_50 rfl rfl ?_
            exact tz_iret (pc := 51) (z := q) dX12_variablesIn_51 rfl (Nat.le_of_ble_eq_true rfl) (Nat.le_of_ble_eq_true rfl) ⟨Nat.le_refl _, Nat.le_add_right _ _⟩ ⟨_, rfl, (by omega), ⟨rfl, fun k9 h9 => by obtain ⟨k8, rfl⟩ : ∃ k8, k9 = k8 + 1 := ⟨k9 - 1, by have := ha.2.2.1; omega⟩; show vsP _ _ _ t (mar J b d t).toNat = q; rw [show mar J b d t = i from by omega]; exact hv9 k8 h9⟩⟩
          · refine tz_iload_n (pc := 31) dX12_variablesIn_31 rfl rfl ?_
            refine tz_aload_n (pc := 32) dX12_variablesIn_32 rfl rfl ?_
            refine tz_aload_n (pc := 33) dX12_variablesIn_33 rfl rfl ?_
            refine tz_iload_n (pc := 34) dX12_variablesIn_34 rfl rfl ?_
            refine tz_iload_n (pc := 35) dX12_variablesIn_35 rfl rfl ?_
            refine tz_cV (pc := 36) (m_arg hl n _ _ _ (by omega) (by omega) b r d s m hM (by omega) (by omega)) vl_X12_88 dX12_variablesIn_36 o_164 rfl rfl (Nat.le_of_ble_eq_true rfl) ⟨(show 0 + 1 ≤ 3 + 1 * (r9 + 1) by omega), (show 8 + (3 + 11) + 40 * (0) ≤ 40 * (3 + 1 * (r9 + 1)) by omega)⟩ rfl rfl (Nat.le_of_ble_eq_true rfl) (Nat.le_of_ble_eq_true rfl) (fun r9 J_36 hq9 => ?_)
            obtain ⟨z_36, rfl, hz_36, rfl, rfl⟩ := hq9
            have hg := hM.arg (t := t) (i := i) ht (by omega)
            refine tz_cV (pc := 39) (ih _ _ (by omega) b r d s m hM (by omega) (by omega)) vl_X12_126 dX12_variablesIn_39 o_164 rfl rfl (Nat.le_of_ble_eq_true rfl) ⟨(show (3 + 1 * r9) + 1 ≤ 3 + 1 * (r9 + 1) by omega), (show 8 + (4 + 11) + 40 * ((3 + 1 * r9)) ≤ 40 * (3 + 1 * (r9 + 1)) by omega)⟩ rfl rfl (Nat.le_of_ble_eq_true rfl) (Nat.le_of_ble_eq_true rfl) (fun r9 J_39 hq9 => ?_)
            obtain ⟨z_39, rfl, hz_39, rfl, hz9⟩ := hq9
            refine tz_ior (pc := 42) (v := zor q z_39) dX12_variablesIn_42 rfl ?_
            have r_42 := zor_rg q z_39
            refine tz_istore_n (pc := 43) (L2 := [_, _, _, _]) dX12_variablesIn_43 rfl (by decide) rfl ?_
            refine tz_iinc (pc := 44) (z := i + 1) (L2 := [_, _, _, _]) dX12_variablesIn_44 rfl (by omega) rfl ?_
            refine tz_goto (pc := 47) (tgt := 22) dX12_variablesIn_47 (by decide) ?_
            exact ih22 _ (i + 1) (by omega) (by omega) (by omega) (fun k9 h9 => by rw [vsP_s (by omega), hv9 k9 h9]; show zor q (vsF (mv0 J b) (mar J b d) (mag J b) k9 (J 167 (3 * (b + t) + i))) = _; rw [hz9 k9 (by have := hg.2; omega)])
      exact loop22 _ _ 0 (Nat.lt_succ_self _) (zshl_rg _ _) (by omega) (fun k9 _ => (show mv0 J b t = _ from if_pos (by omega)))
    · rw [show (if J 166 (b + t) < 0 then 1 else 0 : Int) = 0 from if_neg hw_5]
      refine tz_if_eqT (pc := 5) (tgt := 18) (by decide) dX12_variablesIn_5 (by decide) (by decide) ?_
      refine tz_iconst (pc := 18) dX12_variablesIn_18 ?_
      refine tz_istore_n (pc := 19) (L2 := [_, _, _, _]) dX12_variablesIn_19 rfl (by decide) rfl ?_
      refine tz_iconst (pc := 20) dX12_variablesIn_20 ?_
      refine tz_istore_n (pc := 21) (L2 := [_, _, _, _]) dX12_variablesIn_21 rfl (by decide) rfl ?_
      have loop22 : ∀ (f9 : Nat) (q : Int) (i : Int), ((3 - i).toNat) < f9 → (-2147483648 ≤ q ∧ q < 2147483648) → (0 ≤ i ∧ i ≤ mar J b d t) → (∀ k9 : Nat, J 168 (b + t) ≤ ((k9 + 1 : Nat) : Int) → vsP (vsF (mv0 J b) (mar J b d) (mag J b) k9) (mv0 J b) (mag J b) t i.toNat = q) → tz_At l G M_X12_variablesIn (tb_rm (3 + 1 * (r9 + 1)) 0 0) none (tb_ZM G 0 0 (zQ n 0 (zqi (fun z J' => J = J' ∧ ∀ k9 : Nat, J 168 (b + t) ≤ k9 → vsF (mv0 J b) (mar J b d) (mag J b) k9 t = z))) (zX n 0 zN)) 0 0 n J 22 [some (.ref 164), some (zi t), some (zi q), some (zi i)] [] := by
        intro f9
        induction f9 with
        | zero => intro q i hm9; exact absurd hm9 (Nat.not_lt_zero _)
        | succ f9 ih22 =>
          intro q i hm22 hq hi hv9
          refine tz_iload_n (pc := 22) dX12_variablesIn_22 rfl rfl ?_
          refine tz_aload_n (pc := 23) dX12_variablesIn_23 rfl rfl ?_
          refine tz_iload_n (pc := 24) dX12_variablesIn_24 rfl rfl ?_
          refine tz_cV (pc := 25) (m_arity hl n _ _ (by omega) b r d s m hM (by omega)) vl_X12_111 dX12_variablesIn_25 o_164 rfl rfl (Nat.le_of_ble_eq_true rfl) ⟨(show 2 + 1 ≤ 3 + 1 * (r9 + 1) by omega), (show 8 + (2 + 11) + 40 * (2) ≤ 40 * (3 + 1 * (r9 + 1)) by omega)⟩ rfl rfl (Nat.le_of_ble_eq_true rfl) (Nat.le_of_ble_eq_true rfl) (fun r9 J_25 hq9 => ?_)
          obtain ⟨z_25, rfl, hz_25, rfl, rfl⟩ := hq9
          refine tz_icmp_ge (pc := 28) (tgt := 50) dX12_variablesIn_28 (by decide) (by omega) (by omega) (fun h_28 => ?_) (fun h_28 => ?_)
          · refine tz_iload_n (pc := 50) dX12_variablesIn_50 rfl rfl ?_
            exact tz_iret (pc := 51) (z := q) dX12_variablesIn_51 rfl (Nat.le_of_ble_eq_true rfl) (Nat.le_of_ble_eq_true rfl) ⟨Nat.le_refl _, Nat.le_add_right _ _⟩ ⟨_, rfl, (by omega), ⟨rfl, fun k9 h9 => by obtain ⟨k8, rfl⟩ : ∃ k8, k9 = k8 + 1 := ⟨k9 - 1, by have := ha.2.2.1; omega⟩; show vsP _ _ _ t (mar J b d t).toNat = q; rw [show mar J b d t = i from by omega]; exact hv9 k8 h9⟩⟩
          · refine tz_iload_n (pc := 31) dX12_variablesIn_31 rfl rfl ?_
            refine tz_aload_n (pc := 32) dX12_variablesIn_32 rfl rfl ?_
            refine tz_aload_n (pc := 33) dX12_variablesIn_33 rfl rfl ?_
            refine tz_iload_n (pc := 34) dX12_variablesIn_34 rfl rfl ?_
            refine tz_iload_n (pc := 35) dX12_variablesIn_35 rfl rfl ?_
            refine tz_cV (pc := 36) (m_arg hl n _ _ _ (by omega) (by omega) b r d s m hM (by omega) (by omega)) vl_X12_88 dX12_variablesIn_36 o_164 rfl rfl (Nat.le_of_ble_eq_true rfl) ⟨(show 0 + 1 ≤ 3 + 1 * (r9 + 1) by omega), (show 8 + (3 + 11) + 40 * (0) ≤ 40 * (3 + 1 * (r9 + 1)) by omega)⟩ rfl rfl (Nat.le_of_ble_eq_true rfl) (Nat.le_of_ble_eq_true rfl) (fun r9 J_36 hq9 => ?_)
            obtain ⟨z_36, rfl, hz_36, rfl, rfl⟩ := hq9
            have hg := hM.arg (t := t) (i := i) ht (by omega)
            refine tz_cV (pc := 39) (ih _ _ (by omega) b r d s m hM (by omega) (by omega)) vl_X12_126 dX12_variablesIn_39 o_164 rfl rfl (Nat.le_of_ble_eq_true rfl) ⟨(show (3 + 1 * r9) + 1 ≤ 3 + 1 * (r9 + 1) by omega), (show 8 + (4 + 11) + 40 * ((3 + 1 * r9)) ≤ 40 * (3 + 1 * (r9 + 1)) by omega)⟩ rfl rfl (Nat.le_of_ble_eq_true rfl) (Nat.le_of_ble_eq_true rfl) (fun r9 J_39 hq9 => ?_)
            obtain ⟨z_39, rfl, hz_39, rfl, hz9⟩ := hq9
            refine tz_ior (pc := 42) (v := zor q z_39) dX12_variablesIn_42 rfl ?_
            have r_42 := zor_rg q z_39
            refine tz_istore_n (pc := 43) (L2 := [_, _, _, _]) dX12_variablesIn_43 rfl (by decide) rfl ?_
            refine tz_iinc (pc := 44) (z := i + 1) (L2 := [_, _, _, _]) dX12_variablesIn_44 rfl (by omega) rfl ?_
            refine tz_goto (pc := 47) (tgt := 22) dX12_variablesIn_47 (by decide) ?_
            exact ih22 _ (i + 1) (by omega) (by omega) (by omega) (fun k9 h9 => by rw [vsP_s (by omega), hv9 k9 h9]; show zor q (vsF (mv0 J b) (mar J b d) (mag J b) k9 (J 167 (3 * (b + t) + i))) = _; rw [hz9 k9 (by have := hg.2; omega)])
      exact loop22 _ _ 0 (Nat.lt_succ_self _) (by decide) (by omega) (fun k9 _ => (show mv0 J b t = 0 from if_neg (by omega)))

theorem e_qvars {l : Launch} {G : tb_G} (hl : l.stackTraces = false) (n : Nat) (J : zJ) (t : Int) (hr_t : -2147483648 ≤ t ∧ t < 2147483648) (b r d s m : Int) (hM : MS J b r d s m) (ht : 0 ≤ t ∧ t < m) : tz_Ok l G M_X12_variablesIn 10 0 0 [.ref 164, zi t] n J (zqi (fun z J' => J = J' ∧ ∀ k9 : Nat, J 168 (b + t) ≤ k9 → vsF (mv0 J b) (mar J b d) (mag J b) k9 t = z)) zN := e_qvarsR hl n 7 J t hr_t b r d s m hM ht (by have := (hM.ar ht).2.2.1; omega)
theorem NOR.up {S : zJ} {t k : Int} (h : NOR S t k) (e : (omt S (S 165 (10 + 2 * k)) t).1 = false) : NOR S t (k + 1) := fun q a b => (Decidable.em (q = k)).elim (fun w => by rw [w]; exact e) (fun w => h q a (by omega))
theorem tbz_174 {J' J : zJ} (f : zOf (zbut [174]) J' J) : tbz J' = tbz J := by unfold tbz; rw [tb0_174 f]
theorem mar_174 {J' J : zJ} (f : zOf (zbut [174]) J' J) : mar J' 0 0 = mar J 0 0 := by
  funext t
  exact mar_c1 f
theorem mag_174 {J' J : zJ} (f : zOf (zbut [174]) J' J) : mag J' 0 = mag J 0 := by
  funext t i
  unfold mag
  rw [f 167 rfl]
set_option maxHeartbeats 4000000 in
set_option maxRecDepth 100000 in
theorem e_settledR {l : Launch} {G : tb_G} (hl : l.stackTraces = false) (n : Nat) : ∀ (r9 : Nat) (J : zJ) (t : Int) (hr_t : -2147483648 ≤ t ∧ t < 2147483648) (s m : Int) (hM : MS J 0 0 0 s m) (hR : MR (J 165) m) (ht : 0 ≤ t ∧ t < m), ((J 168 (0 + t)).toNat) < r9 → tz_Ok l G M_X12_isSettled (12 + 1 * r9) 0 0 [.ref 164, zi t] n J (zqi (fun z J' => ((z = 1 ∧ (∀ k, SUB (mar J 0 0) (mag J 0) k t → NOR (tbz J) k (J 165 9))) ∨ (z = 0 ∧ ¬ (∀ k, SUB (mar J 0 0) (mag J 0) k t → NOR (tbz J) k (J 165 9)))) ∧ zOf (zbut [174]) J' J)) zN := by
  intro r9
  induction r9 with
  | zero => intro J t hr_t s m hM hR ht hm9; exact absurd hm9 (Nat.not_lt_zero _)
  | succ r9 ih =>
    intro J t hr_t s m hM hR ht hm9
    refine tz_Ok.of hl (by decide +kernel) rfl (tb_c1 rfl) (Nat.le_of_ble_eq_true rfl) ?_
    show tz_At l G M_X12_isSettled (tb_rm (12 + 1 * (r9 + 1)) 0 0) none (tb_ZM G 0 0 (zQ n 0 (zqi (fun z J' => ((z = 1 ∧ (∀ k, SUB (mar J 0 0) (mag J 0) k t → NOR (tbz J) k (J 165 9))) ∨ (z = 0 ∧ ¬ (∀ k, SUB (mar J 0 0) (mag J 0) k t → NOR (tbz J) k (J 165 9)))) ∧ zOf (zbut [174]) J' J))) (zX n 0 zN)) 0 0 n J 0 [some (.ref 164), some (zi t), none] []
    obtain ⟨hM1, hM2, hM3, hM4, hM5, hM6⟩ := id hM
    have hT := hM.told
    have ha := hM.ar ht
    have hR1 := hR.1
    refine tz_iconst (pc := 0) dX12_isSettled_0 ?_
    refine tz_istore_n (pc := 1) (L2 := [_, _, _]) dX12_isSettled_1 rfl (by decide) rfl ?_
    have loop2 : ∀ (f9 : Nat) (k : Int) (J1 : zJ), ((8 - k).toNat) < f9 → (0 ≤ k ∧ k ≤ J 165 9) → (zOf (zbut [174]) J1 J) → (NOR (tbz J) t k) → tz_At l G M_X12_isSettled (tb_rm (12 + 1 * (r9 + 1)) 0 0) none (tb_ZM G 0 0 (zQ n 0 (zqi (fun z J' => ((z = 1 ∧ (∀ k, SUB (mar J 0 0) (mag J 0) k t → NOR (tbz J) k (J 165 9))) ∨ (z = 0 ∧ ¬ (∀ k, SUB (mar J 0 0) (mag J 0) k t → NOR (tbz J) k (J 165 9)))) ∧ zOf (zbut [174]) J' J))) (zX n 0 zN)) 0 0 n J1 2 [some (.ref 164), some (zi t), some (zi k)] [] := by
      intro f9
      induction f9 with
      | zero => intro k J1 hm9; exact absurd hm9 (Nat.not_lt_zero _)
      | succ f9 ih2 =>
        intro k J1 hm2 hk f1 hn
        refine tz_iload_n (pc := 2) dX12_isSettled_2 rfl rfl ?_
        refine tz_aload_n (pc := 3) dX12_isSettled_3 rfl rfl ?_
        refine tz_fR (pc := 4) dX12_isSettled_4 fl_X12_9 r_164_0 ?_
        refine tz_bipush (pc := 7) dX12_isSettled_7 (by decide) ?_
        refine tz_aL (pc := 9) (z := 9) (v := (J 165 9)) dX12_isSettled_9 a_165 rfl (by decide) (Eq.trans (congrFun (f1 165 rfl) 9) rfl) (fun r_9 => ?_)
        refine tz_icmp_ge (pc := 10) (tgt := 40) dX12_isSettled_10 (by decide) (by omega) (by omega) (fun h_10 => ?_) (fun h_10 => ?_)
        · refine tz_iconst (pc := 40) dX12_isSettled_40 ?_
          refine tz_istore_n (pc := 41) (L2 := [_, _, _]) dX12_isSettled_41 rfl (by decide) rfl ?_
          have loop42 : ∀ (f9 : Nat) (i : Int) (J3 : zJ), ((3 - i).toNat) < f9 → (0 ≤ i ∧ i ≤ mar J 0 0 t) → (zOf (zbut [174]) J3 J) → (NOR (tbz J) t (J 165 9) ∧ ∀ j, 0 ≤ j → j < i → ∀ k, SUB (mar J 0 0) (mag J 0) k (J 167 (3 * (0 + t) + j)) → NOR (tbz J) k (J 165 9)) → tz_At l G M_X12_isSettled (tb_rm (12 + 1 * (r9 + 1)) 0 0) none (tb_ZM G 0 0 (zQ n 0 (zqi (fun z J' => ((z = 1 ∧ (∀ k, SUB (mar J 0 0) (mag J 0) k t → NOR (tbz J) k (J 165 9))) ∨ (z = 0 ∧ ¬ (∀ k, SUB (mar J 0 0) (mag J 0) k t → NOR (tbz J) k (J 165 9)))) ∧ zOf (zbut [174]) J' J))) (zX n 0 zN)) 0 0 n J3 42 [some (.ref 164), some (zi t), some (zi i)] [] := by
            intro f9
            induction f9 with
            | zero => intro i J3 hm9; exact absurd hm9 (Nat.not_lt_zero _)
            | succ f9 ih42 =>
              intro i J3 hm42 hi f3 hs
              refine tz_iload_n (pc := 42) dX12_isSettled_42 rfl rfl ?_
              refine tz_aload_n (pc := 43) dX12_isSettled_43 rfl rfl ?_
              refine tz_iload_n (pc := 44) dX12_isSettled_44 rfl rfl ?_
              refine tz_cV (pc := 45) (m_arity hl n _ _ (by omega) 0 0 0 s m (hM.c1 f3 (by decide)) ht) vl_X12_111 dX12_isSettled_45 o_164 rfl rfl (Nat.le_of_ble_eq_true rfl) ⟨(show 2 + 1 ≤ 12 + 1 * (r9 + 1) by omega), (show 8 + (2 + 11) + 40 * (2) ≤ 40 * (12 + 1 * (r9 + 1)) by omega)⟩ rfl rfl (Nat.le_of_ble_eq_true rfl) (Nat.le_of_ble_eq_true rfl) (fun r9 J_45 hq9 => ?_)
              obtain ⟨za, rfl, hz_45, rfl, hv⟩ := hq9
              rw [mar_c1 (J := J) f3] at hv
              refine tz_icmp_ge (pc := 48) (tgt := 72) dX12_isSettled_48 (by decide) (by omega) (by omega) (fun h_48 => ?_) (fun h_48 => ?_)
              · refine tz_iconst (pc := 72) dX12_isSettled_72 ?_
                exact tz_zret (pc := 73) (z := 1) dX12_isSettled_73 rfl (Or.inr rfl) (Nat.le_of_ble_eq_true rfl) (Nat.le_of_ble_eq_true rfl) ⟨Nat.le_refl _, Nat.le_add_right _ _⟩ ⟨_, rfl, (by decide), ⟨Or.inl ⟨rfl, fun k8 u8 => (SUB.iff.1 u8).elim (fun e => by rw [e]; exact hs.1) (fun ⟨j, hj, w8⟩ => hs.2 j hj.1 (by omega) k8 w8)⟩, f3⟩⟩
              · refine tz_aload_n (pc := 51) dX12_isSettled_51 rfl rfl ?_
                refine tz_aload_n (pc := 52) dX12_isSettled_52 rfl rfl ?_
                refine tz_iload_n (pc := 53) dX12_isSettled_53 rfl rfl ?_
                refine tz_iload_n (pc := 54) dX12_isSettled_54 rfl rfl ?_
                have hA := hM.arg (t := t) (i := i) ht (by omega)
                refine tz_cV (pc := 55) (m_arg hl n _ _ _ (by omega) (by omega) 0 0 0 s m (hM.c1 f3 (by decide)) ht (by omega)) vl_X12_88 dX12_isSettled_55 o_164 rfl rfl (Nat.le_of_ble_eq_true rfl) ⟨(show 0 + 1 ≤ 12 + 1 * (r9 + 1) by omega), (show 8 + (3 + 11) + 40 * (0) ≤ 40 * (12 + 1 * (r9 + 1)) by omega)⟩ rfl rfl (Nat.le_of_ble_eq_true rfl) (Nat.le_of_ble_eq_true rfl) (fun r9 J_55 hq9 => ?_)
                obtain ⟨zb, rfl, hz_55, rfl, hw⟩ := hq9
                rw [f3 167 rfl] at hw
                refine tz_cV (pc := 58) (ih _ _ (by omega) s m (hM.c1 f3 (by decide)) (by rw [f3 165 rfl]; exact hR) (by omega) (by rw [f3 168 rfl, ← hw]; omega)) vl_X12_230 dX12_isSettled_58 o_164 rfl rfl (Nat.le_of_ble_eq_true rfl) ⟨(show (12 + 1 * r9) + 1 ≤ 12 + 1 * (r9 + 1) by omega), (show 8 + (3 + 11) + 40 * ((12 + 1 * r9)) ≤ 40 * (12 + 1 * (r9 + 1)) by omega)⟩ rfl rfl (Nat.le_of_ble_eq_true rfl) (Nat.le_of_ble_eq_true rfl) (fun r9 J_58 hq9 => ?_)
                obtain ⟨z_58, rfl, hz_58, b4, f4⟩ := hq9
                rw [mar_174 f3, mag_174 f3, tbz_174 f3, f3 165 rfl, ← hw] at b4
                have b0 : z_58 = 0 ∨ z_58 = 1 := by omega
                refine tz_if_ne (pc := 61) (tgt := 66) dX12_isSettled_61 (by decide) (by omega) (fun h_61 => ?_) (fun h_61 => ?_)
                · refine tz_iinc (pc := 66) (z := i + 1) (L2 := [_, _, _]) dX12_isSettled_66 rfl (by omega) rfl ?_
                  refine tz_goto (pc := 69) (tgt := 42) dX12_isSettled_69 (by decide) ?_
                  exact ih42 (i + 1) _ (by omega) (by omega) (f4.tr f3) ⟨hs.1, fun j a b => (Decidable.em (j = i)).elim (fun e => by rw [e]; exact or_l b4 (by omega)) (fun e => hs.2 j a (by omega))⟩
                · refine tz_iconst (pc := 64) dX12_isSettled_64 ?_
                  exact tz_zret (pc := 65) (z := 0) dX12_isSettled_65 rfl (Or.inl rfl) (Nat.le_of_ble_eq_true rfl) (Nat.le_of_ble_eq_true rfl) ⟨Nat.le_refl _, Nat.le_add_right _ _⟩ ⟨_, rfl, (by decide), ⟨Or.inr ⟨rfl, fun w9 => or_r b4 (by omega) (fun k8 u8 => w9 k8 (SUB.iff.2 (Or.inr ⟨i, by omega, u8⟩)))⟩, f4.tr f3⟩⟩
          exact loop42 _ 0 _ (Nat.lt_succ_self _) (by omega) f1 ⟨by rw [show J 165 9 = k from by omega]; exact hn, fun j a b => absurd a (by omega)⟩
        · refine tz_aload_n (pc := 13) dX12_isSettled_13 rfl rfl ?_
          refine tz_aload_n (pc := 14) dX12_isSettled_14 rfl rfl ?_
          refine tz_fR (pc := 15) dX12_isSettled_15 fl_X12_9 r_164_0 ?_
          refine tz_bipush (pc := 18) dX12_isSettled_18 (by decide) ?_
          refine tz_iconst (pc := 20) dX12_isSettled_20 ?_
          refine tz_iload_n (pc := 21) dX12_isSettled_21 rfl rfl ?_
          refine tz_imul (pc := 22) (v := 2 * k) dX12_isSettled_22 rfl ?_
          refine tz_iadd (pc := 23) (v := 10 + (2 * k)) dX12_isSettled_23 rfl ?_
          refine tz_aL (pc := 24) (z := (10 + (2 * k))) (v := (J 165 (10 + (2 * k)))) dX12_isSettled_24 a_165 rfl (by omega) (Eq.trans (congrFun (f1 165 rfl) (10 + (2 * k))) rfl) (fun r_24 => ?_)
          refine tz_iload_n (pc := 25) dX12_isSettled_25 rfl rfl ?_
          have hr9 := hR.2 k (by omega) (by omega)
          refine tz_cV (pc := 26) (x_doesMatch hl n _ _ _ (by omega) (by omega) 0 0 0 s m (hM.c1 f1 (by decide)) (by omega) ht) vl_X12_227 dX12_isSettled_26 o_164 rfl rfl (Nat.le_of_ble_eq_true rfl) ⟨(show 11 + 1 ≤ 12 + 1 * (r9 + 1) by omega), (show 8 + (4 + 11) + 40 * (11) ≤ 40 * (12 + 1 * (r9 + 1)) by omega)⟩ rfl rfl (Nat.le_of_ble_eq_true rfl) (Nat.le_of_ble_eq_true rfl) (fun r9 J_26 hq9 => ?_)
          obtain ⟨z_26, rfl, hz_26, ⟨σ9, qs, q1⟩, f2, g2⟩ := hq9
          have mz9 := mmt_z (hM.c1 f1 (by decide)) (σ := σ9) (p := J 165 (10 + 2 * k)) (t := t) (by omega) ht qs
          rw [tbz_174 f1] at mz9
          have row9 : tbz J 165 (10 + 2 * k) = J 165 (10 + 2 * k) := if_pos ⟨by omega, by omega⟩
          rw [← row9] at mz9
          have ok9 : ¬ z_26 = 0 → (omt (tbz J) (tbz J 165 (10 + 2 * k)) t).1 = true := fun q => mz9.1.symm.trans ((by rw [row9]; exact (q1.1.resolve_right (fun y => q y.2)).1))
          have no9 : z_26 = 0 → (omt (tbz J) (tbz J 165 (10 + 2 * k)) t).1 = false := fun q => mz9.1.symm.trans (by rw [row9]; exact (q1.1.resolve_left (fun y => by have := y.2; omega)).1)
          refine tz_if_eq (pc := 29) (tgt := 34) dX12_isSettled_29 (by decide) (by omega) (fun h_29 => ?_) (fun h_29 => ?_)
          · refine tz_iinc (pc := 34) (z := k + 1) (L2 := [_, _, _]) dX12_isSettled_34 rfl (by omega) rfl ?_
            refine tz_goto (pc := 37) (tgt := 2) dX12_isSettled_37 (by decide) ?_
            exact ih2 (k + 1) _ (by omega) (by omega) (f2.tr f1) (hn.up (no9 (by omega)))
          · refine tz_iconst (pc := 32) dX12_isSettled_32 ?_
            exact tz_zret (pc := 33) (z := 0) dX12_isSettled_33 rfl (Or.inl rfl) (Nat.le_of_ble_eq_true rfl) (Nat.le_of_ble_eq_true rfl) ⟨Nat.le_refl _, Nat.le_add_right _ _⟩ ⟨_, rfl, (by decide), ⟨Or.inr ⟨rfl, fun w9 => by have y9 := w9 t SUB.rf k (by omega) (by omega); rw [ok9 (by omega)] at y9; cases y9⟩, f2.tr f1⟩⟩
    exact loop2 _ 0 _ (Nat.lt_succ_self _) (by omega) zOf.rf (fun q a b => absurd a (by omega))

theorem e_settled {l : Launch} {G : tb_G} (hl : l.stackTraces = false) (n : Nat) (J : zJ) (t : Int) (hr_t : -2147483648 ≤ t ∧ t < 2147483648) (s m : Int) (hM : MS J 0 0 0 s m) (hR : MR (J 165) m) (ht : 0 ≤ t ∧ t < m) : tz_Ok l G M_X12_isSettled 19 0 0 [.ref 164, zi t] n J (zqi (fun z J' => ((z = 1 ∧ (∀ k, SUB (mar J 0 0) (mag J 0) k t → NOR (tbz J) k (J 165 9))) ∨ (z = 0 ∧ ¬ (∀ k, SUB (mar J 0 0) (mag J 0) k t → NOR (tbz J) k (J 165 9)))) ∧ zOf (zbut [174]) J' J)) zN := e_settledR hl n 7 J t hr_t s m hM hR ht (by have := (hM.ar ht).2.2.1; omega)
set_option maxHeartbeats 4000000 in
set_option maxRecDepth 100000 in
theorem e_qentryOf {l : Launch} {G : tb_G} (hl : l.stackTraces = false) (n : Nat) (J : zJ) (t : Int) (hr_t : -2147483648 ≤ t ∧ t < 2147483648)  (h0 : J 164 16 = 0) (h1 : 0 ≤ J 165 26 ∧ J 165 26 ≤ 12) : tz_Ok l G M_X12_entryOf 0 0 0 [.ref 164, zi t] n J (zqi (fun z J' => J = J' ∧ ((0 ≤ z ∧ z < J 165 26 ∧ J 165 (27 + z) = t ∧ ∀ i, 0 ≤ i → i < z → ¬ J 165 (27 + i) = t) ∨ (z = -1 ∧ ∀ i, 0 ≤ i → i < J 165 26 → ¬ J 165 (27 + i) = t)))) zN := by
  refine tz_Ok.of hl (by decide +kernel) rfl (tb_c1 rfl) (Nat.le_of_ble_eq_true rfl) ?_
  show tz_At l G M_X12_entryOf (tb_rm 0 0 0) none (tb_ZM G 0 0 (zQ n 0 (zqi (fun z J' => J = J' ∧ ((0 ≤ z ∧ z < J 165 26 ∧ J 165 (27 + z) = t ∧ ∀ i, 0 ≤ i → i < z → ¬ J 165 (27 + i) = t) ∨ (z = -1 ∧ ∀ i, 0 ≤ i → i < J 165 26 → ¬ J 165 (27 + i) = t))))) (zX n 0 zN)) 0 0 n J 0 [some (.ref 164), some (zi t), none] []
  refine tz_iconst (pc := 0) dX12_entryOf_0 ?_
  refine tz_istore_n (pc := 1) (L2 := [_, _, _]) dX12_entryOf_1 rfl (by decide) rfl ?_
  have loop2 : ∀ (f9 : Nat) (k : Int), ((12 - k).toNat) < f9 → (0 ≤ k ∧ k ≤ J 165 26) → (∀ i, 0 ≤ i → i < k → ¬ J 165 (27 + i) = t) → tz_At l G M_X12_entryOf (tb_rm 0 0 0) none (tb_ZM G 0 0 (zQ n 0 (zqi (fun z J' => J = J' ∧ ((0 ≤ z ∧ z < J 165 26 ∧ J 165 (27 + z) = t ∧ ∀ i, 0 ≤ i → i < z → ¬ J 165 (27 + i) = t) ∨ (z = -1 ∧ ∀ i, 0 ≤ i → i < J 165 26 → ¬ J 165 (27 + i) = t))))) (zX n 0 zN)) 0 0 n J 2 [some (.ref 164), some (zi t), some (zi k)] [] := by
    intro f9
    induction f9 with
    | zero => intro k hm9; exact absurd hm9 (Nat.not_lt_zero _)
    | succ f9 ih2 =>
      intro k hm2 hk hn
      have z26 : J 165 (0 + 26) = J 165 26 := rfl
      have z27 : J 165 (0 + 27 + k) = J 165 (27 + k) := congrArg (J 165) (by omega)
      refine tz_iload_n (pc := 2) dX12_entryOf_2 rfl rfl ?_
      refine tz_aload_n (pc := 3) dX12_entryOf_3 rfl rfl ?_
      refine tz_fR (pc := 4) dX12_entryOf_4 fl_X12_9 r_164_0 ?_
      refine tz_aload_n (pc := 7) dX12_entryOf_7 rfl rfl ?_
      refine tz_fI (pc := 8) (kz := 16) (v := 0) dX12_entryOf_8 fl_X12_85 i_164_16 rfl h0 (fun r_8 => ?_)
      refine tz_bipush (pc := 11) dX12_entryOf_11 (by decide) ?_
      refine tz_iadd (pc := 13) (v := 0 + 26) dX12_entryOf_13 rfl ?_
      refine tz_aL (pc := 14) (z := (0 + 26)) (v := (J 165 (0 + 26))) dX12_entryOf_14 a_165 rfl (by omega) rfl (fun r_14 => ?_)
      refine tz_icmp_ge (pc := 15) (tgt := 44) dX12_entryOf_15 (by decide) (by omega) (by omega) (fun h_15 => ?_) (fun h_15 => ?_)
      · refine tz_iconst (pc := 44) dX12_entryOf_44 ?_
        exact tz_iret (pc := 45) (z := (-1)) dX12_entryOf_45 rfl (Nat.le_of_ble_eq_true rfl) (Nat.le_of_ble_eq_true rfl) ⟨Nat.le_refl _, Nat.le_add_right _ _⟩ ⟨_, rfl, (by decide), (by first | exact ⟨rfl, Or.inl ⟨by omega, by omega, by omega, hn⟩⟩ | exact ⟨rfl, Or.inr ⟨rfl, fun i a b => hn i a (by omega)⟩⟩)⟩
      · refine tz_aload_n (pc := 18) dX12_entryOf_18 rfl rfl ?_
        refine tz_fR (pc := 19) dX12_entryOf_19 fl_X12_9 r_164_0 ?_
        refine tz_aload_n (pc := 22) dX12_entryOf_22 rfl rfl ?_
        refine tz_fI (pc := 23) (kz := 16) (v := 0) dX12_entryOf_23 fl_X12_85 i_164_16 rfl h0 (fun r_23 => ?_)
        refine tz_bipush (pc := 26) dX12_entryOf_26 (by decide) ?_
        refine tz_iadd (pc := 28) (v := 0 + 27) dX12_entryOf_28 rfl ?_
        refine tz_iload_n (pc := 29) dX12_entryOf_29 rfl rfl ?_
        refine tz_iadd (pc := 30) (v := (0 + 27) + k) dX12_entryOf_30 rfl ?_
        refine tz_aL (pc := 31) (z := ((0 + 27) + k)) (v := (J 165 ((0 + 27) + k))) dX12_entryOf_31 a_165 rfl (by omega) rfl (fun r_31 => ?_)
        refine tz_iload_n (pc := 32) dX12_entryOf_32 rfl rfl ?_
        refine tz_icmp_ne (pc := 33) (tgt := 38) dX12_entryOf_33 (by decide) (by omega) (by omega) (fun h_33 => ?_) (fun h_33 => ?_)
        · refine tz_iinc (pc := 38) (z := k + 1) (L2 := [_, _, _]) dX12_entryOf_38 rfl (by omega) rfl ?_
          refine tz_goto (pc := 41) (tgt := 2) dX12_entryOf_41 (by decide) ?_
          exact ih2 (k + 1) (by omega) (by omega) (fun i a b => (Decidable.em (i = k)).elim (fun e => by rw [e]; omega) (fun e => hn i a (by omega)))
        · refine tz_iload_n (pc := 36) dX12_entryOf_36 rfl rfl ?_
          exact tz_iret (pc := 37) (z := k) dX12_entryOf_37 rfl (Nat.le_of_ble_eq_true rfl) (Nat.le_of_ble_eq_true rfl) ⟨Nat.le_refl _, Nat.le_add_right _ _⟩ ⟨_, rfl, (by omega), (by first | exact ⟨rfl, Or.inl ⟨by omega, by omega, by omega, hn⟩⟩ | exact ⟨rfl, Or.inr ⟨rfl, fun i a b => hn i a (by omega)⟩⟩)⟩
  exact loop2 _ 0 (Nat.lt_succ_self _) (by omega) (fun i a b => absurd a (by omega))

set_option maxHeartbeats 4000000 in
set_option maxRecDepth 100000 in
theorem e_term {l : Launch} {G : tb_G} (hl : l.stackTraces = false) (n : Nat) (J : zJ) (t : Int) (u : Int) (hr_t : -2147483648 ≤ t ∧ t < 2147483648) (hr_u : -2147483648 ≤ u ∧ u < 2147483648) (m : Int) (S : zJ) (pn : Int) (RR : Int → Int → Int) (hI : CI J m) (h9 : J 145 10 < 1000000000) (cc : CAL J S pn RR) (h21 : S 164 21 = 0) : tz_Ok l G M_X11_term 10 1 6 [.ref 0, zi t, zi u] n J (zqi (fun z J' => CQ J' J ∧ CAL J' S pn RR ∧ ((0 ≤ t ∧ t < J 6 12) ∧ 0 ≤ u ∧ u ≤ 9) ∧ ((u = 0 → z = if J 7 t < 0 then -1 else J 7 t) ∧ (u = 1 → z = if J 7 t < 0 then -1 - J 7 t else -1) ∧ (u = 2 → z = J 10 t) ∧ (u = 3 → z = sumI (fun x => SUB (J 8) (cag J) x t) (t + 1).toNat) ∧ (u = 4 → z = J 12 t) ∧ (u = 5 → z = J 11 t) ∧ (u = 6 → z = J 13 t) ∧ (u = 7 → z = sumI (fun x => t < x ∧ (J 9 (x * 3 + 0) = t ∨ J 9 (x * 3 + 1) = t ∨ J 9 (x * 3 + 2) = t)) (J 6 12).toNat) ∧ (u = 8 → ((0 ≤ z ∧ z < J 19 5 ∧ J 19 (31 + z) = t ∧ ∀ i, 0 ≤ i → i < z → ¬ J 19 (31 + i) = t) ∨ (z = -1 ∧ ∀ i, 0 ≤ i → i < J 19 5 → ¬ J 19 (31 + i) = t))) ∧ (u = 9 → z = ind (∀ k, SUB (J 8) (cag J) k t → NOR S k (S 165 9)))))) (fun E J' => E = "java/util/NoSuchElementException" ∧ J = J' ∧ ¬ ((0 ≤ t ∧ t < J 6 12) ∧ 0 ≤ u ∧ u ≤ 9)) := by
  refine tz_Ok.of hl (by decide +kernel) rfl (tb_c1 rfl) (Nat.le_of_ble_eq_true rfl) ?_
  show tz_At l G M_X11_term (tb_rm 10 1 6) none (tb_ZM G 1 6 (zQ n 1 (zqi (fun z J' => CQ J' J ∧ CAL J' S pn RR ∧ ((0 ≤ t ∧ t < J 6 12) ∧ 0 ≤ u ∧ u ≤ 9) ∧ ((u = 0 → z = if J 7 t < 0 then -1 else J 7 t) ∧ (u = 1 → z = if J 7 t < 0 then -1 - J 7 t else -1) ∧ (u = 2 → z = J 10 t) ∧ (u = 3 → z = sumI (fun x => SUB (J 8) (cag J) x t) (t + 1).toNat) ∧ (u = 4 → z = J 12 t) ∧ (u = 5 → z = J 11 t) ∧ (u = 6 → z = J 13 t) ∧ (u = 7 → z = sumI (fun x => t < x ∧ (J 9 (x * 3 + 0) = t ∨ J 9 (x * 3 + 1) = t ∨ J 9 (x * 3 + 2) = t)) (J 6 12).toNat) ∧ (u = 8 → ((0 ≤ z ∧ z < J 19 5 ∧ J 19 (31 + z) = t ∧ ∀ i, 0 ≤ i → i < z → ¬ J 19 (31 + i) = t) ∨ (z = -1 ∧ ∀ i, 0 ≤ i → i < J 19 5 → ¬ J 19 (31 + i) = t))) ∧ (u = 9 → z = ind (∀ k, SUB (J 8) (cag J) k t → NOR S k (S 165 9))))))) (zX n 1 (fun E J' => E = "java/util/NoSuchElementException" ∧ J = J' ∧ ¬ ((0 ≤ t ∧ t < J 6 12) ∧ 0 ≤ u ∧ u ≤ 9)))) 0 0 n J 0 [some (.ref 0), some (zi t), some (zi u), none] []
  have hC := hI.1.1.1
  have hm := hI.1.1.2.1
  have hL := hI.1.1.2.2
  have hb := hC.told
  have hd7 : (0 ≤ t ∧ t < m) → -8 ≤ J 7 t := fun q9 => ((hC.ar q9.1 q9.2).2.2).1
  refine tz_aload_n (pc := 0) dX11_term_0 rfl rfl ?_
  refine tz_iload_n (pc := 1) dX11_term_1 rfl rfl ?_
  by_cases hh_2 : 0 ≤ t ∧ t < J 6 12
  · refine tz_cV (pc := 2) (c_need1 hl n _ _ (by omega) hh_2) vl_X11_216 dX11_term_2 o_0 rfl rfl (Nat.le_of_ble_eq_true rfl) ⟨(Nat.le_of_ble_eq_true rfl), (Nat.le_of_ble_eq_true rfl)⟩ rfl rfl (Nat.le_of_ble_eq_true rfl) (Nat.le_of_ble_eq_true rfl) (fun r9 J9 hq9 => ?_)
    obtain ⟨rfl, rfl⟩ := hq9
    refine tz_aload_n (pc := 5) dX11_term_5 rfl rfl ?_
    refine tz_fR (pc := 6) dX11_term_6 fl_X11_29 r_0_1 ?_
    refine tz_fR (pc := 9) dX11_term_9 fl_X11_49 r_5_0 ?_
    refine tz_astore_n (pc := 12) (L2 := [_, _, _, _]) dX11_term_12 rfl (by decide) rfl ?_
    refine tz_iload_n (pc := 13) dX11_term_13 rfl rfl ?_
    by_cases hs_14 : u < 0 ∨ 9 < u
    · refine tz_tabOut (pc := 14) (tgt := 177) dX11_term_14 (by omega) hs_14 (by decide) ?_
      exact tz_throwN (pc := 177) (text := "no such question of a term") th_X11_188_192 (by decide +kernel) rfl dX11_term_177 dX11_term_180 dX11_term_181 dX11_term_183 dX11_term_186 (Nat.le_of_ble_eq_true rfl) (Nat.le_of_ble_eq_true rfl) (Nat.le_of_ble_eq_true rfl) (Nat.le_of_ble_eq_true rfl) (Nat.le_of_ble_eq_true rfl) (Nat.le_of_ble_eq_true rfl) ⟨Nat.le_refl _, Nat.le_add_right _ _⟩ ⟨rfl, rfl, by omega⟩
    · have hs9 : u = 0 ∨ u = 1 ∨ u = 2 ∨ u = 3 ∨ u = 4 ∨ u = 5 ∨ u = 6 ∨ u = 7 ∨ u = 8 ∨ u = 9 := by omega
      rcases hs9 with hc_14 | hc_14 | hc_14 | hc_14 | hc_14 | hc_14 | hc_14 | hc_14 | hc_14 | hc_14
      · refine tz_tabIn (pc := 14) (tgt := 68) 0 dX11_term_14 hc_14 (by decide) rfl (by decide) ?_
        refine tz_aload_n (pc := 68) dX11_term_68 rfl rfl ?_
        refine tz_iload_n (pc := 69) dX11_term_69 rfl rfl ?_
        refine tz_cV (pc := 70) (c_isVar hl n _ _ (by omega) (by omega)) vl_X11_219 dX11_term_70 o_6 rfl rfl (Nat.le_of_ble_eq_true rfl) ⟨(Nat.le_of_ble_eq_true rfl), (Nat.le_of_ble_eq_true rfl)⟩ rfl rfl (Nat.le_of_ble_eq_true rfl) (Nat.le_of_ble_eq_true rfl) (fun r9 J_70 hq9 => ?_)
        obtain ⟨z_70, rfl, hz_70, rfl, rfl⟩ := hq9
        by_cases hw_73 : J 7 t < 0
        · rw [show (if J 7 t < 0 then 1 else 0 : Int) = 1 from if_pos hw_73]
          refine tz_if_eqF (pc := 73) (tgt := 80) (by decide) dX11_term_73 (by decide) (by decide) ?_
          refine tz_iconst (pc := 76) dX11_term_76 ?_
          refine tz_goto (pc := 77) (tgt := 86) dX11_term_77 (by decide) ?_
          exact tz_iret (pc := 86) (z := (-1)) dX11_term_86 rfl (Nat.le_of_ble_eq_true rfl) (Nat.le_of_ble_eq_true rfl) ⟨Nat.le_refl _, Nat.le_add_right _ _⟩ ⟨_, rfl, (by decide), (by first | (have hw := hI.work f1 rfl; exact ⟨⟨⟨m, hw.1⟩, by rw [hw.2.1]; omega, hw.2.2.1, hw.2.2.2⟩, cc.wk7 hI f1 rfl, by omega, ⟨(fun q9 => by first | exact absurd q9 (by omega) | exact (if_pos (by omega)).symm | exact (if_neg (by omega)).symm), (fun q9 => by first | exact absurd q9 (by omega) | exact (z_nn (by omega)).trans (if_pos (by omega)).symm | exact (if_neg (by omega)).symm), (fun q9 => by first | exact absurd q9 (by omega) | rfl), (fun q9 => by first | exact absurd q9 (by omega) | exact e3), (fun q9 => by first | exact absurd q9 (by omega) | rfl), (fun q9 => by first | exact absurd q9 (by omega) | rfl), (fun q9 => by first | exact absurd q9 (by omega) | rfl), (fun q9 => by first | exact absurd q9 (by omega) | exact e7), (fun q9 => by first | exact absurd q9 (by omega) | exact he8), (fun q9 => by first | exact absurd q9 (by omega) | exact (ind_y (or_l b9 (by omega))).symm | exact (ind_n (or_r b9 (by omega))).symm)⟩⟩) | exact ⟨CQ.rf hI, cc, by omega, ⟨(fun q9 => by first | exact absurd q9 (by omega) | exact (if_pos (by omega)).symm | exact (if_neg (by omega)).symm), (fun q9 => by first | exact absurd q9 (by omega) | exact (z_nn (by omega)).trans (if_pos (by omega)).symm | exact (if_neg (by omega)).symm), (fun q9 => by first | exact absurd q9 (by omega) | rfl), (fun q9 => by first | exact absurd q9 (by omega) | exact e3), (fun q9 => by first | exact absurd q9 (by omega) | rfl), (fun q9 => by first | exact absurd q9 (by omega) | rfl), (fun q9 => by first | exact absurd q9 (by omega) | rfl), (fun q9 => by first | exact absurd q9 (by omega) | exact e7), (fun q9 => by first | exact absurd q9 (by omega) | exact he8), (fun q9 => by first | exact absurd q9 (by omega) | exact (ind_y (or_l b9 (by omega))).symm | exact (ind_n (or_r b9 (by omega))).symm)⟩⟩)⟩
        · rw [show (if J 7 t < 0 then 1 else 0 : Int) = 0 from if_neg hw_73]
          refine tz_if_eqT (pc := 73) (tgt := 80) (by decide) dX11_term_73 (by decide) (by decide) ?_
          refine tz_aload_n (pc := 80) dX11_term_80 rfl rfl ?_
          refine tz_fR (pc := 81) dX11_term_81 fl_X11_222 r_6_1 ?_
          refine tz_iload_n (pc := 84) dX11_term_84 rfl rfl ?_
          refine tz_aL (pc := 85) (z := t) (v := (J 7 t)) dX11_term_85 a_7 rfl (by omega) rfl (fun r_85 => ?_)
          exact tz_iret (pc := 86) (z := (J 7 t)) dX11_term_86 rfl (Nat.le_of_ble_eq_true rfl) (Nat.le_of_ble_eq_true rfl) ⟨Nat.le_refl _, Nat.le_add_right _ _⟩ ⟨_, rfl, (by omega), (by first | (have hw := hI.work f1 rfl; exact ⟨⟨⟨m, hw.1⟩, by rw [hw.2.1]; omega, hw.2.2.1, hw.2.2.2⟩, cc.wk7 hI f1 rfl, by omega, ⟨(fun q9 => by first | exact absurd q9 (by omega) | exact (if_pos (by omega)).symm | exact (if_neg (by omega)).symm), (fun q9 => by first | exact absurd q9 (by omega) | exact (z_nn (by omega)).trans (if_pos (by omega)).symm | exact (if_neg (by omega)).symm), (fun q9 => by first | exact absurd q9 (by omega) | rfl), (fun q9 => by first | exact absurd q9 (by omega) | exact e3), (fun q9 => by first | exact absurd q9 (by omega) | rfl), (fun q9 => by first | exact absurd q9 (by omega) | rfl), (fun q9 => by first | exact absurd q9 (by omega) | rfl), (fun q9 => by first | exact absurd q9 (by omega) | exact e7), (fun q9 => by first | exact absurd q9 (by omega) | exact he8), (fun q9 => by first | exact absurd q9 (by omega) | exact (ind_y (or_l b9 (by omega))).symm | exact (ind_n (or_r b9 (by omega))).symm)⟩⟩) | exact ⟨CQ.rf hI, cc, by omega, ⟨(fun q9 => by first | exact absurd q9 (by omega) | exact (if_pos (by omega)).symm | exact (if_neg (by omega)).symm), (fun q9 => by first | exact absurd q9 (by omega) | exact (z_nn (by omega)).trans (if_pos (by omega)).symm | exact (if_neg (by omega)).symm), (fun q9 => by first | exact absurd q9 (by omega) | rfl), (fun q9 => by first | exact absurd q9 (by omega) | exact e3), (fun q9 => by first | exact absurd q9 (by omega) | rfl), (fun q9 => by first | exact absurd q9 (by omega) | rfl), (fun q9 => by first | exact absurd q9 (by omega) | rfl), (fun q9 => by first | exact absurd q9 (by omega) | exact e7), (fun q9 => by first | exact absurd q9 (by omega) | exact he8), (fun q9 => by first | exact absurd q9 (by omega) | exact (ind_y (or_l b9 (by omega))).symm | exact (ind_n (or_r b9 (by omega))).symm)⟩⟩)⟩
      · refine tz_tabIn (pc := 14) (tgt := 87) 1 dX11_term_14 hc_14 (by decide) rfl (by decide) ?_
        refine tz_aload_n (pc := 87) dX11_term_87 rfl rfl ?_
        refine tz_iload_n (pc := 88) dX11_term_88 rfl rfl ?_
        refine tz_cV (pc := 89) (c_isVar hl n _ _ (by omega) (by omega)) vl_X11_219 dX11_term_89 o_6 rfl rfl (Nat.le_of_ble_eq_true rfl) ⟨(Nat.le_of_ble_eq_true rfl), (Nat.le_of_ble_eq_true rfl)⟩ rfl rfl (Nat.le_of_ble_eq_true rfl) (Nat.le_of_ble_eq_true rfl) (fun r9 J_89 hq9 => ?_)
        obtain ⟨z_89, rfl, hz_89, rfl, rfl⟩ := hq9
        by_cases hw_92 : J 7 t < 0
        · rw [show (if J 7 t < 0 then 1 else 0 : Int) = 1 from if_pos hw_92]
          refine tz_if_eqF (pc := 92) (tgt := 106) (by decide) dX11_term_92 (by decide) (by decide) ?_
          refine tz_aload_n (pc := 95) dX11_term_95 rfl rfl ?_
          refine tz_fR (pc := 96) dX11_term_96 fl_X11_222 r_6_1 ?_
          refine tz_iload_n (pc := 99) dX11_term_99 rfl rfl ?_
          refine tz_aL (pc := 100) (z := t) (v := (J 7 t)) dX11_term_100 a_7 rfl (by omega) rfl (fun r_100 => ?_)
          refine tz_iconst (pc := 101) dX11_term_101 ?_
          refine tz_ixor (pc := 102) (v := zxor (J 7 t) (-1)) dX11_term_102 rfl ?_
          refine tz_goto (pc := 103) (tgt := 107) dX11_term_103 (by decide) ?_
          exact tz_iret (pc := 107) (z := (zxor (J 7 t) (-1))) dX11_term_107 rfl (Nat.le_of_ble_eq_true rfl) (Nat.le_of_ble_eq_true rfl) ⟨Nat.le_refl _, Nat.le_add_right _ _⟩ ⟨_, rfl, (zxor_rg _ _), (by first | (have hw := hI.work f1 rfl; exact ⟨⟨⟨m, hw.1⟩, by rw [hw.2.1]; omega, hw.2.2.1, hw.2.2.2⟩, cc.wk7 hI f1 rfl, by omega, ⟨(fun q9 => by first | exact absurd q9 (by omega) | exact (if_pos (by omega)).symm | exact (if_neg (by omega)).symm), (fun q9 => by first | exact absurd q9 (by omega) | exact (z_nn (by omega)).trans (if_pos (by omega)).symm | exact (if_neg (by omega)).symm), (fun q9 => by first | exact absurd q9 (by omega) | rfl), (fun q9 => by first | exact absurd q9 (by omega) | exact e3), (fun q9 => by first | exact absurd q9 (by omega) | rfl), (fun q9 => by first | exact absurd q9 (by omega) | rfl), (fun q9 => by first | exact absurd q9 (by omega) | rfl), (fun q9 => by first | exact absurd q9 (by omega) | exact e7), (fun q9 => by first | exact absurd q9 (by omega) | exact he8), (fun q9 => by first | exact absurd q9 (by omega) | exact (ind_y (or_l b9 (by omega))).symm | exact (ind_n (or_r b9 (by omega))).symm)⟩⟩) | exact ⟨CQ.rf hI, cc, by omega, ⟨(fun q9 => by first | exact absurd q9 (by omega) | exact (if_pos (by omega)).symm | exact (if_neg (by omega)).symm), (fun q9 => by first | exact absurd q9 (by omega) | exact (z_nn (by omega)).trans (if_pos (by omega)).symm | exact (if_neg (by omega)).symm), (fun q9 => by first | exact absurd q9 (by omega) | rfl), (fun q9 => by first | exact absurd q9 (by omega) | exact e3), (fun q9 => by first | exact absurd q9 (by omega) | rfl), (fun q9 => by first | exact absurd q9 (by omega) | rfl), (fun q9 => by first | exact absurd q9 (by omega) | rfl), (fun q9 => by first | exact absurd q9 (by omega) | exact e7), (fun q9 => by first | exact absurd q9 (by omega) | exact he8), (fun q9 => by first | exact absurd q9 (by omega) | exact (ind_y (or_l b9 (by omega))).symm | exact (ind_n (or_r b9 (by omega))).symm)⟩⟩)⟩
        · rw [show (if J 7 t < 0 then 1 else 0 : Int) = 0 from if_neg hw_92]
          refine tz_if_eqT (pc := 92) (tgt := 106) (by decide) dX11_term_92 (by decide) (by decide) ?_
          refine tz_iconst (pc := 106) dX11_term_106 ?_
          exact tz_iret (pc := 107) (z := (-1)) dX11_term_107 rfl (Nat.le_of_ble_eq_true rfl) (Nat.le_of_ble_eq_true rfl) ⟨Nat.le_refl _, Nat.le_add_right _ _⟩ ⟨_, rfl, (by decide), (by first | (have hw := hI.work f1 rfl; exact ⟨⟨⟨m, hw.1⟩, by rw [hw.2.1]; omega, hw.2.2.1, hw.2.2.2⟩, cc.wk7 hI f1 rfl, by omega, ⟨(fun q9 => by first | exact absurd q9 (by omega) | exact (if_pos (by omega)).symm | exact (if_neg (by omega)).symm), (fun q9 => by first | exact absurd q9 (by omega) | exact (z_nn (by omega)).trans (if_pos (by omega)).symm | exact (if_neg (by omega)).symm), (fun q9 => by first | exact absurd q9 (by omega) | rfl), (fun q9 => by first | exact absurd q9 (by omega) | exact e3), (fun q9 => by first | exact absurd q9 (by omega) | rfl), (fun q9 => by first | exact absurd q9 (by omega) | rfl), (fun q9 => by first | exact absurd q9 (by omega) | rfl), (fun q9 => by first | exact absurd q9 (by omega) | exact e7), (fun q9 => by first | exact absurd q9 (by omega) | exact he8), (fun q9 => by first | exact absurd q9 (by omega) | exact (ind_y (or_l b9 (by omega))).symm | exact (ind_n (or_r b9 (by omega))).symm)⟩⟩) | exact ⟨CQ.rf hI, cc, by omega, ⟨(fun q9 => by first | exact absurd q9 (by omega) | exact (if_pos (by omega)).symm | exact (if_neg (by omega)).symm), (fun q9 => by first | exact absurd q9 (by omega) | exact (z_nn (by omega)).trans (if_pos (by omega)).symm | exact (if_neg (by omega)).symm), (fun q9 => by first | exact absurd q9 (by omega) | rfl), (fun q9 => by first | exact absurd q9 (by omega) | exact e3), (fun q9 => by first | exact absurd q9 (by omega) | rfl), (fun q9 => by first | exact absurd q9 (by omega) | rfl), (fun q9 => by first | exact absurd q9 (by omega) | rfl), (fun q9 => by first | exact absurd q9 (by omega) | exact e7), (fun q9 => by first | exact absurd q9 (by omega) | exact he8), (fun q9 => by first | exact absurd q9 (by omega) | exact (ind_y (or_l b9 (by omega))).symm | exact (ind_n (or_r b9 (by omega))).symm)⟩⟩)⟩
      · refine tz_tabIn (pc := 14) (tgt := 108) 2 dX11_term_14 hc_14 (by decide) rfl (by decide) ?_
        refine tz_aload_n (pc := 108) dX11_term_108 rfl rfl ?_
        refine tz_fR (pc := 109) dX11_term_109 fl_X11_225 r_6_4 ?_
        refine tz_iload_n (pc := 112) dX11_term_112 rfl rfl ?_
        refine tz_aL (pc := 113) (z := t) (v := (J 10 t)) dX11_term_113 a_10 rfl (by omega) rfl (fun r_113 => ?_)
        exact tz_iret (pc := 114) (z := (J 10 t)) dX11_term_114 rfl (Nat.le_of_ble_eq_true rfl) (Nat.le_of_ble_eq_true rfl) ⟨Nat.le_refl _, Nat.le_add_right _ _⟩ ⟨_, rfl, (by omega), (by first | (have hw := hI.work f1 rfl; exact ⟨⟨⟨m, hw.1⟩, by rw [hw.2.1]; omega, hw.2.2.1, hw.2.2.2⟩, cc.wk7 hI f1 rfl, by omega, ⟨(fun q9 => by first | exact absurd q9 (by omega) | exact (if_pos (by omega)).symm | exact (if_neg (by omega)).symm), (fun q9 => by first | exact absurd q9 (by omega) | exact (z_nn (by omega)).trans (if_pos (by omega)).symm | exact (if_neg (by omega)).symm), (fun q9 => by first | exact absurd q9 (by omega) | rfl), (fun q9 => by first | exact absurd q9 (by omega) | exact e3), (fun q9 => by first | exact absurd q9 (by omega) | rfl), (fun q9 => by first | exact absurd q9 (by omega) | rfl), (fun q9 => by first | exact absurd q9 (by omega) | rfl), (fun q9 => by first | exact absurd q9 (by omega) | exact e7), (fun q9 => by first | exact absurd q9 (by omega) | exact he8), (fun q9 => by first | exact absurd q9 (by omega) | exact (ind_y (or_l b9 (by omega))).symm | exact (ind_n (or_r b9 (by omega))).symm)⟩⟩) | exact ⟨CQ.rf hI, cc, by omega, ⟨(fun q9 => by first | exact absurd q9 (by omega) | exact (if_pos (by omega)).symm | exact (if_neg (by omega)).symm), (fun q9 => by first | exact absurd q9 (by omega) | exact (z_nn (by omega)).trans (if_pos (by omega)).symm | exact (if_neg (by omega)).symm), (fun q9 => by first | exact absurd q9 (by omega) | rfl), (fun q9 => by first | exact absurd q9 (by omega) | exact e3), (fun q9 => by first | exact absurd q9 (by omega) | rfl), (fun q9 => by first | exact absurd q9 (by omega) | rfl), (fun q9 => by first | exact absurd q9 (by omega) | rfl), (fun q9 => by first | exact absurd q9 (by omega) | exact e7), (fun q9 => by first | exact absurd q9 (by omega) | exact he8), (fun q9 => by first | exact absurd q9 (by omega) | exact (ind_y (or_l b9 (by omega))).symm | exact (ind_n (or_r b9 (by omega))).symm)⟩⟩)⟩
      · refine tz_tabIn (pc := 14) (tgt := 115) 3 dX11_term_14 hc_14 (by decide) rfl (by decide) ?_
        refine tz_aload_n (pc := 115) dX11_term_115 rfl rfl ?_
        refine tz_iload_n (pc := 116) dX11_term_116 rfl rfl ?_
        refine tz_cV (pc := 117) (e_shared hl n _ _ (by omega) m hC (by omega)) vl_X11_228 dX11_term_117 o_6 rfl rfl (Nat.le_of_ble_eq_true rfl) ⟨(Nat.le_of_ble_eq_true rfl), (Nat.le_of_ble_eq_true rfl)⟩ rfl rfl (Nat.le_of_ble_eq_true rfl) (Nat.le_of_ble_eq_true rfl) (fun r9 J_117 hq9 => ?_)
        obtain ⟨z_117, rfl, hz_117, f1, e3⟩ := hq9
        exact tz_iret (pc := 120) (z := z_117) dX11_term_120 rfl (Nat.le_of_ble_eq_true rfl) (Nat.le_of_ble_eq_true rfl) ⟨Nat.le_refl _, Nat.le_add_right _ _⟩ ⟨_, rfl, (by omega), (by first | (have hw := hI.work f1 rfl; exact ⟨⟨⟨m, hw.1⟩, by rw [hw.2.1]; omega, hw.2.2.1, hw.2.2.2⟩, cc.wk7 hI f1 rfl, by omega, ⟨(fun q9 => by first | exact absurd q9 (by omega) | exact (if_pos (by omega)).symm | exact (if_neg (by omega)).symm), (fun q9 => by first | exact absurd q9 (by omega) | exact (z_nn (by omega)).trans (if_pos (by omega)).symm | exact (if_neg (by omega)).symm), (fun q9 => by first | exact absurd q9 (by omega) | rfl), (fun q9 => by first | exact absurd q9 (by omega) | exact e3), (fun q9 => by first | exact absurd q9 (by omega) | rfl), (fun q9 => by first | exact absurd q9 (by omega) | rfl), (fun q9 => by first | exact absurd q9 (by omega) | rfl), (fun q9 => by first | exact absurd q9 (by omega) | exact e7), (fun q9 => by first | exact absurd q9 (by omega) | exact he8), (fun q9 => by first | exact absurd q9 (by omega) | exact (ind_y (or_l b9 (by omega))).symm | exact (ind_n (or_r b9 (by omega))).symm)⟩⟩) | exact ⟨CQ.rf hI, cc, by omega, ⟨(fun q9 => by first | exact absurd q9 (by omega) | exact (if_pos (by omega)).symm | exact (if_neg (by omega)).symm), (fun q9 => by first | exact absurd q9 (by omega) | exact (z_nn (by omega)).trans (if_pos (by omega)).symm | exact (if_neg (by omega)).symm), (fun q9 => by first | exact absurd q9 (by omega) | rfl), (fun q9 => by first | exact absurd q9 (by omega) | exact e3), (fun q9 => by first | exact absurd q9 (by omega) | rfl), (fun q9 => by first | exact absurd q9 (by omega) | rfl), (fun q9 => by first | exact absurd q9 (by omega) | rfl), (fun q9 => by first | exact absurd q9 (by omega) | exact e7), (fun q9 => by first | exact absurd q9 (by omega) | exact he8), (fun q9 => by first | exact absurd q9 (by omega) | exact (ind_y (or_l b9 (by omega))).symm | exact (ind_n (or_r b9 (by omega))).symm)⟩⟩)⟩
      · refine tz_tabIn (pc := 14) (tgt := 121) 4 dX11_term_14 hc_14 (by decide) rfl (by decide) ?_
        refine tz_aload_n (pc := 121) dX11_term_121 rfl rfl ?_
        refine tz_fR (pc := 122) dX11_term_122 fl_X11_231 r_6_6 ?_
        refine tz_iload_n (pc := 125) dX11_term_125 rfl rfl ?_
        refine tz_aL (pc := 126) (z := t) (v := (J 12 t)) dX11_term_126 a_12 rfl (by omega) rfl (fun r_126 => ?_)
        exact tz_iret (pc := 127) (z := (J 12 t)) dX11_term_127 rfl (Nat.le_of_ble_eq_true rfl) (Nat.le_of_ble_eq_true rfl) ⟨Nat.le_refl _, Nat.le_add_right _ _⟩ ⟨_, rfl, (by omega), (by first | (have hw := hI.work f1 rfl; exact ⟨⟨⟨m, hw.1⟩, by rw [hw.2.1]; omega, hw.2.2.1, hw.2.2.2⟩, cc.wk7 hI f1 rfl, by omega, ⟨(fun q9 => by first | exact absurd q9 (by omega) | exact (if_pos (by omega)).symm | exact (if_neg (by omega)).symm), (fun q9 => by first | exact absurd q9 (by omega) | exact (z_nn (by omega)).trans (if_pos (by omega)).symm | exact (if_neg (by omega)).symm), (fun q9 => by first | exact absurd q9 (by omega) | rfl), (fun q9 => by first | exact absurd q9 (by omega) | exact e3), (fun q9 => by first | exact absurd q9 (by omega) | rfl), (fun q9 => by first | exact absurd q9 (by omega) | rfl), (fun q9 => by first | exact absurd q9 (by omega) | rfl), (fun q9 => by first | exact absurd q9 (by omega) | exact e7), (fun q9 => by first | exact absurd q9 (by omega) | exact he8), (fun q9 => by first | exact absurd q9 (by omega) | exact (ind_y (or_l b9 (by omega))).symm | exact (ind_n (or_r b9 (by omega))).symm)⟩⟩) | exact ⟨CQ.rf hI, cc, by omega, ⟨(fun q9 => by first | exact absurd q9 (by omega) | exact (if_pos (by omega)).symm | exact (if_neg (by omega)).symm), (fun q9 => by first | exact absurd q9 (by omega) | exact (z_nn (by omega)).trans (if_pos (by omega)).symm | exact (if_neg (by omega)).symm), (fun q9 => by first | exact absurd q9 (by omega) | rfl), (fun q9 => by first | exact absurd q9 (by omega) | exact e3), (fun q9 => by first | exact absurd q9 (by omega) | rfl), (fun q9 => by first | exact absurd q9 (by omega) | rfl), (fun q9 => by first | exact absurd q9 (by omega) | rfl), (fun q9 => by first | exact absurd q9 (by omega) | exact e7), (fun q9 => by first | exact absurd q9 (by omega) | exact he8), (fun q9 => by first | exact absurd q9 (by omega) | exact (ind_y (or_l b9 (by omega))).symm | exact (ind_n (or_r b9 (by omega))).symm)⟩⟩)⟩
      · refine tz_tabIn (pc := 14) (tgt := 128) 5 dX11_term_14 hc_14 (by decide) rfl (by decide) ?_
        refine tz_aload_n (pc := 128) dX11_term_128 rfl rfl ?_
        refine tz_fR (pc := 129) dX11_term_129 fl_X11_234 r_6_5 ?_
        refine tz_iload_n (pc := 132) dX11_term_132 rfl rfl ?_
        refine tz_aL (pc := 133) (z := t) (v := (J 11 t)) dX11_term_133 a_11 rfl (by omega) rfl (fun r_133 => ?_)
        exact tz_iret (pc := 134) (z := (J 11 t)) dX11_term_134 rfl (Nat.le_of_ble_eq_true rfl) (Nat.le_of_ble_eq_true rfl) ⟨Nat.le_refl _, Nat.le_add_right _ _⟩ ⟨_, rfl, (by omega), (by first | (have hw := hI.work f1 rfl; exact ⟨⟨⟨m, hw.1⟩, by rw [hw.2.1]; omega, hw.2.2.1, hw.2.2.2⟩, cc.wk7 hI f1 rfl, by omega, ⟨(fun q9 => by first | exact absurd q9 (by omega) | exact (if_pos (by omega)).symm | exact (if_neg (by omega)).symm), (fun q9 => by first | exact absurd q9 (by omega) | exact (z_nn (by omega)).trans (if_pos (by omega)).symm | exact (if_neg (by omega)).symm), (fun q9 => by first | exact absurd q9 (by omega) | rfl), (fun q9 => by first | exact absurd q9 (by omega) | exact e3), (fun q9 => by first | exact absurd q9 (by omega) | rfl), (fun q9 => by first | exact absurd q9 (by omega) | rfl), (fun q9 => by first | exact absurd q9 (by omega) | rfl), (fun q9 => by first | exact absurd q9 (by omega) | exact e7), (fun q9 => by first | exact absurd q9 (by omega) | exact he8), (fun q9 => by first | exact absurd q9 (by omega) | exact (ind_y (or_l b9 (by omega))).symm | exact (ind_n (or_r b9 (by omega))).symm)⟩⟩) | exact ⟨CQ.rf hI, cc, by omega, ⟨(fun q9 => by first | exact absurd q9 (by omega) | exact (if_pos (by omega)).symm | exact (if_neg (by omega)).symm), (fun q9 => by first | exact absurd q9 (by omega) | exact (z_nn (by omega)).trans (if_pos (by omega)).symm | exact (if_neg (by omega)).symm), (fun q9 => by first | exact absurd q9 (by omega) | rfl), (fun q9 => by first | exact absurd q9 (by omega) | exact e3), (fun q9 => by first | exact absurd q9 (by omega) | rfl), (fun q9 => by first | exact absurd q9 (by omega) | rfl), (fun q9 => by first | exact absurd q9 (by omega) | rfl), (fun q9 => by first | exact absurd q9 (by omega) | exact e7), (fun q9 => by first | exact absurd q9 (by omega) | exact he8), (fun q9 => by first | exact absurd q9 (by omega) | exact (ind_y (or_l b9 (by omega))).symm | exact (ind_n (or_r b9 (by omega))).symm)⟩⟩)⟩
      · refine tz_tabIn (pc := 14) (tgt := 135) 6 dX11_term_14 hc_14 (by decide) rfl (by decide) ?_
        refine tz_aload_n (pc := 135) dX11_term_135 rfl rfl ?_
        refine tz_fR (pc := 136) dX11_term_136 fl_X11_235 r_6_7 ?_
        refine tz_iload_n (pc := 139) dX11_term_139 rfl rfl ?_
        refine tz_aL (pc := 140) (z := t) (v := (J 13 t)) dX11_term_140 a_13 rfl (by omega) rfl (fun r_140 => ?_)
        exact tz_iret (pc := 141) (z := (J 13 t)) dX11_term_141 rfl (Nat.le_of_ble_eq_true rfl) (Nat.le_of_ble_eq_true rfl) ⟨Nat.le_refl _, Nat.le_add_right _ _⟩ ⟨_, rfl, (by omega), (by first | (have hw := hI.work f1 rfl; exact ⟨⟨⟨m, hw.1⟩, by rw [hw.2.1]; omega, hw.2.2.1, hw.2.2.2⟩, cc.wk7 hI f1 rfl, by omega, ⟨(fun q9 => by first | exact absurd q9 (by omega) | exact (if_pos (by omega)).symm | exact (if_neg (by omega)).symm), (fun q9 => by first | exact absurd q9 (by omega) | exact (z_nn (by omega)).trans (if_pos (by omega)).symm | exact (if_neg (by omega)).symm), (fun q9 => by first | exact absurd q9 (by omega) | rfl), (fun q9 => by first | exact absurd q9 (by omega) | exact e3), (fun q9 => by first | exact absurd q9 (by omega) | rfl), (fun q9 => by first | exact absurd q9 (by omega) | rfl), (fun q9 => by first | exact absurd q9 (by omega) | rfl), (fun q9 => by first | exact absurd q9 (by omega) | exact e7), (fun q9 => by first | exact absurd q9 (by omega) | exact he8), (fun q9 => by first | exact absurd q9 (by omega) | exact (ind_y (or_l b9 (by omega))).symm | exact (ind_n (or_r b9 (by omega))).symm)⟩⟩) | exact ⟨CQ.rf hI, cc, by omega, ⟨(fun q9 => by first | exact absurd q9 (by omega) | exact (if_pos (by omega)).symm | exact (if_neg (by omega)).symm), (fun q9 => by first | exact absurd q9 (by omega) | exact (z_nn (by omega)).trans (if_pos (by omega)).symm | exact (if_neg (by omega)).symm), (fun q9 => by first | exact absurd q9 (by omega) | rfl), (fun q9 => by first | exact absurd q9 (by omega) | exact e3), (fun q9 => by first | exact absurd q9 (by omega) | rfl), (fun q9 => by first | exact absurd q9 (by omega) | rfl), (fun q9 => by first | exact absurd q9 (by omega) | rfl), (fun q9 => by first | exact absurd q9 (by omega) | exact e7), (fun q9 => by first | exact absurd q9 (by omega) | exact he8), (fun q9 => by first | exact absurd q9 (by omega) | exact (ind_y (or_l b9 (by omega))).symm | exact (ind_n (or_r b9 (by omega))).symm)⟩⟩)⟩
      · refine tz_tabIn (pc := 14) (tgt := 142) 7 dX11_term_14 hc_14 (by decide) rfl (by decide) ?_
        refine tz_aload_n (pc := 142) dX11_term_142 rfl rfl ?_
        refine tz_iload_n (pc := 143) dX11_term_143 rfl rfl ?_
        refine tz_cV (pc := 144) (e_users hl n _ _ (by omega) m hC hm (by omega)) vl_X11_238 dX11_term_144 o_6 rfl rfl (Nat.le_of_ble_eq_true rfl) ⟨(Nat.le_of_ble_eq_true rfl), (Nat.le_of_ble_eq_true rfl)⟩ rfl rfl (Nat.le_of_ble_eq_true rfl) (Nat.le_of_ble_eq_true rfl) (fun r9 J_144 hq9 => ?_)
        obtain ⟨z_144, rfl, hz_144, rfl, e7⟩ := hq9
        rw [← hm] at e7
        exact tz_iret (pc := 147) (z := z_144) dX11_term_147 rfl (Nat.le_of_ble_eq_true rfl) (Nat.le_of_ble_eq_true rfl) ⟨Nat.le_refl _, Nat.le_add_right _ _⟩ ⟨_, rfl, (by omega), (by first | (have hw := hI.work f1 rfl; exact ⟨⟨⟨m, hw.1⟩, by rw [hw.2.1]; omega, hw.2.2.1, hw.2.2.2⟩, cc.wk7 hI f1 rfl, by omega, ⟨(fun q9 => by first | exact absurd q9 (by omega) | exact (if_pos (by omega)).symm | exact (if_neg (by omega)).symm), (fun q9 => by first | exact absurd q9 (by omega) | exact (z_nn (by omega)).trans (if_pos (by omega)).symm | exact (if_neg (by omega)).symm), (fun q9 => by first | exact absurd q9 (by omega) | rfl), (fun q9 => by first | exact absurd q9 (by omega) | exact e3), (fun q9 => by first | exact absurd q9 (by omega) | rfl), (fun q9 => by first | exact absurd q9 (by omega) | rfl), (fun q9 => by first | exact absurd q9 (by omega) | rfl), (fun q9 => by first | exact absurd q9 (by omega) | exact e7), (fun q9 => by first | exact absurd q9 (by omega) | exact he8), (fun q9 => by first | exact absurd q9 (by omega) | exact (ind_y (or_l b9 (by omega))).symm | exact (ind_n (or_r b9 (by omega))).symm)⟩⟩) | exact ⟨CQ.rf hI, cc, by omega, ⟨(fun q9 => by first | exact absurd q9 (by omega) | exact (if_pos (by omega)).symm | exact (if_neg (by omega)).symm), (fun q9 => by first | exact absurd q9 (by omega) | exact (z_nn (by omega)).trans (if_pos (by omega)).symm | exact (if_neg (by omega)).symm), (fun q9 => by first | exact absurd q9 (by omega) | rfl), (fun q9 => by first | exact absurd q9 (by omega) | exact e3), (fun q9 => by first | exact absurd q9 (by omega) | rfl), (fun q9 => by first | exact absurd q9 (by omega) | rfl), (fun q9 => by first | exact absurd q9 (by omega) | rfl), (fun q9 => by first | exact absurd q9 (by omega) | exact e7), (fun q9 => by first | exact absurd q9 (by omega) | exact he8), (fun q9 => by first | exact absurd q9 (by omega) | exact (ind_y (or_l b9 (by omega))).symm | exact (ind_n (or_r b9 (by omega))).symm)⟩⟩)⟩
      · refine tz_tabIn (pc := 14) (tgt := 148) 8 dX11_term_14 hc_14 (by decide) rfl (by decide) ?_
        refine tz_aload_n (pc := 148) dX11_term_148 rfl rfl ?_
        refine tz_fR (pc := 149) dX11_term_149 fl_X11_29 r_0_1 ?_
        refine tz_fR (pc := 152) dX11_term_152 fl_X11_156 r_5_1 ?_
        refine tz_iload_n (pc := 155) dX11_term_155 rfl rfl ?_
        refine tz_cV (pc := 156) (c_entryOf hl n _ _ (by omega) hL.1.2.2.1) vl_X11_241 dX11_term_156 o_18 rfl rfl (Nat.le_of_ble_eq_true rfl) ⟨(Nat.le_of_ble_eq_true rfl), (Nat.le_of_ble_eq_true rfl)⟩ rfl rfl (Nat.le_of_ble_eq_true rfl) (Nat.le_of_ble_eq_true rfl) (fun r9 J_156 hq9 => ?_)
        obtain ⟨z_156, rfl, hz_156, rfl, he8⟩ := hq9
        exact tz_iret (pc := 159) (z := z_156) dX11_term_159 rfl (Nat.le_of_ble_eq_true rfl) (Nat.le_of_ble_eq_true rfl) ⟨Nat.le_refl _, Nat.le_add_right _ _⟩ ⟨_, rfl, (by omega), (by first | (have hw := hI.work f1 rfl; exact ⟨⟨⟨m, hw.1⟩, by rw [hw.2.1]; omega, hw.2.2.1, hw.2.2.2⟩, cc.wk7 hI f1 rfl, by omega, ⟨(fun q9 => by first | exact absurd q9 (by omega) | exact (if_pos (by omega)).symm | exact (if_neg (by omega)).symm), (fun q9 => by first | exact absurd q9 (by omega) | exact (z_nn (by omega)).trans (if_pos (by omega)).symm | exact (if_neg (by omega)).symm), (fun q9 => by first | exact absurd q9 (by omega) | rfl), (fun q9 => by first | exact absurd q9 (by omega) | exact e3), (fun q9 => by first | exact absurd q9 (by omega) | rfl), (fun q9 => by first | exact absurd q9 (by omega) | rfl), (fun q9 => by first | exact absurd q9 (by omega) | rfl), (fun q9 => by first | exact absurd q9 (by omega) | exact e7), (fun q9 => by first | exact absurd q9 (by omega) | exact he8), (fun q9 => by first | exact absurd q9 (by omega) | exact (ind_y (or_l b9 (by omega))).symm | exact (ind_n (or_r b9 (by omega))).symm)⟩⟩) | exact ⟨CQ.rf hI, cc, by omega, ⟨(fun q9 => by first | exact absurd q9 (by omega) | exact (if_pos (by omega)).symm | exact (if_neg (by omega)).symm), (fun q9 => by first | exact absurd q9 (by omega) | exact (z_nn (by omega)).trans (if_pos (by omega)).symm | exact (if_neg (by omega)).symm), (fun q9 => by first | exact absurd q9 (by omega) | rfl), (fun q9 => by first | exact absurd q9 (by omega) | exact e3), (fun q9 => by first | exact absurd q9 (by omega) | rfl), (fun q9 => by first | exact absurd q9 (by omega) | rfl), (fun q9 => by first | exact absurd q9 (by omega) | rfl), (fun q9 => by first | exact absurd q9 (by omega) | exact e7), (fun q9 => by first | exact absurd q9 (by omega) | exact he8), (fun q9 => by first | exact absurd q9 (by omega) | exact (ind_y (or_l b9 (by omega))).symm | exact (ind_n (or_r b9 (by omega))).symm)⟩⟩)⟩
      · refine tz_tabIn (pc := 14) (tgt := 160) 9 dX11_term_14 hc_14 (by decide) rfl (by decide) ?_
        refine tz_aload_n (pc := 160) dX11_term_160 rfl rfl ?_
        refine tz_fR (pc := 161) dX11_term_161 fl_X11_81 r_0_9 ?_
        refine tz_iload_n (pc := 164) dX11_term_164 rfl rfl ?_
        refine tz_cV (pc := 165) (e_isReduced hl n _ _ (by omega) m S hC hm hL (by omega) cc.1 cc.2.1) vl_X11_244 dX11_term_165 o_155 rfl rfl (Nat.le_of_ble_eq_true rfl) ⟨(Nat.le_of_ble_eq_true rfl), (Nat.le_of_ble_eq_true rfl)⟩ rfl rfl (Nat.le_of_ble_eq_true rfl) (Nat.le_of_ble_eq_true rfl) (fun r9 J_165 hq9 => ?_)
        obtain ⟨z_165, rfl, hz_165, b9, f1⟩ := hq9
        have b0 : _ ∨ _ := b9.elim (fun w9 => Or.inr w9.1) (fun w9 => Or.inl w9.1)
        refine tz_if_eq (pc := 168) (tgt := 175) dX11_term_168 (by decide) (by omega) (fun h_168 => ?_) (fun h_168 => ?_)
        · refine tz_iconst (pc := 175) dX11_term_175 ?_
          exact tz_iret (pc := 176) (z := 0) dX11_term_176 rfl (Nat.le_of_ble_eq_true rfl) (Nat.le_of_ble_eq_true rfl) ⟨Nat.le_refl _, Nat.le_add_right _ _⟩ ⟨_, rfl, (by decide), (by first | (have hw := hI.work f1 rfl; exact ⟨⟨⟨m, hw.1⟩, by rw [hw.2.1]; omega, hw.2.2.1, hw.2.2.2⟩, cc.wk7 hI f1 rfl, by omega, ⟨(fun q9 => by first | exact absurd q9 (by omega) | exact (if_pos (by omega)).symm | exact (if_neg (by omega)).symm), (fun q9 => by first | exact absurd q9 (by omega) | exact (z_nn (by omega)).trans (if_pos (by omega)).symm | exact (if_neg (by omega)).symm), (fun q9 => by first | exact absurd q9 (by omega) | rfl), (fun q9 => by first | exact absurd q9 (by omega) | exact e3), (fun q9 => by first | exact absurd q9 (by omega) | rfl), (fun q9 => by first | exact absurd q9 (by omega) | rfl), (fun q9 => by first | exact absurd q9 (by omega) | rfl), (fun q9 => by first | exact absurd q9 (by omega) | exact e7), (fun q9 => by first | exact absurd q9 (by omega) | exact he8), (fun q9 => by first | exact absurd q9 (by omega) | exact (ind_y (or_l b9 (by omega))).symm | exact (ind_n (or_r b9 (by omega))).symm)⟩⟩) | exact ⟨CQ.rf hI, cc, by omega, ⟨(fun q9 => by first | exact absurd q9 (by omega) | exact (if_pos (by omega)).symm | exact (if_neg (by omega)).symm), (fun q9 => by first | exact absurd q9 (by omega) | exact (z_nn (by omega)).trans (if_pos (by omega)).symm | exact (if_neg (by omega)).symm), (fun q9 => by first | exact absurd q9 (by omega) | rfl), (fun q9 => by first | exact absurd q9 (by omega) | exact e3), (fun q9 => by first | exact absurd q9 (by omega) | rfl), (fun q9 => by first | exact absurd q9 (by omega) | rfl), (fun q9 => by first | exact absurd q9 (by omega) | rfl), (fun q9 => by first | exact absurd q9 (by omega) | exact e7), (fun q9 => by first | exact absurd q9 (by omega) | exact he8), (fun q9 => by first | exact absurd q9 (by omega) | exact (ind_y (or_l b9 (by omega))).symm | exact (ind_n (or_r b9 (by omega))).symm)⟩⟩)⟩
        · refine tz_iconst (pc := 171) dX11_term_171 ?_
          refine tz_goto (pc := 172) (tgt := 176) dX11_term_172 (by decide) ?_
          exact tz_iret (pc := 176) (z := 1) dX11_term_176 rfl (Nat.le_of_ble_eq_true rfl) (Nat.le_of_ble_eq_true rfl) ⟨Nat.le_refl _, Nat.le_add_right _ _⟩ ⟨_, rfl, (by decide), (by first | (have hw := hI.work f1 rfl; exact ⟨⟨⟨m, hw.1⟩, by rw [hw.2.1]; omega, hw.2.2.1, hw.2.2.2⟩, cc.wk7 hI f1 rfl, by omega, ⟨(fun q9 => by first | exact absurd q9 (by omega) | exact (if_pos (by omega)).symm | exact (if_neg (by omega)).symm), (fun q9 => by first | exact absurd q9 (by omega) | exact (z_nn (by omega)).trans (if_pos (by omega)).symm | exact (if_neg (by omega)).symm), (fun q9 => by first | exact absurd q9 (by omega) | rfl), (fun q9 => by first | exact absurd q9 (by omega) | exact e3), (fun q9 => by first | exact absurd q9 (by omega) | rfl), (fun q9 => by first | exact absurd q9 (by omega) | rfl), (fun q9 => by first | exact absurd q9 (by omega) | rfl), (fun q9 => by first | exact absurd q9 (by omega) | exact e7), (fun q9 => by first | exact absurd q9 (by omega) | exact he8), (fun q9 => by first | exact absurd q9 (by omega) | exact (ind_y (or_l b9 (by omega))).symm | exact (ind_n (or_r b9 (by omega))).symm)⟩⟩) | exact ⟨CQ.rf hI, cc, by omega, ⟨(fun q9 => by first | exact absurd q9 (by omega) | exact (if_pos (by omega)).symm | exact (if_neg (by omega)).symm), (fun q9 => by first | exact absurd q9 (by omega) | exact (z_nn (by omega)).trans (if_pos (by omega)).symm | exact (if_neg (by omega)).symm), (fun q9 => by first | exact absurd q9 (by omega) | rfl), (fun q9 => by first | exact absurd q9 (by omega) | exact e3), (fun q9 => by first | exact absurd q9 (by omega) | rfl), (fun q9 => by first | exact absurd q9 (by omega) | rfl), (fun q9 => by first | exact absurd q9 (by omega) | rfl), (fun q9 => by first | exact absurd q9 (by omega) | exact e7), (fun q9 => by first | exact absurd q9 (by omega) | exact he8), (fun q9 => by first | exact absurd q9 (by omega) | exact (ind_y (or_l b9 (by omega))).symm | exact (ind_n (or_r b9 (by omega))).symm)⟩⟩)⟩
  · refine tz_cVX (pc := 2) (c_need0 hl n _ _ (by omega) hh_2) vl_X11_216 dX11_term_2 o_0 rfl rfl (Nat.le_of_ble_eq_true rfl) ⟨(Nat.le_of_ble_eq_true rfl), (Nat.le_of_ble_eq_true rfl)⟩ rfl rfl (Nat.le_of_ble_eq_true rfl) (Nat.le_of_ble_eq_true rfl) (fun r9 n9 J9 hn1 hn2 hq9 => hq9.elim) (fun E9 n9 J9 hn1 hn2 hx9 => ?_)
    obtain ⟨rfl, rfl⟩ := hx9
    exact tz_out rfl (Nat.le_of_ble_eq_true rfl) (Nat.le_of_ble_eq_true rfl) ⟨by omega, by omega⟩ ⟨rfl, rfl, by omega⟩

theorem mwt_z {J' J : zJ} (f : MZ J' J) : mwt J' 0 0 = mwt J 0 0 := by
  funext t
  unfold mwt mgw
  rw [mar_z f, mag_z f, f.1 166 rfl, f.1 171 rfl]
theorem mv0_z {J' J : zJ} (f : MZ J' J) : mv0 J' 0 = mv0 J 0 := by
  funext t
  unfold mv0
  rw [f.1 166 rfl]
theorem tbz_m {J' J : zJ} (f : MZ J' J) : tbz J' = tbz J := tbz_z f
set_option maxHeartbeats 4000000 in
set_option maxRecDepth 100000 in
theorem e_qterm {l : Launch} {G : tb_G} (hl : l.stackTraces = false) (n : Nat) (J : zJ) (x : Int) (y : Int) (hr_x : -2147483648 ≤ x ∧ x < 2147483648) (hr_y : -2147483648 ≤ y ∧ y < 2147483648) (m : Int) (pn : Int) (RR : Int → Int → Int) (hI : MI J m) (u9 : MUr J pn RR) (hw9 : ∀ k, 0 ≤ k → k < J 164 9 → 1 ≤ J 171 (0 + k) ∧ J 171 (0 + k) ≤ 9) : tz_Ok l G M_X12_term 20 0 0 [.ref 164, zi x, zi y] n J (zqi (fun z J' => MQr J' J ∧ MFI J' J ∧ MBT J' (tbz J) ∧ MUr J' pn RR ∧ J' 183 = J 183 ∧ ((J' 164 8 = 0 ∧ ((0 ≤ x ∧ x < J 165 0) ∧ 0 ≤ y ∧ y ≤ 9) ∧ ((y = 0 → z = if J 166 (0 + x) < 0 then -1 else J 166 (0 + x)) ∧ (y = 1 → z = if J 166 (0 + x) < 0 then -1 - J 166 (0 + x) else -1) ∧ (y = 2 → z = msz J 0 0 x) ∧ (y = 3 → z = sumI (fun q => SUB (mar J 0 0) (mag J 0) q x) (J 165 0).toNat) ∧ (y = 4 → z = J 168 (0 + x)) ∧ (y = 5 → z = mwt J 0 0 x) ∧ (y = 6 → z = vsF (mv0 J 0) (mar J 0 0) (mag J 0) 6 x) ∧ (y = 7 → z = sumI (fun q => ∃ j, (0 ≤ j ∧ j < mar J 0 0 q) ∧ J 167 (3 * (0 + q) + j) = x) (J 165 0).toNat) ∧ (y = 8 → ((0 ≤ z ∧ z < J 165 26 ∧ J 165 (27 + z) = x ∧ ∀ i, 0 ≤ i → i < z → ¬ J 165 (27 + i) = x) ∨ (z = -1 ∧ ∀ i, 0 ≤ i → i < J 165 26 → ¬ J 165 (27 + i) = x))) ∧ (y = 9 → z = ind (∀ k, SUB (mar J 0 0) (mag J 0) k x → NOR (tbz J) k (J 165 9))))) ∨ (J' 164 8 = 1 ∧ ¬ ((0 ≤ x ∧ x < J 165 0) ∧ 0 ≤ y ∧ y ≤ 9))))) zN := by
  refine tz_Ok.of hl (by decide +kernel) rfl (tb_c1 rfl) (Nat.le_of_ble_eq_true rfl) ?_
  show tz_At l G M_X12_term (tb_rm 20 0 0) none (tb_ZM G 0 0 (zQ n 0 (zqi (fun z J' => MQr J' J ∧ MFI J' J ∧ MBT J' (tbz J) ∧ MUr J' pn RR ∧ J' 183 = J 183 ∧ ((J' 164 8 = 0 ∧ ((0 ≤ x ∧ x < J 165 0) ∧ 0 ≤ y ∧ y ≤ 9) ∧ ((y = 0 → z = if J 166 (0 + x) < 0 then -1 else J 166 (0 + x)) ∧ (y = 1 → z = if J 166 (0 + x) < 0 then -1 - J 166 (0 + x) else -1) ∧ (y = 2 → z = msz J 0 0 x) ∧ (y = 3 → z = sumI (fun q => SUB (mar J 0 0) (mag J 0) q x) (J 165 0).toNat) ∧ (y = 4 → z = J 168 (0 + x)) ∧ (y = 5 → z = mwt J 0 0 x) ∧ (y = 6 → z = vsF (mv0 J 0) (mar J 0 0) (mag J 0) 6 x) ∧ (y = 7 → z = sumI (fun q => ∃ j, (0 ≤ j ∧ j < mar J 0 0 q) ∧ J 167 (3 * (0 + q) + j) = x) (J 165 0).toNat) ∧ (y = 8 → ((0 ≤ z ∧ z < J 165 26 ∧ J 165 (27 + z) = x ∧ ∀ i, 0 ≤ i → i < z → ¬ J 165 (27 + i) = x) ∨ (z = -1 ∧ ∀ i, 0 ≤ i → i < J 165 26 → ¬ J 165 (27 + i) = x))) ∧ (y = 9 → z = ind (∀ k, SUB (mar J 0 0) (mag J 0) k x → NOR (tbz J) k (J 165 9))))) ∨ (J' 164 8 = 1 ∧ ¬ ((0 ≤ x ∧ x < J 165 0) ∧ 0 ≤ y ∧ y ≤ 9)))))) (zX n 0 zN)) 0 0 n J 0 [some (.ref 164), some (zi x), some (zi y)] []
  have hT := hI.told
  have hW := hI.row
  have hM := hI.1
  have hL := hI.2.1
  have hW0 : J 165 0 = m := hT.2.2.1
  refine tz_aload_n (pc := 0) dX12_term_0 rfl rfl ?_
  refine tz_iconst (pc := 1) dX12_term_1 ?_
  refine tz_pI (pc := 2) (kz := 8) dX12_term_2 fl_X12_68 i_164_8 rfl rfl (by decide) ?_
  refine tz_aload_n (pc := 5) dX12_term_5 rfl rfl ?_
  refine tz_iload_n (pc := 6) dX12_term_6 rfl rfl ?_
  refine tz_cV (pc := 7) (m_isTermNow4 hl n _ _ (by omega) (by rw [(show ((zup J 164 8 0) : zJ) 165 0 = (J 165 0) from rfl)]; omega)) vl_X12_379 dX12_term_7 o_164 rfl rfl (Nat.le_of_ble_eq_true rfl) ⟨(Nat.le_of_ble_eq_true rfl), (Nat.le_of_ble_eq_true rfl)⟩ rfl rfl (Nat.le_of_ble_eq_true rfl) (Nat.le_of_ble_eq_true rfl) (fun r9 J_7 hq9 => ?_)
  obtain ⟨z_7, rfl, hz_7, f_7, b_7, c_7, w_7⟩ := hq9
  have v_7 := w_7 zup_at
  have x_7 : MZ J_7 (zup J 164 8 0) := MZ.f f_7 (by decide) (by decide)
  have y_7 := MZ.tr (MZ.up (k := 8) MZ.rf (by decide)) x_7
  rw [(show ((zup J 164 8 0) : zJ) 165 0 = (J 165 0) from rfl)] at c_7
  rw [(show ((zup J 164 8 0) : zJ) 165 0 = (J 165 0) from rfl)] at v_7
  refine tz_if_eq (pc := 10) (tgt := 28) dX12_term_10 (by decide) (by omega) (fun h_10 => ?_) (fun h_10 => ?_)
  · refine tz_iconst (pc := 28) dX12_term_28 ?_
    exact tz_iret (pc := 29) (z := 0) dX12_term_29 rfl (Nat.le_of_ble_eq_true rfl) (Nat.le_of_ble_eq_true rfl) ⟨Nat.le_refl _, Nat.le_add_right _ _⟩ ⟨_, rfl, (by decide), ⟨MQr.z hI y_7, MFI.z y_7, MBT.z hI y_7, u9.z y_7, y_7.1 183 rfl, by first | exact Or.inl ⟨(v_7.2 (by omega)).1, by omega, ⟨(fun q9 => by first | exact absurd q9 (by omega) | exact (if_pos (by omega)).symm | exact hh_0.symm.trans (if_neg (by omega)).symm), (fun q9 => by first | exact absurd q9 (by omega) | exact hh_0.symm.trans (if_pos (by omega)).symm | exact (if_neg (by omega)).symm), (fun q9 => by first | exact absurd q9 (by omega) | exact hh_0.symm), (fun q9 => by first | exact absurd q9 (by omega) | exact hh_0), (fun q9 => by first | exact absurd q9 (by omega) | exact congrArg (J 168) (by omega)), (fun q9 => by first | exact absurd q9 (by omega) | exact hh_0.symm), (fun q9 => by first | exact absurd q9 (by omega) | exact hh_0.symm), (fun q9 => by first | exact absurd q9 (by omega) | exact hh_0), (fun q9 => by first | exact absurd q9 (by omega) | exact hh_0), (fun q9 => by first | exact absurd q9 (by omega) | exact (ind_y (or_l hh_161 (by omega))).symm | exact (ind_n (or_r hh_161 (by omega))).symm)⟩⟩ | exact Or.inr ⟨(v_7.1 (by omega)).1, by omega⟩⟩⟩
  · refine tz_aload_n (pc := 13) dX12_term_13 rfl rfl ?_
    refine tz_iload_n (pc := 14) dX12_term_14 rfl rfl ?_
    refine tz_iconst (pc := 15) dX12_term_15 ?_
    refine tz_bipush (pc := 16) dX12_term_16 (by decide) ?_
    refine tz_cS (pc := 18) (m_within hl n _ _ _ _ (by omega) (by decide) (by decide)) sl_X12_283 dX12_term_18 rfl rfl (Nat.le_of_ble_eq_true rfl) ⟨(Nat.le_of_ble_eq_true rfl), (Nat.le_of_ble_eq_true rfl)⟩ rfl rfl (Nat.le_of_ble_eq_true rfl) (Nat.le_of_ble_eq_true rfl) (fun r9 J_18 hq9 => ?_)
    obtain ⟨z_18, rfl, hz_18, rfl, hw_18⟩ := hq9
    refine tz_iconst (pc := 21) dX12_term_21 ?_
    refine tz_cV (pc := 22) (m_right4 hl n _ _ _ (by omega) (by decide) (by decide)) vl_X12_334 dX12_term_22 o_164 rfl rfl (Nat.le_of_ble_eq_true rfl) ⟨(Nat.le_of_ble_eq_true rfl), (Nat.le_of_ble_eq_true rfl)⟩ rfl rfl (Nat.le_of_ble_eq_true rfl) (Nat.le_of_ble_eq_true rfl) (fun r9 J_22 hq9 => ?_)
    obtain ⟨z_22, rfl, hz_22, f_22, b_22, c_22, w_22⟩ := hq9
    have v_22 := w_22 ((v_7.2 (by omega)).1)
    have x_22 : MZ J_22 J_7 := MZ.f f_22 (by decide) (by decide)
    have y_22 := MZ.tr y_7 x_22
    have e_22 : z_22 = 1 → ¬ z_18 = 0 := fun q9 => (c_22 q9).2.2.resolve_right (by decide)
    refine tz_if_ne (pc := 25) (tgt := 30) dX12_term_25 (by decide) (by omega) (fun h_25 => ?_) (fun h_25 => ?_)
    · refine tz_iload_n (pc := 30) dX12_term_30 rfl rfl ?_
      by_cases hs_31 : y < 0 ∨ 8 < y
      · refine tz_tabOut (pc := 31) (tgt := 159) dX12_term_31 (by omega) hs_31 (by decide) ?_
        refine tz_aload_n (pc := 159) dX12_term_159 rfl rfl ?_
        refine tz_iload_n (pc := 160) dX12_term_160 rfl rfl ?_
        refine tz_cV (pc := 161) (e_settled hl n _ _ (by omega) (J 164 9) m (hM.z y_22) (MR.z hL.1 y_22) (by omega)) vl_X12_230 dX12_term_161 o_164 rfl rfl (Nat.le_of_ble_eq_true rfl) ⟨(Nat.le_of_ble_eq_true rfl), (Nat.le_of_ble_eq_true rfl)⟩ rfl rfl (Nat.le_of_ble_eq_true rfl) (Nat.le_of_ble_eq_true rfl) (fun r9 J_161 hq9 => ?_)
        obtain ⟨z_161, rfl, hz_161, hh_161, f_161⟩ := hq9
        have x_161 : MZ J_161 J_22 := MZ.c f_161 (by decide)
        have y_161 := MZ.tr y_22 x_161
        rw [mar_z y_22, mag_z y_22, tbz_m y_22, y_22.1 165 rfl] at hh_161
        have b0_161 : z_161 = 0 ∨ z_161 = 1 := by omega
        refine tz_if_eq (pc := 164) (tgt := 171) dX12_term_164 (by decide) (by omega) (fun h_164 => ?_) (fun h_164 => ?_)
        · refine tz_iconst (pc := 171) dX12_term_171 ?_
          exact tz_iret (pc := 172) (z := 0) dX12_term_172 rfl (Nat.le_of_ble_eq_true rfl) (Nat.le_of_ble_eq_true rfl) ⟨Nat.le_refl _, Nat.le_add_right _ _⟩ ⟨_, rfl, (by decide), ⟨MQr.z hI y_161, MFI.z y_161, MBT.z hI y_161, u9.z y_161, y_161.1 183 rfl, Or.inl ⟨(congrFun (f_161 164 rfl) 8).trans (v_22.2 (by omega)).1, by omega, ⟨(fun q9 => by first | exact absurd q9 (by omega) | exact (if_pos (by omega)).symm | exact hh_0.symm.trans (if_neg (by omega)).symm), (fun q9 => by first | exact absurd q9 (by omega) | exact hh_0.symm.trans (if_pos (by omega)).symm | exact (if_neg (by omega)).symm), (fun q9 => by first | exact absurd q9 (by omega) | exact hh_0.symm), (fun q9 => by first | exact absurd q9 (by omega) | exact hh_0), (fun q9 => by first | exact absurd q9 (by omega) | exact congrArg (J 168) (by omega)), (fun q9 => by first | exact absurd q9 (by omega) | exact hh_0.symm), (fun q9 => by first | exact absurd q9 (by omega) | exact hh_0.symm), (fun q9 => by first | exact absurd q9 (by omega) | exact hh_0), (fun q9 => by first | exact absurd q9 (by omega) | exact hh_0), (fun q9 => by first | exact absurd q9 (by omega) | exact (ind_y (or_l hh_161 (by omega))).symm | exact (ind_n (or_r hh_161 (by omega))).symm)⟩⟩⟩⟩
        · refine tz_iconst (pc := 167) dX12_term_167 ?_
          refine tz_goto (pc := 168) (tgt := 172) dX12_term_168 (by decide) ?_
          exact tz_iret (pc := 172) (z := 1) dX12_term_172 rfl (Nat.le_of_ble_eq_true rfl) (Nat.le_of_ble_eq_true rfl) ⟨Nat.le_refl _, Nat.le_add_right _ _⟩ ⟨_, rfl, (by decide), ⟨MQr.z hI y_161, MFI.z y_161, MBT.z hI y_161, u9.z y_161, y_161.1 183 rfl, Or.inl ⟨(congrFun (f_161 164 rfl) 8).trans (v_22.2 (by omega)).1, by omega, ⟨(fun q9 => by first | exact absurd q9 (by omega) | exact (if_pos (by omega)).symm | exact hh_0.symm.trans (if_neg (by omega)).symm), (fun q9 => by first | exact absurd q9 (by omega) | exact hh_0.symm.trans (if_pos (by omega)).symm | exact (if_neg (by omega)).symm), (fun q9 => by first | exact absurd q9 (by omega) | exact hh_0.symm), (fun q9 => by first | exact absurd q9 (by omega) | exact hh_0), (fun q9 => by first | exact absurd q9 (by omega) | exact congrArg (J 168) (by omega)), (fun q9 => by first | exact absurd q9 (by omega) | exact hh_0.symm), (fun q9 => by first | exact absurd q9 (by omega) | exact hh_0.symm), (fun q9 => by first | exact absurd q9 (by omega) | exact hh_0), (fun q9 => by first | exact absurd q9 (by omega) | exact hh_0), (fun q9 => by first | exact absurd q9 (by omega) | exact (ind_y (or_l hh_161 (by omega))).symm | exact (ind_n (or_r hh_161 (by omega))).symm)⟩⟩⟩⟩
      · have hs9 : y = 0 ∨ y = 1 ∨ y = 2 ∨ y = 3 ∨ y = 4 ∨ y = 5 ∨ y = 6 ∨ y = 7 ∨ y = 8 := by omega
        rcases hs9 with hc_31 | hc_31 | hc_31 | hc_31 | hc_31 | hc_31 | hc_31 | hc_31 | hc_31
        · refine tz_tabIn (pc := 31) (tgt := 80) 0 dX12_term_31 hc_31 (by decide) rfl (by decide) ?_
          refine tz_aload_n (pc := 80) dX12_term_80 rfl rfl ?_
          refine tz_iload_n (pc := 81) dX12_term_81 rfl rfl ?_
          refine tz_cV (pc := 82) (m_isVar hl n _ _ (by omega) 0 0 0 (J 164 9) m (hM.z y_22) (by omega)) vl_X12_78 dX12_term_82 o_164 rfl rfl (Nat.le_of_ble_eq_true rfl) ⟨(Nat.le_of_ble_eq_true rfl), (Nat.le_of_ble_eq_true rfl)⟩ rfl rfl (Nat.le_of_ble_eq_true rfl) (Nat.le_of_ble_eq_true rfl) (fun r9 J_82 hq9 => ?_)
          obtain ⟨z_82, rfl, hz_82, rfl, hv_82⟩ := hq9
          rw [y_22.1 166 rfl] at hv_82
          refine tz_if_eq (pc := 85) (tgt := 92) dX12_term_85 (by decide) (by omega) (fun h_85 => ?_) (fun h_85 => ?_)
          · refine tz_aload_n (pc := 92) dX12_term_92 rfl rfl ?_
            refine tz_iload_n (pc := 93) dX12_term_93 rfl rfl ?_
            refine tz_cV (pc := 94) (m_head hl n _ _ (by omega) 0 0 0 (J 164 9) m (hM.z y_22) (by omega)) vl_X12_74 dX12_term_94 o_164 rfl rfl (Nat.le_of_ble_eq_true rfl) ⟨(Nat.le_of_ble_eq_true rfl), (Nat.le_of_ble_eq_true rfl)⟩ rfl rfl (Nat.le_of_ble_eq_true rfl) (Nat.le_of_ble_eq_true rfl) (fun r9 J_94 hq9 => ?_)
            obtain ⟨z_94, rfl, hz_94, rfl, hh_94⟩ := hq9
            rw [y_22.1 166 rfl] at hh_94
            exact tz_iret (pc := 97) (z := z_94) dX12_term_97 rfl (Nat.le_of_ble_eq_true rfl) (Nat.le_of_ble_eq_true rfl) ⟨Nat.le_refl _, Nat.le_add_right _ _⟩ ⟨_, rfl, (by omega), ⟨MQr.z hI y_22, MFI.z y_22, MBT.z hI y_22, u9.z y_22, y_22.1 183 rfl, by first | exact Or.inl ⟨(v_22.2 (by omega)).1, by omega, ⟨(fun q9 => by first | exact absurd q9 (by omega) | exact (if_pos (by omega)).symm | exact hh_94.symm.trans (if_neg (by omega)).symm), (fun q9 => by first | exact absurd q9 (by omega) | exact hh_94.symm.trans (if_pos (by omega)).symm | exact (if_neg (by omega)).symm), (fun q9 => by first | exact absurd q9 (by omega) | exact hh_94.symm), (fun q9 => by first | exact absurd q9 (by omega) | exact hh_94), (fun q9 => by first | exact absurd q9 (by omega) | exact congrArg (J 168) (by omega)), (fun q9 => by first | exact absurd q9 (by omega) | exact hh_94.symm), (fun q9 => by first | exact absurd q9 (by omega) | exact hh_94.symm), (fun q9 => by first | exact absurd q9 (by omega) | exact hh_94), (fun q9 => by first | exact absurd q9 (by omega) | exact hh_94), (fun q9 => by first | exact absurd q9 (by omega) | exact (ind_y (or_l hh_161 (by omega))).symm | exact (ind_n (or_r hh_161 (by omega))).symm)⟩⟩ | exact Or.inr ⟨(v_22.1 (by omega)).1, by omega⟩⟩⟩
          · refine tz_iconst (pc := 88) dX12_term_88 ?_
            refine tz_goto (pc := 89) (tgt := 97) dX12_term_89 (by decide) ?_
            exact tz_iret (pc := 97) (z := (-1)) dX12_term_97 rfl (Nat.le_of_ble_eq_true rfl) (Nat.le_of_ble_eq_true rfl) ⟨Nat.le_refl _, Nat.le_add_right _ _⟩ ⟨_, rfl, (by decide), ⟨MQr.z hI y_22, MFI.z y_22, MBT.z hI y_22, u9.z y_22, y_22.1 183 rfl, by first | exact Or.inl ⟨(v_22.2 (by omega)).1, by omega, ⟨(fun q9 => by first | exact absurd q9 (by omega) | exact (if_pos (by omega)).symm | exact hh_0.symm.trans (if_neg (by omega)).symm), (fun q9 => by first | exact absurd q9 (by omega) | exact hh_0.symm.trans (if_pos (by omega)).symm | exact (if_neg (by omega)).symm), (fun q9 => by first | exact absurd q9 (by omega) | exact hh_0.symm), (fun q9 => by first | exact absurd q9 (by omega) | exact hh_0), (fun q9 => by first | exact absurd q9 (by omega) | exact congrArg (J 168) (by omega)), (fun q9 => by first | exact absurd q9 (by omega) | exact hh_0.symm), (fun q9 => by first | exact absurd q9 (by omega) | exact hh_0.symm), (fun q9 => by first | exact absurd q9 (by omega) | exact hh_0), (fun q9 => by first | exact absurd q9 (by omega) | exact hh_0), (fun q9 => by first | exact absurd q9 (by omega) | exact (ind_y (or_l hh_161 (by omega))).symm | exact (ind_n (or_r hh_161 (by omega))).symm)⟩⟩ | exact Or.inr ⟨(v_22.1 (by omega)).1, by omega⟩⟩⟩
        · refine tz_tabIn (pc := 31) (tgt := 98) 1 dX12_term_31 hc_31 (by decide) rfl (by decide) ?_
          refine tz_aload_n (pc := 98) dX12_term_98 rfl rfl ?_
          refine tz_iload_n (pc := 99) dX12_term_99 rfl rfl ?_
          refine tz_cV (pc := 100) (m_isVar hl n _ _ (by omega) 0 0 0 (J 164 9) m (hM.z y_22) (by omega)) vl_X12_78 dX12_term_100 o_164 rfl rfl (Nat.le_of_ble_eq_true rfl) ⟨(Nat.le_of_ble_eq_true rfl), (Nat.le_of_ble_eq_true rfl)⟩ rfl rfl (Nat.le_of_ble_eq_true rfl) (Nat.le_of_ble_eq_true rfl) (fun r9 J_100 hq9 => ?_)
          obtain ⟨z_100, rfl, hz_100, rfl, hv_100⟩ := hq9
          rw [y_22.1 166 rfl] at hv_100
          refine tz_if_eq (pc := 103) (tgt := 114) dX12_term_103 (by decide) (by omega) (fun h_103 => ?_) (fun h_103 => ?_)
          · refine tz_iconst (pc := 114) dX12_term_114 ?_
            exact tz_iret (pc := 115) (z := (-1)) dX12_term_115 rfl (Nat.le_of_ble_eq_true rfl) (Nat.le_of_ble_eq_true rfl) ⟨Nat.le_refl _, Nat.le_add_right _ _⟩ ⟨_, rfl, (by decide), ⟨MQr.z hI y_22, MFI.z y_22, MBT.z hI y_22, u9.z y_22, y_22.1 183 rfl, by first | exact Or.inl ⟨(v_22.2 (by omega)).1, by omega, ⟨(fun q9 => by first | exact absurd q9 (by omega) | exact (if_pos (by omega)).symm | exact hh_0.symm.trans (if_neg (by omega)).symm), (fun q9 => by first | exact absurd q9 (by omega) | exact hh_0.symm.trans (if_pos (by omega)).symm | exact (if_neg (by omega)).symm), (fun q9 => by first | exact absurd q9 (by omega) | exact hh_0.symm), (fun q9 => by first | exact absurd q9 (by omega) | exact hh_0), (fun q9 => by first | exact absurd q9 (by omega) | exact congrArg (J 168) (by omega)), (fun q9 => by first | exact absurd q9 (by omega) | exact hh_0.symm), (fun q9 => by first | exact absurd q9 (by omega) | exact hh_0.symm), (fun q9 => by first | exact absurd q9 (by omega) | exact hh_0), (fun q9 => by first | exact absurd q9 (by omega) | exact hh_0), (fun q9 => by first | exact absurd q9 (by omega) | exact (ind_y (or_l hh_161 (by omega))).symm | exact (ind_n (or_r hh_161 (by omega))).symm)⟩⟩ | exact Or.inr ⟨(v_22.1 (by omega)).1, by omega⟩⟩⟩
          · refine tz_aload_n (pc := 106) dX12_term_106 rfl rfl ?_
            refine tz_iload_n (pc := 107) dX12_term_107 rfl rfl ?_
            refine tz_cV (pc := 108) (m_varOf hl n _ _ (by omega) 0 0 0 (J 164 9) m (hM.z y_22) (by omega)) vl_X12_123 dX12_term_108 o_164 rfl rfl (Nat.le_of_ble_eq_true rfl) ⟨(Nat.le_of_ble_eq_true rfl), (Nat.le_of_ble_eq_true rfl)⟩ rfl rfl (Nat.le_of_ble_eq_true rfl) (Nat.le_of_ble_eq_true rfl) (fun r9 J_108 hq9 => ?_)
            obtain ⟨z_108, rfl, hz_108, rfl, hh_108⟩ := hq9
            rw [y_22.1 166 rfl] at hh_108
            refine tz_goto (pc := 111) (tgt := 115) dX12_term_111 (by decide) ?_
            exact tz_iret (pc := 115) (z := z_108) dX12_term_115 rfl (Nat.le_of_ble_eq_true rfl) (Nat.le_of_ble_eq_true rfl) ⟨Nat.le_refl _, Nat.le_add_right _ _⟩ ⟨_, rfl, (by omega), ⟨MQr.z hI y_22, MFI.z y_22, MBT.z hI y_22, u9.z y_22, y_22.1 183 rfl, by first | exact Or.inl ⟨(v_22.2 (by omega)).1, by omega, ⟨(fun q9 => by first | exact absurd q9 (by omega) | exact (if_pos (by omega)).symm | exact hh_108.symm.trans (if_neg (by omega)).symm), (fun q9 => by first | exact absurd q9 (by omega) | exact hh_108.symm.trans (if_pos (by omega)).symm | exact (if_neg (by omega)).symm), (fun q9 => by first | exact absurd q9 (by omega) | exact hh_108.symm), (fun q9 => by first | exact absurd q9 (by omega) | exact hh_108), (fun q9 => by first | exact absurd q9 (by omega) | exact congrArg (J 168) (by omega)), (fun q9 => by first | exact absurd q9 (by omega) | exact hh_108.symm), (fun q9 => by first | exact absurd q9 (by omega) | exact hh_108.symm), (fun q9 => by first | exact absurd q9 (by omega) | exact hh_108), (fun q9 => by first | exact absurd q9 (by omega) | exact hh_108), (fun q9 => by first | exact absurd q9 (by omega) | exact (ind_y (or_l hh_161 (by omega))).symm | exact (ind_n (or_r hh_161 (by omega))).symm)⟩⟩ | exact Or.inr ⟨(v_22.1 (by omega)).1, by omega⟩⟩⟩
        · refine tz_tabIn (pc := 31) (tgt := 116) 2 dX12_term_31 hc_31 (by decide) rfl (by decide) ?_
          refine tz_aload_n (pc := 116) dX12_term_116 rfl rfl ?_
          refine tz_iload_n (pc := 117) dX12_term_117 rfl rfl ?_
          have hs_118 := (hM.z y_22).sz (t := x) (by omega)
          refine tz_cV (pc := 118) (m_size hl n _ _ (by omega) 0 0 0 (J 164 9) m (hM.z y_22) (by omega)) vl_X12_114 dX12_term_118 o_164 rfl rfl (Nat.le_of_ble_eq_true rfl) ⟨(Nat.le_of_ble_eq_true rfl), (Nat.le_of_ble_eq_true rfl)⟩ rfl rfl (Nat.le_of_ble_eq_true rfl) (Nat.le_of_ble_eq_true rfl) (fun r9 J_118 hq9 => ?_)
          obtain ⟨z_118, rfl, hz_118, rfl, hh_118⟩ := hq9
          rw [msz_z y_22] at hh_118
          exact tz_iret (pc := 121) (z := z_118) dX12_term_121 rfl (Nat.le_of_ble_eq_true rfl) (Nat.le_of_ble_eq_true rfl) ⟨Nat.le_refl _, Nat.le_add_right _ _⟩ ⟨_, rfl, (by omega), ⟨MQr.z hI y_22, MFI.z y_22, MBT.z hI y_22, u9.z y_22, y_22.1 183 rfl, by first | exact Or.inl ⟨(v_22.2 (by omega)).1, by omega, ⟨(fun q9 => by first | exact absurd q9 (by omega) | exact (if_pos (by omega)).symm | exact hh_118.symm.trans (if_neg (by omega)).symm), (fun q9 => by first | exact absurd q9 (by omega) | exact hh_118.symm.trans (if_pos (by omega)).symm | exact (if_neg (by omega)).symm), (fun q9 => by first | exact absurd q9 (by omega) | exact hh_118.symm), (fun q9 => by first | exact absurd q9 (by omega) | exact hh_118), (fun q9 => by first | exact absurd q9 (by omega) | exact congrArg (J 168) (by omega)), (fun q9 => by first | exact absurd q9 (by omega) | exact hh_118.symm), (fun q9 => by first | exact absurd q9 (by omega) | exact hh_118.symm), (fun q9 => by first | exact absurd q9 (by omega) | exact hh_118), (fun q9 => by first | exact absurd q9 (by omega) | exact hh_118), (fun q9 => by first | exact absurd q9 (by omega) | exact (ind_y (or_l hh_161 (by omega))).symm | exact (ind_n (or_r hh_161 (by omega))).symm)⟩⟩ | exact Or.inr ⟨(v_22.1 (by omega)).1, by omega⟩⟩⟩
        · refine tz_tabIn (pc := 31) (tgt := 122) 3 dX12_term_31 hc_31 (by decide) rfl (by decide) ?_
          refine tz_aload_n (pc := 122) dX12_term_122 rfl rfl ?_
          refine tz_iload_n (pc := 123) dX12_term_123 rfl rfl ?_
          refine tz_cV (pc := 124) (e_qshared hl n _ _ (by omega) 0 0 0 (J 164 9) m (hM.z y_22) (by omega)) vl_X12_382 dX12_term_124 o_164 rfl rfl (Nat.le_of_ble_eq_true rfl) ⟨(Nat.le_of_ble_eq_true rfl), (Nat.le_of_ble_eq_true rfl)⟩ rfl rfl (Nat.le_of_ble_eq_true rfl) (Nat.le_of_ble_eq_true rfl) (fun r9 J_124 hq9 => ?_)
          obtain ⟨z_124, rfl, hz_124, rfl, hh_124⟩ := hq9
          rw [mar_z y_22, mag_z y_22, ← hW0] at hh_124
          exact tz_iret (pc := 127) (z := z_124) dX12_term_127 rfl (Nat.le_of_ble_eq_true rfl) (Nat.le_of_ble_eq_true rfl) ⟨Nat.le_refl _, Nat.le_add_right _ _⟩ ⟨_, rfl, (by omega), ⟨MQr.z hI y_22, MFI.z y_22, MBT.z hI y_22, u9.z y_22, y_22.1 183 rfl, by first | exact Or.inl ⟨(v_22.2 (by omega)).1, by omega, ⟨(fun q9 => by first | exact absurd q9 (by omega) | exact (if_pos (by omega)).symm | exact hh_124.symm.trans (if_neg (by omega)).symm), (fun q9 => by first | exact absurd q9 (by omega) | exact hh_124.symm.trans (if_pos (by omega)).symm | exact (if_neg (by omega)).symm), (fun q9 => by first | exact absurd q9 (by omega) | exact hh_124.symm), (fun q9 => by first | exact absurd q9 (by omega) | exact hh_124), (fun q9 => by first | exact absurd q9 (by omega) | exact congrArg (J 168) (by omega)), (fun q9 => by first | exact absurd q9 (by omega) | exact hh_124.symm), (fun q9 => by first | exact absurd q9 (by omega) | exact hh_124.symm), (fun q9 => by first | exact absurd q9 (by omega) | exact hh_124), (fun q9 => by first | exact absurd q9 (by omega) | exact hh_124), (fun q9 => by first | exact absurd q9 (by omega) | exact (ind_y (or_l hh_161 (by omega))).symm | exact (ind_n (or_r hh_161 (by omega))).symm)⟩⟩ | exact Or.inr ⟨(v_22.1 (by omega)).1, by omega⟩⟩⟩
        · refine tz_tabIn (pc := 31) (tgt := 128) 4 dX12_term_31 hc_31 (by decide) rfl (by decide) ?_
          refine tz_aload_n (pc := 128) dX12_term_128 rfl rfl ?_
          refine tz_fR (pc := 129) dX12_term_129 fl_X12_19 r_164_3 ?_
          refine tz_iload_n (pc := 132) dX12_term_132 rfl rfl ?_
          refine tz_aL (pc := 133) (z := x) (v := (J 168 x)) dX12_term_133 a_168 rfl (by omega) (Eq.trans (congrFun (x_22.1 168 rfl) x) (Eq.trans (congrFun (x_7.1 168 rfl) x) rfl)) (fun r_133 => ?_)
          exact tz_iret (pc := 134) (z := (J 168 x)) dX12_term_134 rfl (Nat.le_of_ble_eq_true rfl) (Nat.le_of_ble_eq_true rfl) ⟨Nat.le_refl _, Nat.le_add_right _ _⟩ ⟨_, rfl, (by omega), ⟨MQr.z hI y_22, MFI.z y_22, MBT.z hI y_22, u9.z y_22, y_22.1 183 rfl, by first | exact Or.inl ⟨(v_22.2 (by omega)).1, by omega, ⟨(fun q9 => by first | exact absurd q9 (by omega) | exact (if_pos (by omega)).symm | exact hh_0.symm.trans (if_neg (by omega)).symm), (fun q9 => by first | exact absurd q9 (by omega) | exact hh_0.symm.trans (if_pos (by omega)).symm | exact (if_neg (by omega)).symm), (fun q9 => by first | exact absurd q9 (by omega) | exact hh_0.symm), (fun q9 => by first | exact absurd q9 (by omega) | exact hh_0), (fun q9 => by first | exact absurd q9 (by omega) | exact congrArg (J 168) (by omega)), (fun q9 => by first | exact absurd q9 (by omega) | exact hh_0.symm), (fun q9 => by first | exact absurd q9 (by omega) | exact hh_0.symm), (fun q9 => by first | exact absurd q9 (by omega) | exact hh_0), (fun q9 => by first | exact absurd q9 (by omega) | exact hh_0), (fun q9 => by first | exact absurd q9 (by omega) | exact (ind_y (or_l hh_161 (by omega))).symm | exact (ind_n (or_r hh_161 (by omega))).symm)⟩⟩ | exact Or.inr ⟨(v_22.1 (by omega)).1, by omega⟩⟩⟩
        · refine tz_tabIn (pc := 31) (tgt := 135) 5 dX12_term_31 hc_31 (by decide) rfl (by decide) ?_
          refine tz_aload_n (pc := 135) dX12_term_135 rfl rfl ?_
          refine tz_iload_n (pc := 136) dX12_term_136 rfl rfl ?_
          refine tz_cV (pc := 137) (x_weight hl n _ _ (by omega) 0 0 0 (J 164 9) m (hM.z y_22) (by omega) (by rw [y_22.1 171 rfl]; exact hw9)) vl_X12_120 dX12_term_137 o_164 rfl rfl (Nat.le_of_ble_eq_true rfl) ⟨(Nat.le_of_ble_eq_true rfl), (Nat.le_of_ble_eq_true rfl)⟩ rfl rfl (Nat.le_of_ble_eq_true rfl) (Nat.le_of_ble_eq_true rfl) (fun r9 J_137 hq9 => ?_)
          obtain ⟨z_137, rfl, hz_137, rfl, hh_137⟩ := hq9
          rw [mwt_z y_22] at hh_137
          exact tz_iret (pc := 140) (z := z_137) dX12_term_140 rfl (Nat.le_of_ble_eq_true rfl) (Nat.le_of_ble_eq_true rfl) ⟨Nat.le_refl _, Nat.le_add_right _ _⟩ ⟨_, rfl, (by omega), ⟨MQr.z hI y_22, MFI.z y_22, MBT.z hI y_22, u9.z y_22, y_22.1 183 rfl, by first | exact Or.inl ⟨(v_22.2 (by omega)).1, by omega, ⟨(fun q9 => by first | exact absurd q9 (by omega) | exact (if_pos (by omega)).symm | exact hh_137.symm.trans (if_neg (by omega)).symm), (fun q9 => by first | exact absurd q9 (by omega) | exact hh_137.symm.trans (if_pos (by omega)).symm | exact (if_neg (by omega)).symm), (fun q9 => by first | exact absurd q9 (by omega) | exact hh_137.symm), (fun q9 => by first | exact absurd q9 (by omega) | exact hh_137), (fun q9 => by first | exact absurd q9 (by omega) | exact congrArg (J 168) (by omega)), (fun q9 => by first | exact absurd q9 (by omega) | exact hh_137.symm), (fun q9 => by first | exact absurd q9 (by omega) | exact hh_137.symm), (fun q9 => by first | exact absurd q9 (by omega) | exact hh_137), (fun q9 => by first | exact absurd q9 (by omega) | exact hh_137), (fun q9 => by first | exact absurd q9 (by omega) | exact (ind_y (or_l hh_161 (by omega))).symm | exact (ind_n (or_r hh_161 (by omega))).symm)⟩⟩ | exact Or.inr ⟨(v_22.1 (by omega)).1, by omega⟩⟩⟩
        · refine tz_tabIn (pc := 31) (tgt := 141) 6 dX12_term_31 hc_31 (by decide) rfl (by decide) ?_
          refine tz_aload_n (pc := 141) dX12_term_141 rfl rfl ?_
          refine tz_iload_n (pc := 142) dX12_term_142 rfl rfl ?_
          refine tz_cV (pc := 143) (e_qvars hl n _ _ (by omega) 0 0 0 (J 164 9) m (hM.z y_22) (by omega)) vl_X12_126 dX12_term_143 o_164 rfl rfl (Nat.le_of_ble_eq_true rfl) ⟨(Nat.le_of_ble_eq_true rfl), (Nat.le_of_ble_eq_true rfl)⟩ rfl rfl (Nat.le_of_ble_eq_true rfl) (Nat.le_of_ble_eq_true rfl) (fun r9 J_143 hq9 => ?_)
          obtain ⟨z_143, rfl, hz_143, rfl, hk_143⟩ := hq9
          have hh_143 := hk_143 6 (by have := ((hM.z y_22).ar (t := x) (by omega)).2.2.1; omega)
          rw [mv0_z y_22, mar_z y_22, mag_z y_22] at hh_143
          exact tz_iret (pc := 146) (z := z_143) dX12_term_146 rfl (Nat.le_of_ble_eq_true rfl) (Nat.le_of_ble_eq_true rfl) ⟨Nat.le_refl _, Nat.le_add_right _ _⟩ ⟨_, rfl, (by omega), ⟨MQr.z hI y_22, MFI.z y_22, MBT.z hI y_22, u9.z y_22, y_22.1 183 rfl, by first | exact Or.inl ⟨(v_22.2 (by omega)).1, by omega, ⟨(fun q9 => by first | exact absurd q9 (by omega) | exact (if_pos (by omega)).symm | exact hh_143.symm.trans (if_neg (by omega)).symm), (fun q9 => by first | exact absurd q9 (by omega) | exact hh_143.symm.trans (if_pos (by omega)).symm | exact (if_neg (by omega)).symm), (fun q9 => by first | exact absurd q9 (by omega) | exact hh_143.symm), (fun q9 => by first | exact absurd q9 (by omega) | exact hh_143), (fun q9 => by first | exact absurd q9 (by omega) | exact congrArg (J 168) (by omega)), (fun q9 => by first | exact absurd q9 (by omega) | exact hh_143.symm), (fun q9 => by first | exact absurd q9 (by omega) | exact hh_143.symm), (fun q9 => by first | exact absurd q9 (by omega) | exact hh_143), (fun q9 => by first | exact absurd q9 (by omega) | exact hh_143), (fun q9 => by first | exact absurd q9 (by omega) | exact (ind_y (or_l hh_161 (by omega))).symm | exact (ind_n (or_r hh_161 (by omega))).symm)⟩⟩ | exact Or.inr ⟨(v_22.1 (by omega)).1, by omega⟩⟩⟩
        · refine tz_tabIn (pc := 31) (tgt := 147) 7 dX12_term_31 hc_31 (by decide) rfl (by decide) ?_
          refine tz_aload_n (pc := 147) dX12_term_147 rfl rfl ?_
          refine tz_iload_n (pc := 148) dX12_term_148 rfl rfl ?_
          refine tz_cV (pc := 149) (e_quses hl n _ _ (by omega) 0 0 0 (J 164 9) m (hM.z y_22) ) vl_X12_385 dX12_term_149 o_164 rfl rfl (Nat.le_of_ble_eq_true rfl) ⟨(Nat.le_of_ble_eq_true rfl), (Nat.le_of_ble_eq_true rfl)⟩ rfl rfl (Nat.le_of_ble_eq_true rfl) (Nat.le_of_ble_eq_true rfl) (fun r9 J_149 hq9 => ?_)
          obtain ⟨z_149, rfl, hz_149, rfl, hh_149⟩ := hq9
          rw [mar_z y_22, y_22.1 167 rfl, ← hW0] at hh_149
          exact tz_iret (pc := 152) (z := z_149) dX12_term_152 rfl (Nat.le_of_ble_eq_true rfl) (Nat.le_of_ble_eq_true rfl) ⟨Nat.le_refl _, Nat.le_add_right _ _⟩ ⟨_, rfl, (by omega), ⟨MQr.z hI y_22, MFI.z y_22, MBT.z hI y_22, u9.z y_22, y_22.1 183 rfl, by first | exact Or.inl ⟨(v_22.2 (by omega)).1, by omega, ⟨(fun q9 => by first | exact absurd q9 (by omega) | exact (if_pos (by omega)).symm | exact hh_149.symm.trans (if_neg (by omega)).symm), (fun q9 => by first | exact absurd q9 (by omega) | exact hh_149.symm.trans (if_pos (by omega)).symm | exact (if_neg (by omega)).symm), (fun q9 => by first | exact absurd q9 (by omega) | exact hh_149.symm), (fun q9 => by first | exact absurd q9 (by omega) | exact hh_149), (fun q9 => by first | exact absurd q9 (by omega) | exact congrArg (J 168) (by omega)), (fun q9 => by first | exact absurd q9 (by omega) | exact hh_149.symm), (fun q9 => by first | exact absurd q9 (by omega) | exact hh_149.symm), (fun q9 => by first | exact absurd q9 (by omega) | exact hh_149), (fun q9 => by first | exact absurd q9 (by omega) | exact hh_149), (fun q9 => by first | exact absurd q9 (by omega) | exact (ind_y (or_l hh_161 (by omega))).symm | exact (ind_n (or_r hh_161 (by omega))).symm)⟩⟩ | exact Or.inr ⟨(v_22.1 (by omega)).1, by omega⟩⟩⟩
        · refine tz_tabIn (pc := 31) (tgt := 153) 8 dX12_term_31 hc_31 (by decide) rfl (by decide) ?_
          refine tz_aload_n (pc := 153) dX12_term_153 rfl rfl ?_
          refine tz_iload_n (pc := 154) dX12_term_154 rfl rfl ?_
          have h16_155 : (J_22 : zJ) 164 16 = 0 := (show (J_22 : zJ) 164 16 = (J 164 16) from (Eq.trans (x_22.2 16 (by decide) (by decide)) (Eq.trans (x_7.2 16 (by decide) (by decide)) rfl))).trans hT.2.2.2.1.2.1
          refine tz_cV (pc := 155) (e_qentryOf hl n _ _ (by omega) h16_155 (by rw [y_22.1 165 rfl]; omega)) vl_X12_307 dX12_term_155 o_164 rfl rfl (Nat.le_of_ble_eq_true rfl) ⟨(Nat.le_of_ble_eq_true rfl), (Nat.le_of_ble_eq_true rfl)⟩ rfl rfl (Nat.le_of_ble_eq_true rfl) (Nat.le_of_ble_eq_true rfl) (fun r9 J_155 hq9 => ?_)
          obtain ⟨z_155, rfl, hz_155, rfl, hh_155⟩ := hq9
          rw [y_22.1 165 rfl] at hh_155
          exact tz_iret (pc := 158) (z := z_155) dX12_term_158 rfl (Nat.le_of_ble_eq_true rfl) (Nat.le_of_ble_eq_true rfl) ⟨Nat.le_refl _, Nat.le_add_right _ _⟩ ⟨_, rfl, (by omega), ⟨MQr.z hI y_22, MFI.z y_22, MBT.z hI y_22, u9.z y_22, y_22.1 183 rfl, by first | exact Or.inl ⟨(v_22.2 (by omega)).1, by omega, ⟨(fun q9 => by first | exact absurd q9 (by omega) | exact (if_pos (by omega)).symm | exact hh_155.symm.trans (if_neg (by omega)).symm), (fun q9 => by first | exact absurd q9 (by omega) | exact hh_155.symm.trans (if_pos (by omega)).symm | exact (if_neg (by omega)).symm), (fun q9 => by first | exact absurd q9 (by omega) | exact hh_155.symm), (fun q9 => by first | exact absurd q9 (by omega) | exact hh_155), (fun q9 => by first | exact absurd q9 (by omega) | exact congrArg (J 168) (by omega)), (fun q9 => by first | exact absurd q9 (by omega) | exact hh_155.symm), (fun q9 => by first | exact absurd q9 (by omega) | exact hh_155.symm), (fun q9 => by first | exact absurd q9 (by omega) | exact hh_155), (fun q9 => by first | exact absurd q9 (by omega) | exact hh_155), (fun q9 => by first | exact absurd q9 (by omega) | exact (ind_y (or_l hh_161 (by omega))).symm | exact (ind_n (or_r hh_161 (by omega))).symm)⟩⟩ | exact Or.inr ⟨(v_22.1 (by omega)).1, by omega⟩⟩⟩
    · refine tz_iconst (pc := 28) dX12_term_28 ?_
      exact tz_iret (pc := 29) (z := 0) dX12_term_29 rfl (Nat.le_of_ble_eq_true rfl) (Nat.le_of_ble_eq_true rfl) ⟨Nat.le_refl _, Nat.le_add_right _ _⟩ ⟨_, rfl, (by decide), ⟨MQr.z hI y_22, MFI.z y_22, MBT.z hI y_22, u9.z y_22, y_22.1 183 rfl, by first | exact Or.inl ⟨(v_22.2 (by omega)).1, by omega, ⟨(fun q9 => by first | exact absurd q9 (by omega) | exact (if_pos (by omega)).symm | exact hh_0.symm.trans (if_neg (by omega)).symm), (fun q9 => by first | exact absurd q9 (by omega) | exact hh_0.symm.trans (if_pos (by omega)).symm | exact (if_neg (by omega)).symm), (fun q9 => by first | exact absurd q9 (by omega) | exact hh_0.symm), (fun q9 => by first | exact absurd q9 (by omega) | exact hh_0), (fun q9 => by first | exact absurd q9 (by omega) | exact congrArg (J 168) (by omega)), (fun q9 => by first | exact absurd q9 (by omega) | exact hh_0.symm), (fun q9 => by first | exact absurd q9 (by omega) | exact hh_0.symm), (fun q9 => by first | exact absurd q9 (by omega) | exact hh_0), (fun q9 => by first | exact absurd q9 (by omega) | exact hh_0), (fun q9 => by first | exact absurd q9 (by omega) | exact (ind_y (or_l hh_161 (by omega))).symm | exact (ind_n (or_r hh_161 (by omega))).symm)⟩⟩ | exact Or.inr ⟨(v_22.1 (by omega)).1, by omega⟩⟩⟩

theorem ask_eqR {za zb t8 ra : Int} {C C2 : Prop} {P Q : Int → Prop} (hc : C ↔ C2) (hv : C → ∀ p q, P p → Q q → p = q) (a : (za = 0 ∧ C ∧ P ra) ∨ (za = 1 ∧ ¬ C)) (b : (t8 = 0 ∧ C2 ∧ Q zb) ∨ (t8 = 1 ∧ ¬ C2)) : t8 = za ∧ (za = 0 → ra = zb) := by
  rcases a with ⟨a1, a2, a3⟩ | ⟨a1, a2⟩ <;> rcases b with ⟨b1, b2, b3⟩ | ⟨b1, b2⟩
  · exact ⟨b1.trans a1.symm, fun _ => hv a2 _ _ a3 b3⟩
  · exact absurd (hc.1 a2) b2
  · exact absurd (hc.2 b2) a2
  · exact ⟨b1.trans a1.symm, fun w => absurd (w.symm.trans a1) (by decide)⟩
theorem mwt_ma {J : zJ} {m : Int} (E : A0 J (tbz J)) (C : CT J m) (hm : J 6 12 = m) {t : Int} (ht : 0 ≤ t ∧ t < m) : mwt J 0 0 t = J 11 t := by
  obtain ⟨m1, m2⟩ := ma_all E C hm
  have T := C.told
  have e1' : J 1 3 = J 164 9 := E.1.1
  have hgw : ∀ t, 0 ≤ t → t < m → mgw J 0 0 t = cgw J t := fun t a c => by
    have h7 := (C.ar a c).2.2
    unfold mgw cgw
    rw [(m1 t a c).1]
    split
    · rfl
    · have q := (E.1.2 (J 7 t) (by omega) (show J 7 t < J 164 9 by omega)).2.2
      rw [show tbz J 171 (0 + J 7 t) = J 171 (0 + J 7 t) from if_pos ⟨by omega, by omega⟩] at q
      exact q.symm
  rw [C.wt ht]
  exact sV_cg C.td hgw (fun t a b => (m1 t a b).2.1) m2 6 t ht
theorem vs_ma {J : zJ} {m : Int} (E : A0 J (tbz J)) (C : CT J m) (hm : J 6 12 = m) {t : Int} (ht : 0 ≤ t ∧ t < m) : vsF (mv0 J 0) (mar J 0 0) (mag J 0) 6 t = J 13 t := by
  obtain ⟨m1, m2⟩ := ma_all E C hm
  rw [C.vs 6 t ht (by have := (C.nums ht.1 ht.2).2.2; omega)]
  refine vsF_cg C.td (fun t a b => ?_) (fun t a b => (m1 t a b).2.1) m2 6 t ht
  have h7 := (C.ar a b).2.2
  unfold mv0 zv0
  rw [(m1 t a b).1]
  by_cases h : J 7 t < 0
  · rw [if_pos h, if_pos h, z_nn (by omega)]
  · rw [if_neg h, if_neg h]
theorem en_eq {f g : Int → Int} {n n' t p q : Int} (hn : n = n') (hf : ∀ i, 0 ≤ i → i < n → f i = g i) (a : (0 ≤ p ∧ p < n ∧ f p = t ∧ ∀ i, 0 ≤ i → i < p → ¬ f i = t) ∨ (p = -1 ∧ ∀ i, 0 ≤ i → i < n → ¬ f i = t)) (b : (0 ≤ q ∧ q < n' ∧ g q = t ∧ ∀ i, 0 ≤ i → i < q → ¬ g i = t) ∨ (q = -1 ∧ ∀ i, 0 ≤ i → i < n' → ¬ g i = t)) : p = q := by
  subst hn
  rcases a with ⟨a1, a2, a3, a4⟩ | ⟨a1, a2⟩ <;> rcases b with ⟨b1, b2, b3, b4⟩ | ⟨b1, b2⟩
  · by_cases h : p < q
    · exact absurd ((hf p a1 a2).symm.trans a3) (b4 p a1 h)
    · by_cases h' : q < p
      · exact absurd ((hf q b1 b2).trans b3) (a4 q b1 h')
      · omega
  · exact absurd ((hf p a1 a2).symm.trans a3) (b2 p a1 a2)
  · exact absurd ((hf q b1 b2).trans b3) (a2 q b1 b2)
  · omega
theorem ask_term {J J1 : zJ} {n m a b : Int} {R : Int → Int → Int} (c0 : CAL J (tbz J) n R) (hI : CI J m) (f : ∀ q, 164 ≤ q → q < 183 → J1 q = J q) : (((0 ≤ a ∧ a < J 6 12) ∧ 0 ≤ b ∧ b ≤ 9) ↔ ((0 ≤ a ∧ a < J1 165 0) ∧ 0 ≤ b ∧ b ≤ 9)) ∧ (((0 ≤ a ∧ a < J 6 12) ∧ 0 ≤ b ∧ b ≤ 9) → ∀ p q, ((b = 0 → p = if J 7 a < 0 then -1 else J 7 a) ∧ (b = 1 → p = if J 7 a < 0 then -1 - J 7 a else -1) ∧ (b = 2 → p = J 10 a) ∧ (b = 3 → p = sumI (fun x => SUB (J 8) (cag J) x a) (a + 1).toNat) ∧ (b = 4 → p = J 12 a) ∧ (b = 5 → p = J 11 a) ∧ (b = 6 → p = J 13 a) ∧ (b = 7 → p = sumI (fun x => a < x ∧ (J 9 (x * 3 + 0) = a ∨ J 9 (x * 3 + 1) = a ∨ J 9 (x * 3 + 2) = a)) (J 6 12).toNat) ∧ (b = 8 → ((0 ≤ p ∧ p < J 19 5 ∧ J 19 (31 + p) = a ∧ ∀ i, 0 ≤ i → i < p → ¬ J 19 (31 + i) = a) ∨ (p = -1 ∧ ∀ i, 0 ≤ i → i < J 19 5 → ¬ J 19 (31 + i) = a))) ∧ (b = 9 → p = ind (∀ k, SUB (J 8) (cag J) k a → NOR (tbz J) k ((tbz J) 165 9)))) → ((b = 0 → q = if J1 166 (0 + a) < 0 then -1 else J1 166 (0 + a)) ∧ (b = 1 → q = if J1 166 (0 + a) < 0 then -1 - J1 166 (0 + a) else -1) ∧ (b = 2 → q = msz J1 0 0 a) ∧ (b = 3 → q = sumI (fun q => SUB (mar J1 0 0) (mag J1 0) q a) (J1 165 0).toNat) ∧ (b = 4 → q = J1 168 (0 + a)) ∧ (b = 5 → q = mwt J1 0 0 a) ∧ (b = 6 → q = vsF (mv0 J1 0) (mar J1 0 0) (mag J1 0) 6 a) ∧ (b = 7 → q = sumI (fun q => ∃ j, (0 ≤ j ∧ j < mar J1 0 0 q) ∧ J1 167 (3 * (0 + q) + j) = a) (J1 165 0).toNat) ∧ (b = 8 → ((0 ≤ q ∧ q < J1 165 26 ∧ J1 165 (27 + q) = a ∧ ∀ i, 0 ≤ i → i < q → ¬ J1 165 (27 + i) = a) ∨ (q = -1 ∧ ∀ i, 0 ≤ i → i < J1 165 26 → ¬ J1 165 (27 + i) = a))) ∧ (b = 9 → q = ind (∀ k, SUB (mar J1 0 0) (mag J1 0) k a → NOR (tbz J1) k (J1 165 9)))) → p = q) := by
  obtain ⟨E13, E6, E39, E9, E26, E40, Eb, Ea, Em⟩ := al_eq c0 hI
  have C := hI.1.1.1
  have hm := hI.1.1.2.1
  obtain ⟨g1, g2, g3⟩ := mtb_hi f
  obtain ⟨m1, m2⟩ := ma_all c0.1 C hm
  have g5 := f 165 (by decide) (by decide)
  have g6 := f 166 (by decide) (by decide)
  have g7 := f 167 (by decide) (by decide)
  have g8 := f 168 (by decide) (by decide)
  have gt : tbz J1 = tbz J := tbz_hi f
  have gw : mwt J1 0 0 = mwt J 0 0 := by
    funext t
    unfold mwt mgw
    rw [g1, g2, g6, f 171 (by decide) (by decide)]
  have gv : mv0 J1 0 = mv0 J 0 := by
    funext t
    unfold mv0
    rw [g6]
  rw [g1, g2, g3, g5, g6, g7, g8, gt, gw, gv]
  refine ⟨by omega, fun q9 p q P Q => ?_⟩
  obtain ⟨qa, qb⟩ := q9
  have hma : 0 ≤ a ∧ a < m := by omega
  obtain ⟨P0, P1, P2, P3, P4, P5, P6, P7, P8, P9⟩ := P
  obtain ⟨Q0, Q1, Q2, Q3, Q4, Q5, Q6, Q7, Q8, Q9⟩ := Q
  obtain ⟨h1, h2, h3⟩ := m1 a hma.1 hma.2
  rcases (show b = 0 ∨ b = 1 ∨ b = 2 ∨ b = 3 ∨ b = 4 ∨ b = 5 ∨ b = 6 ∨ b = 7 ∨ b = 8 ∨ b = 9 by omega) with e | e | e | e | e | e | e | e | e | e
  · rw [P0 e, Q0 e, h1]
  · rw [P1 e, Q1 e, h1]
  · rw [P2 e, Q2 e, h3]
  · rw [P3 e, Q3 e, ← Em]
    have u := sumI_up (p := fun x => SUB (J 8) (cag J) x a) (a := (a + 1).toNat) (m - (a + 1)).toNat (fun k x y w => by have g := SUB.rg C.rga hma w; omega)
    rw [show (a + 1).toNat + (m - (a + 1)).toNat = m.toNat from by omega] at u
    rw [← u]
    exact sumI_cg _ (fun k x y => SUB.cg C.rga (fun x a b => (m1 x a b).2.1) m2 hma)
  · have w := (c0.1.2.2.1 a hma.1 (show a < J 165 0 by omega)).2
    rw [show tbz J 168 (0 + a) = J 168 (0 + a) from if_pos ⟨by have := C.told; omega, by have := C.told; omega⟩] at w
    rw [P4 e, Q4 e, w]
  · rw [P5 e, Q5 e, mwt_ma c0.1 C hm hma]
  · rw [P6 e, Q6 e, vs_ma c0.1 C hm hma]
  · rw [P7 e, Q7 e, ← Em, hm]
    refine sumI_cg _ (fun k x y => ?_)
    have ar := (C.ar (t := k) x (by omega)).1
    have un := (C.2.1 k x (by omega)).2.2.1
    have e8 := (m1 k x (by omega)).2.1
    have rg := fun i p q => (C.arg (t := k) (i := i) x (by omega) p q).1
    rw [e8]
    constructor
    · rintro ⟨w0, w⟩
      have nu : ∀ i, (i = 0 ∨ i = 1 ∨ i = 2) → J 9 (k * 3 + i) = a → ∃ j, (0 ≤ j ∧ j < J 8 k) ∧ J 167 (3 * (0 + k) + j) = a := fun i hi v => by
        by_cases l : i < J 8 k
        · exact ⟨i, by omega, (m2 k x (by omega) i (by omega) l).trans v⟩
        · have := un i (by omega) (by omega)
          omega
      rcases w with w | w | w
      · exact nu 0 (by omega) w
      · exact nu 1 (by omega) w
      · exact nu 2 (by omega) w
    · rintro ⟨j, hj, w⟩
      have v : J 9 (k * 3 + j) = a := (m2 k x (by omega) j hj.1 hj.2).symm.trans w
      have r := rg j hj.1 hj.2
      refine ⟨by omega, ?_⟩
      rcases (show j = 0 ∨ j = 1 ∨ j = 2 by omega) with l | l | l
      · subst l; exact Or.inl v
      · subst l; exact Or.inr (Or.inl v)
      · subst l; exact Or.inr (Or.inr v)
  · have w5 := c0.2.1.2.2.1
    have l5 := hI.1.1.2.2.1.2.2.1
    have z5 : ∀ k, 0 ≤ k → k < 63 → tbz J 165 k = J 165 k := fun k a b => if_pos ⟨a, b⟩
    exact en_eq (f := fun i => J 19 (31 + i)) (g := fun i => J 165 (27 + i)) E26 (fun i x y => (w5.2 i x (by rw [z5 26 (by decide) (by decide)]; omega)).trans (z5 (27 + i) (by omega) (by omega))) (P8 e) (Q8 e)
  · have z5 : ∀ k, 0 ≤ k → k < 63 → tbz J 165 k = J 165 k := fun k a b => if_pos ⟨a, b⟩
    have z9 := z5 9 (by decide) (by decide)
    rw [P9 e, Q9 e, z9]
    exact ind_cg ⟨fun w k y => w k ((SUB.cg C.rga (fun x a b => (m1 x a b).2.1) m2 hma).2 y), fun w k y => w k ((SUB.cg C.rga (fun x a b => (m1 x a b).2.1) m2 hma).1 y)⟩
