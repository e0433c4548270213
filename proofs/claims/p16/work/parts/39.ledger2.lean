/-- by values: a row g that is f but for slots that don't count -/
theorem LI.cg {f g : Int → Int} {m : Int} (h : LI f m) (e : ∀ k, 1 ≤ k → ¬ k = 2 → ¬ k = 3 → g k = f k) : LI g m := by
  obtain ⟨h1, h2, h3, h4, h5⟩ := h
  have e1 := e 1 (by decide) (by decide) (by decide)
  have e4 := e 4 (by decide) (by decide) (by decide)
  have e5 := e 5 (by decide) (by decide) (by decide)
  have e6 := e 6 (by decide) (by decide) (by decide)
  refine ⟨by omega, fun v a b => ?_, fun i a b => ?_, fun i a b => ?_, fun i a b => ?_⟩
  · rw [e (7 + v) (by omega) (by omega) (by omega)]; exact h2 v a b
  · rw [e (15 + i) (by omega) (by omega) (by omega), e (23 + i) (by omega) (by omega) (by omega)]; exact h3 i a (by omega)
  · rw [e (31 + i) (by omega) (by omega) (by omega)]; exact h4 i a (by omega)
  · rw [e (43 + i) (by omega) (by omega) (by omega), e (52 + i) (by omega) (by omega) (by omega)]; exact h5 i a (by omega)
theorem LI.hits {J : zJ} {m z : Int} (h : LI (J 19) m) : LI (zup J 19 2 z 19) m := h.cg (fun k _ b _ => zup_ne b)
theorem LI.steps {J : zJ} {m z : Int} (h : LI (J 19) m) : LI (zup J 19 3 z 19) m := h.cg (fun k _ _ b => zup_ne b)
theorem LI.terms {J : zJ} {m z : Int} (h : LI (J 19) m) : LI (zup J 19 0 z 19) m := h.cg (fun k b _ _ => zup_ne (by omega))
theorem LI.bind {J : zJ} {m v z : Int} (h : LI (J 19) m) (hv : 0 ≤ v ∧ v < 8) (hz : -1 ≤ z ∧ z < m) : LI (zup J 19 (7 + v) z 19) m := by
  obtain ⟨h1, h2, h3, h4, h5⟩ := h
  have e : ∀ k, ¬ k = 7 + v → zup J 19 (7 + v) z 19 k = J 19 k := fun k b => zup_ne b
  have e0 : zup J 19 (7 + v) z 19 (7 + v) = z := zup_at
  generalize zup J 19 (7 + v) z 19 = g at *
  have e1 := e 1 (by omega)
  have e4 := e 4 (by omega)
  have e5 := e 5 (by omega)
  have e6 := e 6 (by omega)
  refine ⟨by omega, fun u a b => ?_, fun i a b => ?_, fun i a b => ?_, fun i a b => ?_⟩
  · by_cases q : u = v
    · rw [q, e0]; exact hz
    · rw [e (7 + u) (by omega)]; exact h2 u a b
  · rw [e (15 + i) (by omega), e (23 + i) (by omega)]; exact h3 i a (by omega)
  · rw [e (31 + i) (by omega)]; exact h4 i a (by omega)
  · rw [e (43 + i) (by omega), e (52 + i) (by omega)]; exact h5 i a (by omega)
theorem LI.room {J : zJ} {m z : Int} (h : LI (J 19) m) (hz : 0 ≤ z ∧ z ≤ 9) : LI (zup (zup J 19 1 z) 19 6 0 19) m := by
  obtain ⟨h1, h2, h3, h4, h5⟩ := h
  have e : ∀ k, ¬ k = 6 → ¬ k = 1 → zup (zup J 19 1 z) 19 6 0 19 k = J 19 k := fun k a b => (zup_ne a).trans (zup_ne b)
  have e1 : zup (zup J 19 1 z) 19 6 0 19 1 = z := (zup_ne (by decide)).trans zup_at
  have e6 : zup (zup J 19 1 z) 19 6 0 19 6 = 0 := zup_at
  generalize zup (zup J 19 1 z) 19 6 0 19 = g at *
  have e4 := e 4 (by omega) (by omega)
  have e5 := e 5 (by omega) (by omega)
  refine ⟨by omega, fun u a b => ?_, fun i a b => ?_, fun i a b => ?_, fun i a b => by omega⟩
  · rw [e (7 + u) (by omega) (by omega)]; exact h2 u a b
  · rw [e (15 + i) (by omega) (by omega), e (23 + i) (by omega) (by omega)]; exact h3 i a (by omega)
  · rw [e (31 + i) (by omega) (by omega)]; exact h4 i a (by omega)
theorem LI.aR {J : zJ} {m x y : Int} (h : LI (J 19) m) (hx : 0 ≤ x ∧ x < m) (hy : 0 ≤ y ∧ y < m) : LI (zaR J x y 19) m := by
  unfold zaR
  split
  · rename_i hl
    obtain ⟨h1, h2, h3, h4, h5⟩ := h
    generalize hg : zup (zup (zup (zup J 19 (15 + J 19 4) x) 19 (23 + J 19 4) y) 19 4 (J 19 4 + 1)) 19 6 0 19 = g
    have e : ∀ k, g k = if k = 6 then 0 else if k = 4 then J 19 4 + 1 else if k = 23 + J 19 4 then y else if k = 15 + J 19 4 then x else J 19 k := fun k => by rw [← hg]; simp only [zup, if_true]
    have e4 : g 4 = J 19 4 + 1 := by rw [e, if_neg (by omega), if_pos rfl]
    have e6 : g 6 = 0 := by rw [e, if_pos rfl]
    have e0 : ∀ k, ¬ k = 6 → ¬ k = 4 → ¬ k = 23 + J 19 4 → ¬ k = 15 + J 19 4 → g k = J 19 k := fun k a b c d => by rw [e, if_neg a, if_neg b, if_neg c, if_neg d]
    have e1 := e0 1 (by omega) (by omega) (by omega) (by omega)
    have e5 := e0 5 (by omega) (by omega) (by omega) (by omega)
    refine ⟨by omega, fun u a b => ?_, fun i a b => ?_, fun i a b => ?_, fun i a b => by omega⟩
    · rw [e0 (7 + u) (by omega) (by omega) (by omega) (by omega)]; exact h2 u a b
    · by_cases q : i = J 19 4
      · rw [e (15 + i), e (23 + i), if_neg (by omega), if_neg (by omega), if_neg (by omega), if_pos (by omega), if_neg (by omega), if_neg (by omega), if_pos (by omega)]
        exact ⟨hx, hy⟩
      · rw [e0 (15 + i) (by omega) (by omega) (by omega) (by omega), e0 (23 + i) (by omega) (by omega) (by omega) (by omega)]; exact h3 i a (by omega)
    · rw [e0 (31 + i) (by omega) (by omega) (by omega) (by omega)]; exact h4 i a (by omega)
  · exact h
theorem LI.aE {J : zJ} {m x : Int} (h : LI (J 19) m) (hx : 0 ≤ x ∧ x < m) : LI (zaE J x 19) m := by
  unfold zaE
  split
  · rename_i hl
    obtain ⟨h1, h2, h3, h4, h5⟩ := h
    generalize hg : zup (zup J 19 (31 + J 19 5) x) 19 5 (J 19 5 + 1) 19 = g
    have e : ∀ k, g k = if k = 5 then J 19 5 + 1 else if k = 31 + J 19 5 then x else J 19 k := fun k => by rw [← hg]; simp only [zup, if_true]
    have e5 : g 5 = J 19 5 + 1 := by rw [e, if_pos rfl]
    have e0 : ∀ k, ¬ k = 5 → ¬ k = 31 + J 19 5 → g k = J 19 k := fun k a b => by rw [e, if_neg a, if_neg b]
    have e1 := e0 1 (by omega) (by omega)
    have e4 := e0 4 (by omega) (by omega)
    have e6 := e0 6 (by omega) (by omega)
    refine ⟨by omega, fun u a b => ?_, fun i a b => ?_, fun i a b => ?_, fun i a b => ?_⟩
    · rw [e0 (7 + u) (by omega) (by omega)]; exact h2 u a b
    · rw [e0 (15 + i) (by omega) (by omega), e0 (23 + i) (by omega) (by omega)]; exact h3 i a (by omega)
    · by_cases q : i = J 19 5
      · rw [e (31 + i), if_neg (by omega), if_pos (by omega)]; exact hx
      · rw [e0 (31 + i) (by omega) (by omega)]; exact h4 i a (by omega)
    · rw [e0 (43 + i) (by omega) (by omega), e0 (52 + i) (by omega) (by omega)]; exact h5 i a (by omega)
  · exact h
theorem LI.dE {J : zJ} {m w : Int} (h : LI (J 19) m) (hw : 0 ≤ w ∧ w < J 19 5) : LI (zdE J w 19) m := by
  obtain ⟨h1, h2, h3, h4, h5⟩ := h
  generalize hg : zdE J w 19 = g
  have e : ∀ k, g k = if k = 5 then J 19 5 - 1 else if 31 + w ≤ k ∧ k < 31 + (J 19 5 - 1) then J 19 (k + 1) else J 19 k := fun k => by rw [← hg]; simp only [zdE, zup, zsh, if_true]
  have e5 : g 5 = J 19 5 - 1 := by rw [e, if_pos rfl]
  have e0 : ∀ k, ¬ k = 5 → ¬ (31 + w ≤ k ∧ k < 31 + (J 19 5 - 1)) → g k = J 19 k := fun k a b => by rw [e, if_neg a, if_neg b]
  have e1 := e0 1 (by omega) (by omega)
  have e4 := e0 4 (by omega) (by omega)
  have e6 := e0 6 (by omega) (by omega)
  refine ⟨by omega, fun u a b => ?_, fun i a b => ?_, fun i a b => ?_, fun i a b => ?_⟩
  · rw [e0 (7 + u) (by omega) (by omega)]; exact h2 u a b
  · rw [e0 (15 + i) (by omega) (by omega), e0 (23 + i) (by omega) (by omega)]; exact h3 i a (by omega)
  · by_cases q : w ≤ i
    · rw [e (31 + i), if_neg (by omega), if_pos (by omega), show 31 + i + 1 = 31 + (i + 1) by omega]; exact h4 (i + 1) (by omega) (by omega)
    · rw [e0 (31 + i) (by omega) (by omega)]; exact h4 i a (by omega)
  · rw [e0 (43 + i) (by omega) (by omega), e0 (52 + i) (by omega) (by omega)]; exact h5 i a (by omega)
theorem LI.dM {J : zJ} {m w : Int} (h : LI (J 19) m) (hw : 0 ≤ w ∧ w < J 19 6) : LI (zdM J w 19) m := by
  obtain ⟨h1, h2, h3, h4, h5⟩ := h
  generalize hg : zdM J w 19 = g
  have e : ∀ k, g k = if k = 6 then J 19 6 - 1 else if (43 + w ≤ k ∧ k < 43 + (J 19 6 - 1)) ∨ (52 + w ≤ k ∧ k < 52 + (J 19 6 - 1)) then J 19 (k + 1) else J 19 k := fun k => by rw [← hg]; simp only [zdM, zup, zdm, if_true]
  have e6 : g 6 = J 19 6 - 1 := by rw [e, if_pos rfl]
  have e0 : ∀ k, ¬ k = 6 → ¬ ((43 + w ≤ k ∧ k < 43 + (J 19 6 - 1)) ∨ (52 + w ≤ k ∧ k < 52 + (J 19 6 - 1))) → g k = J 19 k := fun k a b => by rw [e, if_neg a, if_neg b]
  have e1 := e0 1 (by omega) (by omega)
  have e4 := e0 4 (by omega) (by omega)
  have e5 := e0 5 (by omega) (by omega)
  refine ⟨by omega, fun u a b => ?_, fun i a b => ?_, fun i a b => ?_, fun i a b => ?_⟩
  · rw [e0 (7 + u) (by omega) (by omega)]; exact h2 u a b
  · rw [e0 (15 + i) (by omega) (by omega), e0 (23 + i) (by omega) (by omega)]; exact h3 i a (by omega)
  · rw [e0 (31 + i) (by omega) (by omega)]; exact h4 i a (by omega)
  · by_cases q : w ≤ i
    · rw [e (43 + i), e (52 + i), if_neg (by omega), if_pos (by omega), if_neg (by omega), if_pos (by omega), show 43 + i + 1 = 43 + (i + 1) by omega, show 52 + i + 1 = 52 + (i + 1) by omega]; exact h5 (i + 1) (by omega) (by omega)
    · rw [e0 (43 + i) (by omega) (by omega), e0 (52 + i) (by omega) (by omega)]; exact h5 i a (by omega)
theorem LI.aM {J : zJ} {m x y : Int} (h : LI (J 19) m) (hx : 0 ≤ x ∧ x < m) (hy : 0 ≤ y ∧ y < m) : LI (zaM J x y 19) m := by
  unfold zaM
  split
  · rename_i hl
    obtain ⟨h1, h2, h3, h4, h5⟩ := h
    generalize hg : zup (zup (zup J 19 (43 + J 19 6) x) 19 (52 + J 19 6) y) 19 6 (J 19 6 + 1) 19 = g
    have e : ∀ k, g k = if k = 6 then J 19 6 + 1 else if k = 52 + J 19 6 then y else if k = 43 + J 19 6 then x else J 19 k := fun k => by rw [← hg]; simp only [zup, if_true]
    have e6 : g 6 = J 19 6 + 1 := by rw [e, if_pos rfl]
    have e0 : ∀ k, ¬ k = 6 → ¬ k = 52 + J 19 6 → ¬ k = 43 + J 19 6 → g k = J 19 k := fun k a b c => by rw [e, if_neg a, if_neg b, if_neg c]
    have e1 := e0 1 (by omega) (by omega) (by omega)
    have e4 := e0 4 (by omega) (by omega) (by omega)
    have e5 := e0 5 (by omega) (by omega) (by omega)
    refine ⟨by omega, fun u a b => ?_, fun i a b => ?_, fun i a b => ?_, fun i a b => ?_⟩
    · rw [e0 (7 + u) (by omega) (by omega) (by omega)]; exact h2 u a b
    · rw [e0 (15 + i) (by omega) (by omega) (by omega), e0 (23 + i) (by omega) (by omega) (by omega)]; exact h3 i a (by omega)
    · rw [e0 (31 + i) (by omega) (by omega) (by omega)]; exact h4 i a (by omega)
    · by_cases q : i = J 19 6
      · rw [e (43 + i), e (52 + i), if_neg (by omega), if_neg (by omega), if_pos (by omega), if_neg (by omega), if_pos (by omega)]
        exact ⟨hx, hy⟩
      · rw [e0 (43 + i) (by omega) (by omega) (by omega), e0 (52 + i) (by omega) (by omega) (by omega)]; exact h5 i a (by omega)
  · exact h
theorem LI.rM {J : zJ} {m x y : Int} (h : LI (J 19) m) (hx : 0 ≤ x ∧ x < m) (hy : 0 ≤ y ∧ y < m) : LI (zrM J x y 19) m := by
  have h9 := h.1
  unfold zrM
  split
  · exact h
  · split
    · exact (h.dM (by omega)).aM hx hy
    · exact h.aM hx hy
theorem LI.new {f : Int → Int} {m : Int} (hm : 0 ≤ m) (e : ∀ k, 0 ≤ k → k < 61 → f k = if k = 1 then 4 else if 7 ≤ k ∧ k < 15 then -1 else 0) : LI f m := by
  have e1 := e 1 (by decide) (by decide)
  have e4 := e 4 (by decide) (by decide)
  have e5 := e 5 (by decide) (by decide)
  have e6 := e 6 (by decide) (by decide)
  rw [if_pos rfl] at e1
  rw [if_neg (by decide), if_neg (by decide)] at e4 e5 e6
  refine ⟨by omega, fun u a b => ?_, fun i a b => by omega, fun i a b => by omega, fun i a b => by omega⟩
  rw [e (7 + u) (by omega) (by omega), if_neg (by omega), if_pos (by omega)]
  omega
set_option maxHeartbeats 4000000 in
set_option maxRecDepth 100000 in
theorem c_recalled {l : Launch} {G : tb_G} (hl : l.stackTraces = false) (n : Nat) (J : zJ) (t : Int) (hr_t : -2147483648 ≤ t ∧ t < 2147483648)  (h0 : 0 ≤ J 19 6 ∧ J 19 6 ≤ 9) : tz_Ok l G M_X1_recalled 1 0 0 [.ref 18, zi t] n J (zqi (fun z J' => (z = -1 ∧ J = J' ∧ ∀ i, 0 ≤ i → i < J 19 6 → ¬ J 19 (43 + i) = t) ∨ ∃ i, (0 ≤ i ∧ i < J 19 6 ∧ J 19 (43 + i) = t) ∧ (∀ q, 0 ≤ q → q < i → ¬ J 19 (43 + q) = t) ∧ J 19 (52 + i) = z ∧ zaM (zdM (zup J 19 2 (zw (J 19 2 + 1))) i) t z = J')) zN := by
  refine tz_Ok.of hl (by decide +kernel) rfl (tb_c1 rfl) (Nat.le_of_ble_eq_true rfl) ?_
  show tz_At l G M_X1_recalled (tb_rm 1 0 0) none (tb_ZM G 0 0 (zQ n 0 (zqi (fun z J' => (z = -1 ∧ J = J' ∧ ∀ i, 0 ≤ i → i < J 19 6 → ¬ J 19 (43 + i) = t) ∨ ∃ i, (0 ≤ i ∧ i < J 19 6 ∧ J 19 (43 + i) = t) ∧ (∀ q, 0 ≤ q → q < i → ¬ J 19 (43 + q) = t) ∧ J 19 (52 + i) = z ∧ zaM (zdM (zup J 19 2 (zw (J 19 2 + 1))) i) t z = J'))) (zX n 0 zN)) 0 0 n J 0 [some (.ref 18), some (zi t), none, none] []
  refine tz_iconst (pc := 0) dX1_recalled_0 ?_
  refine tz_istore_n (pc := 1) (L2 := [_, _, _, _]) dX1_recalled_1 rfl (by decide) rfl ?_
  have loop2 : ∀ (f9 : Nat) (i : Int) (d3 : Option Value), ((J 19 6 - i).toNat) < f9 → (0 ≤ i ∧ i ≤ J 19 6) → (∀ q, 0 ≤ q → q < i → ¬ J 19 (43 + q) = t) → tz_At l G M_X1_recalled (tb_rm 1 0 0) none (tb_ZM G 0 0 (zQ n 0 (zqi (fun z J' => (z = -1 ∧ J = J' ∧ ∀ i, 0 ≤ i → i < J 19 6 → ¬ J 19 (43 + i) = t) ∨ ∃ i, (0 ≤ i ∧ i < J 19 6 ∧ J 19 (43 + i) = t) ∧ (∀ q, 0 ≤ q → q < i → ¬ J 19 (43 + q) = t) ∧ J 19 (52 + i) = z ∧ zaM (zdM (zup J 19 2 (zw (J 19 2 + 1))) i) t z = J'))) (zX n 0 zN)) 0 0 n J 2 [some (.ref 18), some (zi t), some (zi i), d3] [] := by
    intro f9
    induction f9 with
    | zero => intro i d3 hm9; exact absurd hm9 (Nat.not_lt_zero _)
    | succ f9 ih2 =>
      intro i d3 hm2 hi hn
      refine tz_iload_n (pc := 2) dX1_recalled_2 rfl rfl ?_
      refine tz_aload_n (pc := 3) dX1_recalled_3 rfl rfl ?_
      refine tz_fR (pc := 4) dX1_recalled_4 fl_X1_11 r_18_0 ?_
      refine tz_bipush (pc := 7) dX1_recalled_7 (by decide) ?_
      refine tz_aL (pc := 9) (z := 6) (v := (J 19 6)) dX1_recalled_9 a_19 rfl (by decide) rfl (fun r_9 => ?_)
      refine tz_icmp_ge (pc := 10) (tgt := 65) dX1_recalled_10 (by decide) (by omega) (by omega) (fun h_10 => ?_) (fun h_10 => ?_)
      · refine tz_iconst (pc := 65) dX1_recalled_65 ?_
        exact tz_iret (pc := 66) (z := (-1)) dX1_recalled_66 rfl (Nat.le_of_ble_eq_true rfl) (Nat.le_of_ble_eq_true rfl) ⟨Nat.le_refl _, Nat.le_add_right _ _⟩ ⟨_, rfl, (by decide), (by first | exact Or.inr ⟨i, ⟨by omega, by omega, by omega⟩, hn, rfl, e9⟩ | exact Or.inl ⟨rfl, rfl, fun q a b => hn q a (by omega)⟩)⟩
      · refine tz_aload_n (pc := 13) dX1_recalled_13 rfl rfl ?_
        refine tz_fR (pc := 14) dX1_recalled_14 fl_X1_11 r_18_0 ?_
        refine tz_bipush (pc := 17) dX1_recalled_17 (by decide) ?_
        refine tz_iload_n (pc := 19) dX1_recalled_19 rfl rfl ?_
        refine tz_iadd (pc := 20) (v := 43 + i) dX1_recalled_20 rfl ?_
        refine tz_aL (pc := 21) (z := (43 + i)) (v := (J 19 (43 + i))) dX1_recalled_21 a_19 rfl (by omega) rfl (fun r_21 => ?_)
        refine tz_iload_n (pc := 22) dX1_recalled_22 rfl rfl ?_
        refine tz_icmp_ne (pc := 23) (tgt := 59) dX1_recalled_23 (by decide) (by omega) (by omega) (fun h_23 => ?_) (fun h_23 => ?_)
        · refine tz_iinc (pc := 59) (z := i + 1) (L2 := [_, _, _, _]) dX1_recalled_59 rfl (by omega) rfl ?_
          refine tz_goto (pc := 62) (tgt := 2) dX1_recalled_62 (by decide) ?_
          exact ih2 (i + 1) _ (by omega) (by omega) (fun q a b => (Decidable.em (q = i)).elim (fun e => by rw [e]; omega) (fun e => hn q a (by omega)))
        · refine tz_aload_n (pc := 26) dX1_recalled_26 rfl rfl ?_
          refine tz_fR (pc := 27) dX1_recalled_27 fl_X1_11 r_18_0 ?_
          refine tz_bipush (pc := 30) dX1_recalled_30 (by decide) ?_
          refine tz_iload_n (pc := 32) dX1_recalled_32 rfl rfl ?_
          refine tz_iadd (pc := 33) (v := 52 + i) dX1_recalled_33 rfl ?_
          refine tz_aL (pc := 34) (z := (52 + i)) (v := (J 19 (52 + i))) dX1_recalled_34 a_19 rfl (by omega) rfl (fun r_34 => ?_)
          refine tz_istore_n (pc := 35) (L2 := [_, _, _, _]) dX1_recalled_35 rfl (by decide) rfl ?_
          refine tz_aload_n (pc := 36) dX1_recalled_36 rfl rfl ?_
          refine tz_fR (pc := 37) dX1_recalled_37 fl_X1_11 r_18_0 ?_
          refine tz_iconst (pc := 40) dX1_recalled_40 ?_
          refine tz_dup2 (pc := 41) dX1_recalled_41 rfl rfl ?_
          refine tz_aL (pc := 42) (z := 2) (v := (J 19 2)) dX1_recalled_42 a_19 rfl (by decide) rfl (fun r_42 => ?_)
          refine tz_iconst (pc := 43) dX1_recalled_43 ?_
          refine tz_iadd (pc := 44) (v := (J 19 2) + 1) dX1_recalled_44 rfl ?_
          refine tz_tw ?_
          have rw_45 := zw_rg ((J 19 2) + 1)
          refine tz_aS (pc := 45) (z := 2) dX1_recalled_45 a_19 rfl (by decide) (zw_rg _) ?_
          refine tz_aload_n (pc := 46) dX1_recalled_46 rfl rfl ?_
          refine tz_iload_n (pc := 47) dX1_recalled_47 rfl rfl ?_
          refine tz_cV (pc := 48) (c_dropMemo hl n _ _ (by omega) (by rw [zup_ne (by decide)]; omega) (by rw [zup_ne (by decide)]; omega)) vl_X1_31 dX1_recalled_48 o_18 rfl rfl (Nat.le_of_ble_eq_true rfl) ⟨(Nat.le_of_ble_eq_true rfl), (Nat.le_of_ble_eq_true rfl)⟩ rfl rfl (Nat.le_of_ble_eq_true rfl) (Nat.le_of_ble_eq_true rfl) (fun r9 J_48 hq9 => ?_)
          obtain ⟨rfl, rfl⟩ := hq9
          refine tz_aload_n (pc := 51) dX1_recalled_51 rfl rfl ?_
          refine tz_iload_n (pc := 52) dX1_recalled_52 rfl rfl ?_
          refine tz_iload_n (pc := 53) dX1_recalled_53 rfl rfl ?_
          refine tz_cV (pc := 54) (c_addMemo hl n _ _ _ (by omega) (by omega) (by rw [zdM_6, zup_ne (by decide)]; omega)) vl_X1_35 dX1_recalled_54 o_18 rfl rfl (Nat.le_of_ble_eq_true rfl) ⟨(Nat.le_of_ble_eq_true rfl), (Nat.le_of_ble_eq_true rfl)⟩ rfl rfl (Nat.le_of_ble_eq_true rfl) (Nat.le_of_ble_eq_true rfl) (fun r9 J_54 hq9 => ?_)
          obtain ⟨rfl, e9⟩ := hq9
          refine tz_iload_n (pc := 57) dX1_recalled_57 rfl rfl ?_
          exact tz_iret (pc := 58) (z := (J 19 (52 + i))) dX1_recalled_58 rfl (Nat.le_of_ble_eq_true rfl) (Nat.le_of_ble_eq_true rfl) ⟨Nat.le_refl _, Nat.le_add_right _ _⟩ ⟨_, rfl, (by omega), (by first | exact Or.inr ⟨i, ⟨by omega, by omega, by omega⟩, hn, rfl, e9⟩ | exact Or.inl ⟨rfl, rfl, fun q a b => hn q a (by omega)⟩)⟩
  exact loop2 _ 0 none (Nat.lt_succ_self _) (by omega) (fun q a b => by omega)

