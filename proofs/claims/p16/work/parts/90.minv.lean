/-! ===== what holds of the reference between two calls ===== -/
def MK0 (g : Int → Int → Int) (a f m : Int) : Prop := ((0 ≤ a ∧ a ≤ 40) ∧ 0 ≤ f ∧ f < 40) ∧ ∀ k, 0 ≤ k → k < a → (ML (g ((f + k) % 40)) (g ((f + k) % 40) 0) ∧ 0 ≤ g ((f + k) % 40) 0 ∧ g ((f + k) % 40) 0 ≤ m) ∧ ∀ q, k ≤ q → q < a → g ((f + k) % 40) 0 ≤ g ((f + q) % 40) 0
theorem MK0.of {g' g : Int → Int → Int} {a f m m' : Int} (h : MK0 g a f m) (hm : m ≤ m') (e : ∀ i q, 0 ≤ i → i < 40 → 0 ≤ q → q < 63 → g' i q = g i q) : MK0 g' a f m' := by
  refine ⟨h.1, fun k x y => ?_⟩
  have h0 := h.1
  obtain ⟨⟨g1, g2⟩, g3⟩ := h.2 k x y
  rw [e ((f + k) % 40) 0 (by omega) (by omega) (by decide) (by decide)]
  refine ⟨⟨g1.of (fun q u v => e _ q (by omega) (by omega) (by omega) (by omega)), by omega⟩, fun q u v => ?_⟩
  rw [e ((f + q) % 40) 0 (by omega) (by omega) (by decide) (by decide)]
  exact g3 q u v
theorem MK0.push {g' g : Int → Int → Int} {a f m0 m : Int} (h : MK0 g a f m0) (ha : a < 40) (h0 : 0 ≤ m0) (hm : m0 ≤ m) (e : ∀ i q, 0 ≤ i → i < 40 → 0 ≤ q → q < 63 → ¬ i = (f + a) % 40 → g' i q = g i q) (hn : ML (g' ((f + a) % 40)) m0) (hc : g' ((f + a) % 40) 0 = m0) : MK0 g' (a + 1) f m := by
  have hh := h.1
  refine ⟨by omega, fun k x y => ?_⟩
  by_cases q : k = a
  · subst q
    rw [hc]
    refine ⟨⟨hn, by omega⟩, fun q u v => ?_⟩
    obtain rfl : q = k := by omega
    omega
  · obtain ⟨⟨g1, g2⟩, g3⟩ := h.2 k x (by omega)
    rw [e ((f + k) % 40) 0 (by omega) (by omega) (by decide) (by decide) (by omega)]
    refine ⟨⟨g1.of (fun q u v => e _ q (by omega) (by omega) (by omega) (by omega) (by omega)), by omega⟩, fun p u v => ?_⟩
    by_cases w : p = a
    · rw [w, hc]; omega
    · rw [e ((f + p) % 40) 0 (by omega) (by omega) (by decide) (by decide) (by omega)]
      exact g3 p u (by omega)
theorem MK0.turn {g : Int → Int → Int} {f m : Int} (h : MK0 g 40 f m) : MK0 g 39 ((f + 1) % 40) m := by
  have hh := h.1
  refine ⟨by omega, fun k x y => ?_⟩
  obtain ⟨g1, g3⟩ := h.2 (k + 1) (by omega) (by omega)
  have e : ((f + 1) % 40 + k) % 40 = (f + (k + 1)) % 40 := by omega
  rw [e]
  refine ⟨g1, fun p u v => ?_⟩
  have e2 : ((f + 1) % 40 + p) % 40 = (f + (p + 1)) % 40 := by omega
  rw [e2]
  exact g3 (p + 1) (by omega) (by omega)
theorem MK0.pop {g : Int → Int → Int} {a f m : Int} (h : MK0 g a f m) (ha : 0 < a) : (ML (g ((f + (a - 1)) % 40)) (g ((f + (a - 1)) % 40) 0) ∧ 0 ≤ g ((f + (a - 1)) % 40) 0 ∧ g ((f + (a - 1)) % 40) 0 ≤ m) ∧ MK0 g (a - 1) f (g ((f + (a - 1)) % 40) 0) := by
  have hh := h.1
  refine ⟨(h.2 (a - 1) (by omega) (by omega)).1, by omega, fun k x y => ?_⟩
  obtain ⟨⟨g1, g2⟩, g3⟩ := h.2 k x (by omega)
  exact ⟨⟨g1, g2.1, g3 (a - 1) (by omega) (by omega)⟩, fun q u v => g3 q u (by omega)⟩
def MK (J : zJ) (B a f m : Int) : Prop := MK0 (fun i q => J 165 (B + 63 * i + q)) a f m
theorem MTT.of {J' J : zJ} {b d s m : Int} (h : MTT J b d s m) (e6 : ∀ t, 0 ≤ t → t < 400 → J' 166 (b + t) = J 166 (b + t) ∧ J' 168 (b + t) = J 168 (b + t)) (e7 : ∀ k, 3 * b ≤ k → k < 3 * b + 1200 → J' 167 k = J 167 k) (e0 : ∀ k, 0 ≤ k → k < 10 → J' 170 (d + k) = J 170 (d + k)) : MTT J' b d s m := by
  have h1 := h.1
  have h2 := h.2.1
  unfold MTT
  refine TT.congr h ⟨h1.1, fun k x y => ?_⟩ (Int.le_refl _) (fun k x y => e0 k x (by have := h1.1; omega)) (fun t x y => (e6 t x (by omega)).1) (fun t x y i u v => e7 _ (by omega) ?_) (fun t x y => (e6 t x (by omega)).2)
  · show 0 ≤ J' 170 (d + k) ∧ J' 170 (d + k) ≤ 3
    rw [e0 k x (by have := h1.1; omega)]
    exact h1.2 k x y
  · have := (arh_rg h1 (h.2.2.1 t x y).1.2).2
    have v9 : i < arh (fun k => J 170 (d + k)) (J 166 (b + t)) := v
    have t9 : arh (fun k => J 170 (d + k)) (J 166 (b + t)) ≤ 3 := this
    omega
def IM (J : zJ) : Prop := (0 ≤ J 164 19 ∧ J 164 19 ≤ 700) ∧ (J 164 14 = 0 ∨ ∃ mi, MTT J 400 0 (J 164 9) mi ∧ J 165 2709 = mi ∧ ML (fun q => J 165 (2709 + q)) mi ∧ MK J 2772 (J 164 12) (J 164 13) mi)
/-- what holds of the reference between two calls -/
def MI (J : zJ) (m : Int) : Prop := MS J 0 0 0 (J 164 9) m ∧ ML (J 165) m ∧ MK J 189 (J 164 10) (J 164 11) m ∧ IM J
theorem IM.of {J' J : zJ} (h : IM J) (e4 : ∀ k, k = 9 ∨ k = 12 ∨ k = 13 ∨ k = 14 ∨ k = 19 → J' 164 k = J 164 k) (e5 : ∀ k, 2709 ≤ k → J' 165 k = J 165 k) (e6 : ∀ k, 400 ≤ k → k < 800 → J' 166 k = J 166 k ∧ J' 168 k = J 168 k) (e7 : ∀ k, 1200 ≤ k → k < 2400 → J' 167 k = J 167 k) (e0 : ∀ k, 0 ≤ k → k < 10 → J' 170 k = J 170 k) : IM J' := by
  unfold IM
  rw [e4 19 (by omega), e4 14 (by omega), e4 9 (by omega), e4 12 (by omega), e4 13 (by omega)]
  refine ⟨h.1, h.2.imp id (fun ⟨mi, h1, h2, h3, h4⟩ => ⟨mi, h1.of (fun t x y => e6 _ (by omega) (by omega)) (fun k x y => e7 k (by omega) (by omega)) (fun k x y => ?_), (e5 2709 (by decide)).trans h2, h3.of (fun q x y => e5 _ (by omega)), h4.of (Int.le_refl _) (fun i q x y z w => e5 _ (by omega))⟩)⟩
  rw [Int.zero_add]
  exact e0 k x y
theorem zbut_lo {X : List Nat} {c : Nat} (h : ∀ x, x ∈ X → 164 ≤ x ∧ ¬ x = 173) (hc : c < 164 ∨ c = 173) : zbut X c = true := by
  simp only [zbut, Bool.not_eq_true', List.contains_eq_mem, decide_eq_false_iff_not]
  intro q
  have := h c q
  omega
/-- what a question changes -/
def mzX : List Nat := [164, 172, 174, 175, 176, 177, 178, 179, 180, 181, 182]
def MZ (J' J : zJ) : Prop := zOf (zbut mzX) J' J ∧ ∀ k, 9 ≤ k → k ≤ 20 → J' 164 k = J 164 k
theorem MZ.rf {J : zJ} : MZ J J := ⟨zOf.rf, fun _ _ _ => rfl⟩
theorem MZ.tr {J3 J2 J1 : zJ} (g : MZ J2 J1) (h : MZ J3 J2) : MZ J3 J1 := ⟨h.1.tr g.1, fun k x y => (h.2 k x y).trans (g.2 k x y)⟩
theorem MZ.up {J' J : zJ} {k v : Int} (h : MZ J' J) (hk : k < 9 ∨ 20 < k) : MZ (zup J' 164 k v) J := ⟨zOf.up rfl h.1, fun q x y => (zup_ne (by omega)).trans (h.2 q x y)⟩
theorem MZ.c {X : List Nat} {J' J : zJ} (f : zOf (zbut X) J' J) (hX : ∀ c, c ∈ X → c ∈ mzX ∧ ¬ c = 164) : MZ J' J := ⟨f.mono (zbut_sub (fun c hc => (hX c hc).1)), fun k _ _ => by
  rw [f 164]
  simp only [zbut, Bool.not_eq_true', List.contains_eq_mem, decide_eq_false_iff_not]
  exact fun q => (hX 164 q).2 rfl⟩
theorem MZ.f {X : List Nat} {J' J : zJ} {k0 : Int} (f : zOf (zbut X) J' J ∧ ∀ k, ¬ k = k0 → J' 164 k = J 164 k) (hX : ∀ c, c ∈ X → c ∈ mzX) (hk : k0 < 9 ∨ 20 < k0) : MZ J' J := ⟨f.1.mono (zbut_sub hX), fun k x y => f.2 k (by omega)⟩
theorem MR.z {J' J : zJ} {m : Int} (h : MR (J 165) m) (z : MZ J' J) : MR (J' 165) m := by rw [z.1 165 rfl]; exact h
theorem MS.z {J' J : zJ} {b r d s m : Int} (h : MS J b r d s m) (z : MZ J' J) : MS J' b r d s m := h.of ⟨z.2 15 (by decide) (by decide), z.2 16 (by decide) (by decide), z.2 17 (by decide) (by decide)⟩ (by rw [z.1 165 rfl]) (z.1 _ rfl) (z.1 _ rfl) (z.1 _ rfl) (z.1 _ rfl)
theorem IM.z {J' J : zJ} (h : IM J) (z : MZ J' J) : IM J' := h.of (fun k hk => z.2 k (by omega) (by omega)) (fun k _ => by rw [z.1 165 rfl]) (fun k _ _ => ⟨by rw [z.1 166 rfl], by rw [z.1 168 rfl]⟩) (fun k _ _ => by rw [z.1 167 rfl]) (fun k _ _ => by rw [z.1 170 rfl])
theorem MI.z {J' J : zJ} {m : Int} (h : MI J m) (z : MZ J' J) : MI J' m := by
  refine ⟨?_, by rw [z.1 165 rfl]; exact h.2.1, ?_, h.2.2.2.z z⟩
  · rw [z.2 9 (by decide) (by decide)]; exact h.1.z z
  · unfold MK
    rw [z.2 10 (by decide) (by decide), z.2 11 (by decide) (by decide), z.1 165 rfl]
    exact h.2.2.1
/-- what no act changes: how much is on the tape, the fault's place, whether there is an image -/
def SC (J' J : zJ) : Prop := J' 164 19 = J 164 19 ∧ J' 164 20 = J 164 20 ∧ J' 164 14 = J 164 14
theorem SC.of {J2 J1 J : zJ} (h : SC J1 J) (e : ∀ k, (k = 19 ∨ k = 20 ∨ k = 14) → J2 164 k = J1 164 k) : SC J2 J := ⟨(e 19 (by omega)).trans h.1, (e 20 (by omega)).trans h.2.1, (e 14 (by omega)).trans h.2.2⟩
theorem SC.z {J' J : zJ} (z : MZ J' J) : SC J' J := ⟨z.2 19 (by decide) (by decide), z.2 20 (by decide) (by decide), z.2 14 (by decide) (by decide)⟩
/-- what a call of the reference leaves -/
def MQr (J' J : zJ) : Prop := (∃ m, MI J' m) ∧ (∀ c, c < 164 ∨ c = 173 → J' c = J c) ∧ SC J' J
/-- the same of image -/
def MQi (J' J : zJ) : Prop := (∃ m, MI J' m) ∧ (∀ c, c < 164 ∨ c = 173 → J' c = J c) ∧ (J' 164 19 = J 164 19 ∧ J' 164 20 = J 164 20 ∧ J' 164 14 = 1)
theorem MZ.lo {J' J : zJ} (z : MZ J' J) (c : Nat) (hc : c < 164 ∨ c = 173) : J' c = J c := z.1 c (zbut_lo (by decide) hc)
theorem MQr.z {J' J : zJ} {m : Int} (h : MI J m) (z : MZ J' J) : MQr J' J := ⟨⟨m, h.z z⟩, z.lo, SC.z z⟩
theorem MI.told {J : zJ} {m : Int} (h : MI J m) : (0 ≤ J 164 9 ∧ J 164 9 ≤ 10) ∧ (0 ≤ m ∧ m ≤ 400) ∧ J 165 0 = m ∧ (J 164 15 = 0 ∧ J 164 16 = 0 ∧ J 164 17 = 0) ∧ ((0 ≤ J 164 10 ∧ J 164 10 ≤ 40) ∧ 0 ≤ J 164 11 ∧ J 164 11 < 40) ∧ (0 ≤ J 164 19 ∧ J 164 19 ≤ 700) := ⟨h.1.told.1, h.1.told.2.1, h.1.2.2.2.2.1, ⟨h.1.2.1, h.1.2.2.1, h.1.2.2.2.1⟩, h.2.2.1.1, h.2.2.2.1⟩
theorem MI.row {J : zJ} {m : Int} (h : MI J m) : (0 ≤ J 165 9 ∧ J 165 9 ≤ 8) ∧ (0 ≤ J 165 26 ∧ J 165 26 ≤ 12) ∧ (0 ≤ J 165 39 ∧ J 165 39 ≤ 9) ∧ (0 ≤ J 165 40 ∧ J 165 40 ≤ J 165 39) := ⟨h.2.1.1.1, h.2.1.2.2.1.1, h.2.1.2.1.1, h.2.1.2.1.2.1⟩
/-! ===== an act of the reference, begun with m0 terms ===== -/
def AM (J' J : zJ) (m0 m : Int) : Prop := (MS J' 0 0 0 (J' 164 9) m ∧ 0 ≤ m0 ∧ m0 ≤ m) ∧ (J' 164 21 = 0 → ML (J' 165) m) ∧ (ML (fun q => J' 165 (63 + q)) m0 ∧ J' 165 63 = m0) ∧ MK J' 189 (J' 164 10) (J' 164 11) m0 ∧ IM J' ∧ (∀ c, c < 164 ∨ c = 173 → J' c = J c) ∧ SC J' J
theorem zbg4 {J : zJ} {k : Int} : zbg J 164 k = if k = 34 then 0 else if k = 33 then 0 else if k = 21 then 0 else J 164 k := rfl
theorem zbg5 {J : zJ} {k : Int} : zbg J 165 k = if 63 ≤ k ∧ k < 63 + 63 then J 165 (0 + (k - 63)) else J 165 k := rfl
theorem zbg_of {J : zJ} : zOf (zbut [164, 165]) (zbg J) J := zOf.up rfl (zOf.up rfl (zOf.up rfl (zOf.mv rfl zOf.rf)))
theorem zbg_f {J : zJ} {k : Int} (h : ¬ k = 34) (h1 : ¬ k = 33) (h2 : ¬ k = 21) : zbg J 164 k = J 164 k := by rw [zbg4, if_neg h, if_neg h1, if_neg h2]
theorem zbg_r {J : zJ} {k : Int} (h : k < 63 ∨ 126 ≤ k) : zbg J 165 k = J 165 k := by rw [zbg5, if_neg (by omega)]
theorem zbg_a {J : zJ} {k : Int} (h : 0 ≤ k ∧ k < 63) : zbg J 165 (63 + k) = J 165 k := by
  rw [zbg5, if_pos (by omega)]
  congr 1
  omega
theorem AM.begin {J0 J : zJ} {m : Int} (h : MI J m) (z : (∀ c, c < 164 ∨ c = 173 → J c = J0 c) ∧ SC J J0) : AM (zbg J) J0 m m := by
  have hT := h.told
  have e4 : ∀ k, ¬ k = 34 → ¬ k = 33 → ¬ k = 21 → zbg J 164 k = J 164 k := fun k a b c => zbg_f a b c
  have f := zbg_of (J := J)
  refine ⟨⟨?_, hT.2.1.1, Int.le_refl _⟩, fun _ => h.2.1.of (fun k a b => zbg_r (by omega)), ⟨h.2.1.of (fun k a b => zbg_a (by omega)), (zbg_a (k := 0) (by decide)).trans hT.2.2.1⟩, ?_, h.2.2.2.of (fun k hk => e4 k (by omega) (by omega) (by omega)) (fun k hk => zbg_r (by omega)) (fun k _ _ => ⟨by rw [f 166 rfl], by rw [f 168 rfl]⟩) (fun k _ _ => by rw [f 167 rfl]) (fun k _ _ => by rw [f 170 rfl]), fun c hc => (f c ?_).trans (z.1 c hc), z.2.of (fun k hk => e4 k (by omega) (by omega) (by omega))⟩
  · rw [e4 9 (by decide) (by decide) (by decide)]
    exact h.1.of ⟨e4 15 (by decide) (by decide) (by decide), e4 16 (by decide) (by decide) (by decide), e4 17 (by decide) (by decide) (by decide)⟩ (zbg_r (by decide)) (f _ rfl) (f _ rfl) (f _ rfl) (f _ rfl)
  · unfold MK
    rw [e4 10 (by decide) (by decide) (by decide), e4 11 (by decide) (by decide) (by decide)]
    exact h.2.2.1.of (Int.le_refl _) (fun i q x y u v => zbg_r (by omega))
  · exact zbut_lo (by decide) hc
/-- the table grows, and what X, F, rp name changes -/
theorem AM.grow {X : List Nat} {F : List Int} {rp : Int → Bool} {J2 J1 J : zJ} {s m0 m1 m2 : Int} (h : AM J1 J m0 m1) (g : MG X F rp J2 J1 0 0 0 s m1 m2) (hX : ∀ c, c ∈ X → 171 ≤ c ∧ ¬ c = 173) (hF : ∀ k, 9 ≤ k → k ≤ 20 → (21 :: F).contains k = false) (hr : ∀ k, 63 ≤ k → rp k = false) (hs : J1 164 9 = s) (hL : J2 164 21 = 0 → J1 164 21 = 0 → ML (J1 165) m1 → ML (J2 165) m2) : AM J2 J m0 m2 := by
  obtain ⟨⟨h1, h2, h3⟩, h4, ⟨h5, h6⟩, h7, h8, h9, h0⟩ := h
  obtain ⟨f1, f2, f3, f4⟩ := g.2.2.1
  have e4 : ∀ k, 9 ≤ k → k ≤ 20 → J2 164 k = J1 164 k := fun k a b => f3 k (hF k a b)
  have e5 : ∀ k, 63 ≤ k → J2 165 k = J1 165 k := fun k a => f2 k (by omega) (hr k a)
  have fc : ∀ c, (c < 164 ∨ c = 170 ∨ c = 173) → J2 c = J1 c := fun c hc => f4 c (by
    simp only [zbut, Bool.not_eq_true', List.contains_eq_mem, decide_eq_false_iff_not, List.mem_cons]
    intro q
    rcases q with q | q | q | q | q | q <;> first | omega | (have := hX c q; omega))
  refine ⟨⟨?_, h2, by have := g.1.2; omega⟩, fun q => hL q (g.2.2.2 q) (h4 (g.2.2.2 q)), ⟨h5.of (fun k a b => e5 _ (by omega)), (e5 63 (by decide)).trans h6⟩, ?_, h8.of (fun k hk => e4 k (by omega) (by omega)) (fun k a => e5 k (by omega)) (fun k a b => f1.1 k (by omega)) (fun k a b => f1.2 k (by omega)) (fun k _ _ => by rw [fc 170 (by omega)]), fun c hc => (fc c (by omega)).trans (h9 c hc), h0.of (fun k hk => e4 k (by omega) (by omega))⟩
  · rw [e4 9 (by decide) (by decide), hs]
    exact g.1.1
  · unfold MK
    rw [e4 10 (by decide) (by decide), e4 11 (by decide) (by decide)]
    exact h7.of (Int.le_refl _) (fun i q x y u v => e5 _ (by omega))
theorem AM.grow0 {X : List Nat} {F : List Int} {J2 J1 J : zJ} {s m0 m1 m2 : Int} (h : AM J1 J m0 m1) (g : MG X F (fun _ => false) J2 J1 0 0 0 s m1 m2) (hX : ∀ c, c ∈ X → 171 ≤ c ∧ ¬ c = 173) (hF : ∀ k, 9 ≤ k → k ≤ 20 → (21 :: F).contains k = false) (hs : J1 164 9 = s) : AM J2 J m0 m2 := h.grow g hX hF (fun _ _ => rfl) hs (fun _ _ q => (q.mono g.1.2).of (fun k a b => g.2.2.1.2.1 k (by omega) rfl))
theorem AM.z {J2 J1 J : zJ} {m0 m : Int} (h : AM J1 J m0 m) (z : MZ J2 J1) (h21 : J2 164 21 = 0 → J1 164 21 = 0) : AM J2 J m0 m := by
  obtain ⟨⟨h1, h2, h3⟩, h4, ⟨h5, h6⟩, h7, h8, h9, h0⟩ := h
  have e5 := z.1 165 rfl
  refine ⟨⟨?_, h2, h3⟩, fun q => by rw [e5]; exact h4 (h21 q), ⟨by rw [e5]; exact h5, by rw [e5]; exact h6⟩, ?_, h8.z z, fun c hc => (z.lo c hc).trans (h9 c hc), h0.of (fun k hk => z.2 k (by omega) (by omega))⟩
  · rw [z.2 9 (by decide) (by decide)]; exact h1.z z
  · unfold MK
    rw [z.2 10 (by decide) (by decide), z.2 11 (by decide) (by decide), e5]
    exact h7
/-- the row at hand changes, the count stays -/
theorem AM.r5 {J2 J1 J : zJ} {m0 m : Int} (h : AM J1 J m0 m) (f : zOf (zbut [165]) J2 J1) (e0 : J2 165 0 = J1 165 0) (e5 : ∀ k, 63 ≤ k → J2 165 k = J1 165 k) (hL : J1 164 21 = 0 → ML (J1 165) m → ML (J2 165) m) : AM J2 J m0 m := by
  obtain ⟨⟨h1, h2, h3⟩, h4, ⟨h5, h6⟩, h7, h8, h9, h0⟩ := h
  have e4 := f 164 rfl
  refine ⟨⟨?_, h2, h3⟩, fun q => ?_, ⟨h5.of (fun k a b => e5 _ (by omega)), (e5 63 (by decide)).trans h6⟩, ?_, h8.of (fun k hk => by rw [e4]) (fun k a => e5 k (by omega)) (fun k _ _ => ⟨by rw [f 166 rfl], by rw [f 168 rfl]⟩) (fun k _ _ => by rw [f 167 rfl]) (fun k _ _ => by rw [f 170 rfl]), fun c hc => (f c ?_).trans (h9 c hc), h0.of (fun k _ => by rw [e4])⟩
  · rw [e4]
    exact h1.of ⟨by rw [e4], by rw [e4], by rw [e4]⟩ e0 (f _ rfl) (f _ rfl) (f _ rfl) (f _ rfl)
  · rw [e4] at q
    exact hL q (h4 q)
  · unfold MK
    rw [e4]
    exact h7.of (Int.le_refl _) (fun i q x y u v => e5 _ (by omega))
  · exact zbut_lo (by decide) hc
theorem zmv5 {J : zJ} {a b m k : Int} : zmv J 165 a b m 165 k = if b ≤ k ∧ k < b + m then J 165 (a + (k - b)) else J 165 k := rfl
theorem AM.fail {J2 J1 J : zJ} {m0 m : Int} (h : AM J1 J m0 m) (f : zOf (zbut [172]) J2 (zmv J1 165 63 0 63)) : MQr J2 J := by
  obtain ⟨⟨h1, h2, h3⟩, h4, ⟨h5, h6⟩, h7, h8, h9, h0⟩ := h
  have g : zOf (zbut [165, 172]) J2 J1 := (f.mono (zbut_sub (fun c hc => by simp at hc ⊢; omega))).tr (zOf.mv rfl zOf.rf)
  have e4 := g 164 rfl
  have e5 : ∀ k, J2 165 k = if 0 ≤ k ∧ k < 0 + 63 then J1 165 (63 + (k - 0)) else J1 165 k := fun k => by rw [f 165 rfl]; rfl
  have a5 : ∀ k, 0 ≤ k → k < 63 → J2 165 k = J1 165 (63 + k) := fun k a b => by
    rw [e5, if_pos (by omega)]
    congr 1
    omega
  have b5 : ∀ k, 63 ≤ k → J2 165 k = J1 165 k := fun k a => by rw [e5, if_neg (by omega)]
  refine ⟨⟨m0, ⟨h1.1, by rw [e4]; exact h1.2.1, by rw [e4]; exact h1.2.2.1, by rw [e4]; exact h1.2.2.2.1, (a5 0 (by decide) (by decide)).trans h6, ?_⟩, h5.of (fun k a b => a5 k (by omega) (by omega)), ?_, h8.of (fun k hk => by rw [e4]) (fun k a => b5 k (by omega)) (fun k _ _ => ⟨by rw [g 166 rfl], by rw [g 168 rfl]⟩) (fun k _ _ => by rw [g 167 rfl]) (fun k _ _ => by rw [g 170 rfl])⟩, fun c hc => (g c ?_).trans (h9 c hc), h0.of (fun k _ => by rw [e4])⟩
  · unfold MTT
    rw [e4, g 166 rfl, g 167 rfl, g 168 rfl, g 170 rfl]
    exact h1.2.2.2.2.2.cut h2 h3
  · unfold MK
    rw [e4]
    exact h7.of (Int.le_refl _) (fun i q x y u v => b5 _ (by omega))
  · exact zbut_lo (by decide) hc
theorem AM.kept {J2 J1 J : zJ} {m0 m a f : Int} (h : AM J1 J m0 m) (hf : J1 164 21 = 0) (hk : MK0 (fun i q => J1 165 (189 + 63 * i + q)) a f m0) (ha : a < 40) (e4 : ∀ k, ¬ k = 10 → ¬ k = 11 → J2 164 k = J1 164 k) (e10 : J2 164 10 = a + 1) (e11 : J2 164 11 = f) (g : zOf (zbut [164, 165]) J2 J1) (e5 : ∀ k, J2 165 k = if 189 + 63 * ((f + a) % 40) ≤ k ∧ k < 189 + 63 * ((f + a) % 40) + 63 then J1 165 (63 + (k - (189 + 63 * ((f + a) % 40)))) else J1 165 k) : MQr J2 J := by
  obtain ⟨⟨h1, h2, h3⟩, h4, ⟨h5, h6⟩, h7, h8, h9, h0⟩ := h
  have hk1 := hk.1
  have hp : 0 ≤ (f + a) % 40 ∧ (f + a) % 40 < 40 := by omega
  generalize hP : (f + a) % 40 = P at *
  have b5 : ∀ k, (k < 189 ∨ 2709 ≤ k) → J2 165 k = J1 165 k := fun k q => by rw [e5, if_neg (by omega)]
  refine ⟨⟨m, ⟨h1.1, (e4 15 (by decide) (by decide)).trans h1.2.1, (e4 16 (by decide) (by decide)).trans h1.2.2.1, (e4 17 (by decide) (by decide)).trans h1.2.2.2.1, (b5 0 (by decide)).trans h1.2.2.2.2.1, ?_⟩, (h4 hf).of (fun k x y => b5 k (by omega)), ?_, h8.of (fun k hk => e4 k (by omega) (by omega)) (fun k x => b5 k (by omega)) (fun k _ _ => ⟨by rw [g 166 rfl], by rw [g 168 rfl]⟩) (fun k _ _ => by rw [g 167 rfl]) (fun k _ _ => by rw [g 170 rfl])⟩, fun c hc => (g c ?_).trans (h9 c hc), h0.of (fun k hk => e4 k (by omega) (by omega))⟩
  · unfold MTT
    rw [e4 9 (by decide) (by decide), g 166 rfl, g 167 rfl, g 168 rfl, g 170 rfl]
    exact h1.2.2.2.2.2
  · unfold MK
    rw [e10, e11]
    have en : ∀ q, 0 ≤ q → q < 63 → J2 165 (189 + 63 * P + q) = J1 165 (63 + q) := fun q x y => by
      rw [e5, if_pos (by omega)]
      congr 1
      omega
    refine hk.push ha h2 h3 (fun i q x y u v w => ?_) ?_ ?_
    · rw [hP] at w
      show J2 165 (189 + 63 * i + q) = J1 165 (189 + 63 * i + q)
      rw [e5, if_neg (by omega)]
    · rw [hP]
      exact h5.of (fun q x y => en q (by omega) (by omega))
    · rw [hP]
      show J2 165 (189 + 63 * P + 0) = m0
      rw [en 0 (by decide) (by decide)]
      exact h6
  · exact zbut_lo (by decide) hc
theorem AM.keep {J2 J1 J : zJ} {m0 m z a : Int} (h : AM J1 J m0 m) (k : (¬ J1 164 21 = 0 ∧ -3 = z ∧ zOf (zbut [172]) J2 (zmv J1 165 63 0 63)) ∨ (J1 164 21 = 0 ∧ a = z ∧ ((¬ J1 164 10 = 40 ∧ zkL J1 = J2) ∨ (J1 164 10 = 40 ∧ zkF J1 = J2)))) : MQr J2 J := by
  have hk := h.2.2.2.1
  have hk1 := hk.1
  rcases k with ⟨_, _, k⟩ | ⟨k1, _, ⟨k2, k⟩ | ⟨k2, k⟩⟩
  · exact h.fail k
  · subst k
    refine h.kept (a := J1 164 10) (f := J1 164 11) k1 hk (by omega) (fun q x y => ?_) rfl ?_ (zOf.up rfl (zOf.mv rfl zOf.rf)) (fun q => rfl)
    · unfold zkL
      rw [zup_ne x]
      rfl
    · unfold zkL
      rw [zup_ne (by decide)]
      rfl
  · subst k
    unfold MK at hk
    rw [k2] at hk
    have ht := hk.turn
    have e39 : J1 164 10 - 1 = 39 := by omega
    unfold zkF
    rw [e39]
    refine h.kept (a := 39) (f := (J1 164 11 + 1) % 40) k1 ht (by decide) (fun q x y => ?_) rfl ?_ (zOf.up rfl (zOf.mv rfl (zOf.up rfl (zOf.up rfl zOf.rf)))) (fun q => rfl)
    · rw [zup_ne x]
      show zup (zup J1 164 11 ((J1 164 11 + 1) % 40)) 164 10 39 164 q = _
      rw [zup_ne x, zup_ne y]
    · rw [zup_ne (by decide)]
      rfl
