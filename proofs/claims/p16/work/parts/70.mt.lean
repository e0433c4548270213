/-! ===== the reference: its tables of terms, at hand or of a text ===== -/
def mode (b r d : Int) : Prop := (b = 0 ∧ r = 0 ∧ d = 0) ∨ (b = 800 ∧ r = 126 ∧ d = 10)
def MTT (J : zJ) (b d s m : Int) : Prop := TT s (fun k => J 170 (d + k)) m (fun t => J 166 (b + t)) (fun t i => J 167 (3 * (b + t) + i)) (fun t => J 168 (b + t))
def MS (J : zJ) (b r d s m : Int) : Prop := mode b r d ∧ J 164 15 = b ∧ J 164 16 = r ∧ J 164 17 = d ∧ J 165 r = m ∧ MTT J b d s m
def mar (J : zJ) (b d t : Int) : Int := arh (fun k => J 170 (d + k)) (J 166 (b + t))
theorem MS.told {J : zJ} {b r d s m : Int} (h : MS J b r d s m) : (0 ≤ s ∧ s ≤ 10) ∧ (0 ≤ m ∧ m ≤ 400) ∧ (0 ≤ b ∧ b ≤ 800) ∧ (0 ≤ r ∧ r ≤ 126) ∧ (0 ≤ d ∧ d ≤ 10) := by
  have h1 := h.1
  unfold mode at h1
  exact ⟨h.2.2.2.2.2.1.1, h.2.2.2.2.2.2.1, by omega, by omega, by omega⟩
theorem MS.ar {J : zJ} {b r d s m t : Int} (h : MS J b r d s m) (ht : 0 ≤ t ∧ t < m) : (0 ≤ mar J b d t ∧ mar J b d t ≤ 3) ∧ (-8 ≤ J 166 (b + t) ∧ J 166 (b + t) < s) ∧ (1 ≤ J 168 (b + t) ∧ J 168 (b + t) ≤ 6) ∧ (J 166 (b + t) < 0 → mar J b d t = 0) ∧ (0 ≤ J 166 (b + t) → mar J b d t = J 170 (d + J 166 (b + t))) := by
  have h1 := h.2.2.2.2.2.2.2.1 t ht.1 ht.2
  refine ⟨arh_rg h.2.2.2.2.2.1 h1.1.2, h1.1, h1.2.1, fun q => ?_, fun q => ?_⟩
  · unfold mar arh
    rw [if_pos q]
  · unfold mar arh
    rw [if_neg (by omega)]
theorem MS.arg {J : zJ} {b r d s m t i : Int} (h : MS J b r d s m) (ht : 0 ≤ t ∧ t < m) (hi : 0 ≤ i ∧ i < mar J b d t) : (0 ≤ J 167 (3 * (b + t) + i) ∧ J 167 (3 * (b + t) + i) < t) ∧ J 168 (b + J 167 (3 * (b + t) + i)) < J 168 (b + t) := (h.2.2.2.2.2.2.2.1 t ht.1 ht.2).2.2.1 i hi.1 hi.2
theorem MS.hd8 {J : zJ} {b d t u : Int} (e : J 166 (b + t) = J 166 (b + u)) : mar J b d t = mar J b d u := by
  unfold mar
  rw [e]
/-- unlike terms of one head have an argument that is unlike -/
theorem MS.unl {J : zJ} {b r d s m t u : Int} (h : MS J b r d s m) (ht : 0 ≤ t ∧ t < m) (hu : 0 ≤ u ∧ u < m) (e : J 166 (b + t) = J 166 (b + u)) (hn : ¬ t = u) : ∃ i, (0 ≤ i ∧ i < mar J b d t) ∧ ¬ J 167 (3 * (b + t) + i) = J 167 (3 * (b + u) + i) := by
  refine Classical.byContradiction (fun q => hn (h.2.2.2.2.2.2.2.2 t u ht.1 ht.2 hu.1 hu.2 ⟨e, fun i a c => ?_⟩))
  refine Classical.byContradiction (fun w => q ⟨i, ⟨a, ?_⟩, w⟩)
  rw [MS.hd8 e]
  exact c
/-- the frame of what makes terms: the rows of the table at hand, the row's place r, isFull, and X, F, rp more -/
def MF (X : List Nat) (F : List Int) (rp : Int → Bool) (b r : Int) (J' J : zJ) : Prop := ((∀ k, (k < b ∨ b + 400 ≤ k) → J' 166 k = J 166 k ∧ J' 168 k = J 168 k) ∧ ∀ k, (k < 3 * b ∨ 3 * b + 1200 ≤ k) → J' 167 k = J 167 k) ∧ (∀ k, ¬ k = r → rp k = false → J' 165 k = J 165 k) ∧ (∀ k, (21 :: F).contains k = false → J' 164 k = J 164 k) ∧ zOf (zbut (164 :: 165 :: 166 :: 167 :: 168 :: X)) J' J
def MU (b m : Int) (J' J : zJ) : Prop := ∀ t, 0 ≤ t → t < m → (J' 166 (b + t) = J 166 (b + t) ∧ J' 168 (b + t) = J 168 (b + t)) ∧ ∀ i, 0 ≤ i → i < 3 → J' 167 (3 * (b + t) + i) = J 167 (3 * (b + t) + i)
/-- the table has grown -/
def MG (X : List Nat) (F : List Int) (rp : Int → Bool) (J' J : zJ) (b r d s m m' : Int) : Prop := (MS J' b r d s m' ∧ m ≤ m') ∧ MU b m J' J ∧ MF X F rp b r J' J ∧ (J' 164 21 = 0 → J 164 21 = 0)
theorem MF.rf {X : List Nat} {F : List Int} {rp : Int → Bool} {b r : Int} {J : zJ} : MF X F rp b r J J := ⟨⟨fun _ _ => ⟨rfl, rfl⟩, fun _ _ => rfl⟩, fun _ _ _ => rfl, fun _ _ => rfl, zOf.rf⟩
theorem MF.tr {X : List Nat} {F : List Int} {rp : Int → Bool} {b r : Int} {J3 J2 J1 : zJ} (h : MF X F rp b r J3 J2) (g : MF X F rp b r J2 J1) : MF X F rp b r J3 J1 := ⟨⟨fun k q => ⟨(h.1.1 k q).1.trans (g.1.1 k q).1, (h.1.1 k q).2.trans (g.1.1 k q).2⟩, fun k q => (h.1.2 k q).trans (g.1.2 k q)⟩, fun k a c => (h.2.1 k a c).trans (g.2.1 k a c), fun k a => (h.2.2.1 k a).trans (g.2.2.1 k a), h.2.2.2.tr g.2.2.2⟩
theorem MF.mono {X Y : List Nat} {F E : List Int} {rp rq : Int → Bool} {b r : Int} {J' J : zJ} (h : MF X F rp b r J' J) (hX : ∀ c, c ∈ X → c ∈ Y) (hF : ∀ k, k ∈ F → k ∈ E) (hr : ∀ k, rq k = false → rp k = false) : MF Y E rq b r J' J := by
  refine ⟨h.1, fun k a c => h.2.1 k a (hr k c), fun k a => h.2.2.1 k ?_, h.2.2.2.mono (zbut_sub (fun c hc => ?_))⟩
  · simp only [List.contains_eq_mem, decide_eq_false_iff_not, List.mem_cons] at a ⊢
    exact fun q => a (q.imp id (hF k))
  · simp only [List.mem_cons] at hc ⊢
    rcases hc with h1 | h1 | h1 | h1 | h1 | h1 <;> first | (subst h1; simp; done) | simp [hX c h1]
theorem MU.rf {b m : Int} {J : zJ} : MU b m J J := fun _ _ _ => ⟨⟨rfl, rfl⟩, fun _ _ _ => rfl⟩
theorem MU.tr {b m m1 : Int} {J3 J2 J1 : zJ} (h : MU b m1 J3 J2) (g : MU b m J2 J1) (hm : m ≤ m1) : MU b m J3 J1 := fun t a c => by
  obtain ⟨⟨p1, p2⟩, p3⟩ := h t a (by omega)
  obtain ⟨⟨q1, q2⟩, q3⟩ := g t a c
  exact ⟨⟨p1.trans q1, p2.trans q2⟩, fun i x y => (p3 i x y).trans (q3 i x y)⟩
theorem MG.rf {X : List Nat} {F : List Int} {rp : Int → Bool} {b r d s m : Int} {J : zJ} (h : MS J b r d s m) : MG X F rp J J b r d s m m := ⟨⟨h, Int.le_refl _⟩, MU.rf, MF.rf, id⟩
theorem MG.tr {X : List Nat} {F : List Int} {rp : Int → Bool} {b r d s m1 m2 m3 : Int} {J3 J2 J1 : zJ} (g : MG X F rp J2 J1 b r d s m1 m2) (h : MG X F rp J3 J2 b r d s m2 m3) : MG X F rp J3 J1 b r d s m1 m3 := ⟨⟨h.1.1, by have := g.1.2; have := h.1.2; omega⟩, h.2.1.tr g.2.1 g.1.2, h.2.2.1.tr g.2.2.1, fun q => g.2.2.2 (h.2.2.2 q)⟩
theorem MG.mono {X Y : List Nat} {F E : List Int} {rp rq : Int → Bool} {b r d s m m' : Int} {J' J : zJ} (g : MG X F rp J' J b r d s m m') (hX : ∀ c, c ∈ X → c ∈ Y) (hF : ∀ k, k ∈ F → k ∈ E) (hr : ∀ k, rq k = false → rp k = false) : MG Y E rq J' J b r d s m m' := ⟨g.1, g.2.1, g.2.2.1.mono hX hF hr, g.2.2.2⟩
theorem MS.of {J' J : zJ} {b r d s m : Int} (h : MS J b r d s m) (e4 : J' 164 15 = J 164 15 ∧ J' 164 16 = J 164 16 ∧ J' 164 17 = J 164 17) (e5 : J' 165 r = J 165 r) (e6 : J' 166 = J 166) (e7 : J' 167 = J 167) (e8 : J' 168 = J 168) (e0 : J' 170 = J 170) : MS J' b r d s m := by
  unfold MS MTT
  rw [e4.1, e4.2.1, e4.2.2, e5, e6, e7, e8, e0]
  exact h
/-- writes of X, F, rp alone -/
theorem MG.off {X : List Nat} {F : List Int} {rp : Int → Bool} {b r d s m m' : Int} {J3 J2 J1 : zJ} (g : MG X F rp J2 J1 b r d s m m') (h4 : ∀ k, F.contains k = false → J3 164 k = J2 164 k) (h5 : ∀ k, rp k = false → J3 165 k = J2 165 k) (f : zOf (zbut (164 :: 165 :: X)) J3 J2) (hF : F.contains 15 = false ∧ F.contains 16 = false ∧ F.contains 17 = false ∧ F.contains 21 = false) (hr : rp r = false) (hX : X.contains 166 = false ∧ X.contains 167 = false ∧ X.contains 168 = false ∧ X.contains 170 = false) : MG X F rp J3 J1 b r d s m m' := by
  have fx : ∀ c, ¬ c = 164 → ¬ c = 165 → X.contains c = false → J3 c = J2 c := fun c a1 a2 a3 => f c (by
    simp only [zbut, Bool.not_eq_true', List.contains_eq_mem, decide_eq_false_iff_not, List.mem_cons] at a3 ⊢
    intro q
    rcases q with q | q | q <;> first | omega | exact a3 q)
  have e6 := fx 166 (by decide) (by decide) hX.1
  have e7 := fx 167 (by decide) (by decide) hX.2.1
  have e8 := fx 168 (by decide) (by decide) hX.2.2.1
  refine ⟨⟨g.1.1.of ⟨h4 _ hF.1, h4 _ hF.2.1, h4 _ hF.2.2.1⟩ (h5 _ hr) e6 e7 e8 (fx 170 (by decide) (by decide) hX.2.2.2), g.1.2⟩, fun t a c => by rw [e6, e7, e8]; exact g.2.1 t a c, MF.tr ⟨⟨fun k _ => by rw [e6, e8]; exact ⟨rfl, rfl⟩, fun k _ => by rw [e7]⟩, fun k _ c => h5 k c, fun k a => h4 k ?_, f.mono (zbut_sub (fun c hc => ?_))⟩ g.2.2.1, fun q => g.2.2.2 (by rw [← h4 _ hF.2.2.2]; exact q)⟩
  · simp only [List.contains_eq_mem, decide_eq_false_iff_not, List.mem_cons] at a ⊢
    exact fun q => a (Or.inr q)
  · simp only [List.mem_cons] at hc ⊢
    rcases hc with h1 | h1 | h1 <;> simp [h1]
theorem MG.full {X : List Nat} {F : List Int} {rp : Int → Bool} {b r d s m m' z : Int} {J2 J1 : zJ} (g : MG X F rp J2 J1 b r d s m m') (hz : z = 0 → J2 164 21 = 0) : MG X F rp (zup J2 164 21 z) J1 b r d s m m' := by
  refine ⟨⟨g.1.1.of ⟨zup_ne (by decide), zup_ne (by decide), zup_ne (by decide)⟩ rfl rfl rfl rfl rfl, g.1.2⟩, g.2.1, MF.tr (J2 := J2) ⟨⟨fun _ _ => ⟨rfl, rfl⟩, fun _ _ => rfl⟩, fun _ _ _ => rfl, fun k a => zup_ne (fun e => ?_), zOf.up (by simp [zbut]) zOf.rf⟩ g.2.2.1, fun q => g.2.2.2 (hz (by rw [zup_at] at q; exact q))⟩
  subst e
  simp at a
theorem MG.arg {X : List Nat} {F : List Int} {rp : Int → Bool} {b r d s m m' t i : Int} {J' J : zJ} (g : MG X F rp J' J b r d s m m') (h : MS J b r d s m) (ht : 0 ≤ t ∧ t < m) (hi : 0 ≤ i ∧ i < mar J b d t) : (0 ≤ J' 167 (3 * (b + t) + i) ∧ J' 167 (3 * (b + t) + i) < t) ∧ J' 167 (3 * (b + t) + i) = J 167 (3 * (b + t) + i) := by
  have h1 := h.arg ht hi
  have h2 := (h.ar ht).1
  rw [(g.2.1 t ht.1 ht.2).2 i hi.1 (by omega)]
  exact ⟨h1.1, rfl⟩
theorem MG.ar {X : List Nat} {F : List Int} {rp : Int → Bool} {b r d s m m' t : Int} {J' J : zJ} (g : MG X F rp J' J b r d s m m') (ht : 0 ≤ t ∧ t < m) (e0 : J' 170 = J 170) : mar J' b d t = mar J b d t := by
  unfold mar
  rw [(g.2.1 t ht.1 ht.2).1.1, e0]
