/-! ===== what comes of a term when each of its terms is another one: closing, and what classes are ===== -/
/-- ρ: what a term leads to; as deep as k allows -/
noncomputable def grO (ρ : Int → Int) : Nat → zJ → Int → zJ × Int
  | 0, G, _ => if G 164 21 = 0 then (zup G 164 21 1, 0) else (G, 0)
  | k + 1, G, t => if G 164 21 = 0 then (if G 166 (0 + ρ t) < 0 then (G, ρ t) else gR (fun H i => grO ρ k H (H 167 (3 * (0 + ρ t) + i))) G (G 166 (0 + ρ t))) else (G, 0)
theorem grO_s {ρ : Int → Int} {k : Nat} {G : zJ} {t : Int} : grO ρ (k + 1) G t = if G 164 21 = 0 then (if G 166 (0 + ρ t) < 0 then (G, ρ t) else gR (fun H i => grO ρ k H (H 167 (3 * (0 + ρ t) + i))) G (G 166 (0 + ρ t))) else (G, 0) := rfl
theorem grO_F {ρ : Int → Int} {k : Nat} {G : zJ} {t : Int} (h : ¬ G 164 21 = 0) : grO ρ k G t = (G, 0) := by
  cases k with
  | zero => show (if G 164 21 = 0 then _ else _) = _; rw [if_neg h]
  | succ k => rw [grO_s, if_neg h]
theorem grO_f {ρ : Int → Int} {k : Nat} {G : zJ} {t : Int} (h : ¬ G 164 21 = 0) : ¬ (grO ρ k G t).1 164 21 = 0 := by
  rw [grO_F h]; exact h
theorem grO_0 {ρ : Int → Int} {G : zJ} {t : Int} (h : G 164 21 = 0) : grO ρ 0 G t = (zup G 164 21 1, 0) := by
  show (if G 164 21 = 0 then _ else _) = _; rw [if_pos h]
theorem grO_0f {ρ : Int → Int} {G : zJ} {t : Int} : ¬ (grO ρ 0 G t).1 164 21 = 0 := by
  by_cases h : G 164 21 = 0
  · rw [grO_0 h]; show ¬ (1 : Int) = 0; decide
  · exact grO_f h
theorem grO_r {ρ : Int → Int} {k : Nat} {G : zJ} {t u : Int} (e : ρ t = ρ u) : grO ρ k G t = grO ρ k G u := by
  cases k with
  | zero => rfl
  | succ k => rw [grO_s, grO_s, e]
theorem gR_5 {T : zJ → Int → zJ × Int} (hT : ∀ S i q, ¬ q = 0 → (T S i).1 165 q = S 165 q) {G : zJ} {h q : Int} (hq : ¬ q = 0) : (gR T G h).1 165 q = G 165 q := by
  have a : ∀ i, (gst T G (oar G h) i).1 165 q = G 165 q := fun i => by
    induction i with
    | zero => rfl
    | succ i ih =>
      rw [gst_s]
      unfold gA
      split
      · rw [hT _ _ q hq]; exact ih
      · exact ih
  unfold gR
  rw [tmO_5 hq, a]
theorem grO_5 {ρ : Int → Int} : ∀ (k : Nat) (S : zJ) (t q : Int), ¬ q = 0 → (grO ρ k S t).1 165 q = S 165 q
  | 0, S, t, q, h => by
    by_cases e : S 164 21 = 0
    · rw [grO_0 e]; rfl
    · rw [grO_F e]
  | k + 1, S, t, q, h => by
    rw [grO_s]
    split
    · split
      · rfl
      · exact gR_5 (fun S i q hq => grO_5 k S _ q hq) h
    · rfl
/-! ===== the class's side ===== -/
/-- what the class answers, and where it is then; too deep comes out later -/
def EXK (I : zJ → Prop) (k : Nat) (F : zJ × Int) (z : Int) (J' : zJ) : Prop := (z = -3 ∧ ¬ F.1 164 21 = 0) ∨ (0 ≤ z ∧ ¬ F.1 164 21 = 0 ∧ k < J' 12 z) ∨ (0 ≤ z ∧ F.1 164 21 = 0 ∧ A0 J' F.1 ∧ z = F.2 ∧ I J')
/-- the table has grown -/
def GJ (J' J : zJ) (m m' : Int) : Prop := m ≤ m' ∧ CT J' m' ∧ J' 6 12 = m' ∧ zSU J' J m ∧ (J' 1 = J 1 ∧ J' 3 = J 3)
theorem GJ.rf {J : zJ} {m : Int} (C : CT J m) (hm : J 6 12 = m) : GJ J J m m := ⟨Int.le_refl _, C, hm, zSU.rf, rfl, rfl⟩
theorem GJ.tr {J3 J2 J1 : zJ} {m1 m2 m3 : Int} (g : GJ J2 J1 m1 m2) (h : GJ J3 J2 m2 m3) : GJ J3 J1 m1 m3 := ⟨by have := g.1; have := h.1; omega, h.2.1, h.2.2.1, (h.2.2.2.1.cut g.1).tr g.2.2.2.1, h.2.2.2.2.1.trans g.2.2.2.2.1, h.2.2.2.2.2.trans g.2.2.2.2.2⟩
theorem GX.j {X : List Nat} {J' J : zJ} {m m' : Int} (g : GX X J' J m m') (hX : zbut (6 :: 7 :: 8 :: 9 :: 10 :: 11 :: 12 :: 13 :: 14 :: 15 :: 16 :: 17 :: X) 1 = true ∧ zbut (6 :: 7 :: 8 :: 9 :: 10 :: 11 :: 12 :: 13 :: 14 :: 15 :: 16 :: 17 :: X) 3 = true) : GJ J' J m m' := ⟨g.1, g.2.1, g.2.2.1, g.2.2.2.1, g.2.2.2.2 1 hX.1, g.2.2.2.2 3 hX.2⟩
/-- c is what a term comes to, all of it there -/
def GCj (ρ : Int → Int) (J : zJ) (m t c : Int) : Prop := (0 ≤ c ∧ c < m) ∧ ∀ (J' : zJ) (m' : Int) (S' : zJ), GJ J' J m m' → S' 164 21 = 0 → A0 J' S' → ∀ k : Nat, (grO ρ k S' t = (S', c) ∧ J' 12 c ≤ k) ∨ (¬ (grO ρ k S' t).1 164 21 = 0 ∧ k < J' 12 c)
theorem GCj.gr {ρ : Int → Int} {J1 J : zJ} {m m1 t c : Int} (h : GCj ρ J m t c) (g : GJ J1 J m m1) : GCj ρ J1 m1 t c := ⟨by have := h.1; have := g.1; omega, fun J' m' S' g' => h.2 J' m' S' (g.tr g')⟩
theorem GCj.rr {ρ : Int → Int} {J : zJ} {m t u c : Int} (h : GCj ρ J m t c) (e : ρ u = ρ t) : GCj ρ J m u c := ⟨h.1, fun J' m' S' g h2 E k => by rw [grO_r e]; exact h.2 J' m' S' g h2 E k⟩
theorem GCj.of {ρ : Int → Int} {J1 J : zJ} {m t c : Int} (h : GCj ρ J m t c) (e : ∀ q, q < 18 → J1 q = J q) : GCj ρ J1 m t c := ⟨h.1, fun J' m' S' g h2 E k => h.2 J' m' S' ⟨g.1, g.2.1, g.2.2.1, by
  have s := g.2.2.2.1
  unfold zSU at s ⊢
  rw [e 7 (by decide), e 8 (by decide), e 9 (by decide), e 10 (by decide), e 11 (by decide), e 12 (by decide), e 13 (by decide), e 14 (by decide), e 15 (by decide)] at s
  exact s, g.2.2.2.2.1.trans (e 1 (by decide)), g.2.2.2.2.2.trans (e 3 (by decide))⟩ h2 E k⟩
theorem GCj.ex {ρ : Int → Int} {I : zJ → Prop} {J S : zJ} {m t c : Int} {k : Nat} (h : GCj ρ J m t c) (C : CT J m) (hm : J 6 12 = m) (hS : S 164 21 = 0) (E : A0 J S) (i : I J) : EXK I k (grO ρ k S t) c J := by
  rcases h.2 J m S (GJ.rf C hm) hS E k with ⟨a, b⟩ | ⟨a, b⟩
  · rw [a]; exact Or.inr (Or.inr ⟨h.1.1, hS, E, rfl, i⟩)
  · exact Or.inr (Or.inl ⟨h.1.1, a, b⟩)
/-- a term that is itself, without arguments -/
theorem ct_d1 {J : zJ} {m t : Int} (C : CT J m) (ht : 0 ≤ t ∧ t < m) (hv : J 7 t < 0) : J 12 t = 1 := by
  have h := C.1.1.2.2.1 t ht.1 ht.2
  rcases h.2.2.2 with h | ⟨i, hi, _⟩
  · exact h
  · unfold arh at hi
    rw [if_pos hv] at hi
    omega
theorem gcj_v {ρ : Int → Int} {J : zJ} {m t : Int} (ht : 0 ≤ t ∧ t < m) (hv : J 7 t < 0) (e : ρ t = t) : GCj ρ J m t t := ⟨ht, fun J' m' S' g hS E k => by
  have s := g.2.2.2.1.1 t ht.1 ht.2
  have m1 := g.1
  have d : J' 12 t = 1 := ct_d1 g.2.1 ⟨ht.1, by omega⟩ (by rw [s.1]; exact hv)
  have eh := (E.tm g.2.1 g.2.2.1 ⟨ht.1, by omega⟩).1
  cases k with
  | zero => exact Or.inr ⟨grO_0f, by omega⟩
  | succ k =>
    rw [grO_s, if_pos hS, e, eh, s.1, if_pos hv]
    exact Or.inl ⟨rfl, by omega⟩⟩
theorem madeP.is {J J' : zJ} {m h a b c z : Int} (p : madeP J m h a b c z J') (hz : 0 ≤ z) : isT J' z h a b c ∧ okA (arh (J 3) h) a b c ∧ 0 ≤ z ∧ z < J' 6 12 := by
  obtain ⟨f, s, p⟩ := p
  have e3 : J' 3 = J 3 := f 3 rfl
  rcases p with ⟨⟨pz, _⟩, _⟩ | ⟨⟨q1, q2, q3⟩, m1, _⟩ | ⟨⟨pz, _, _, q3, _⟩, m1, _, q4⟩
  · omega
  · refine ⟨?_, q3, q1.1, by omega⟩
    obtain ⟨i0, i1, i2, i3⟩ := q2
    unfold isT
    rw [e3, (s.1 z q1.1 q1.2).1, s.2 (z * 3 + 0) (by omega) (by omega), s.2 (z * 3 + 1) (by omega) (by omega), s.2 (z * 3 + 2) (by omega) (by omega)]
    exact ⟨i0, i1, i2, i3⟩
  · rw [pz]
    exact ⟨q4, q3, by omega, by omega⟩
/-- the term of a head and arguments that are there -/
theorem A0.fnd {J g : zJ} {m h a b c z : Int} (E : A0 J g) (h0 : g 164 21 = 0) (C : CT J m) (hm : J 6 12 = m) (hh : h < J 1 3) (hz : 0 ≤ z ∧ z < m) (i : isT J z h a b c) : tmO g h a b c = (g, z) := by
  have e6 := E.2.1
  have hA := E.ar hh
  have hx : (0 < arh (J 3) h → a = a) ∧ (1 < arh (J 3) h → b = b) ∧ (2 < arh (J 3) h → c = c) := ⟨fun _ => rfl, fun _ => rfl, fun _ => rfl⟩
  have q : ofi g h a b c = z := by
    unfold ofi
    refine fnB_eq hz.1 (by omega) (fun t u v => dcB_t (fun k => ?_)) (Or.inr (dcB_f (fun k => k ?_)))
    · rw [hA] at k
      have := isT_u C hh (q := t) (q' := z) (by omega) hz ((E.nm C hm hx (by omega)).1 k) i
      omega
    · rw [hA]
      exact (E.nm C hm hx hz).2 i
  unfold tmO
  rw [if_pos h0, q, if_pos (by omega)]
/-- args of it, as deep as it -/
theorem ct_dpi {J : zJ} {m z h a b c : Int} (C : CT J m) (hz : 0 ≤ z ∧ z < m) (i : isT J z h a b c) : (0 < arh (J 3) h → J 12 a < J 12 z) ∧ (1 < arh (J 3) h → J 12 b < J 12 z) ∧ (2 < arh (J 3) h → J 12 c < J 12 z) ∧ (J 12 z = 1 ∨ (0 < arh (J 3) h ∧ J 12 z = J 12 a + 1) ∨ (1 < arh (J 3) h ∧ J 12 z = J 12 b + 1) ∨ (2 < arh (J 3) h ∧ J 12 z = J 12 c + 1)) := by
  have q := C.1.1.2.2.1 z hz.1 hz.2
  have h3 := C.1.1.ar hz.1 hz.2
  obtain ⟨i0, i1, i2, i3⟩ := i
  have q3 := q.2.2.1
  have q4 := q.2.2.2
  rw [i0] at q3 q4 h3
  dsimp only at q3 q4
  refine ⟨fun y => ?_, fun y => ?_, fun y => ?_, ?_⟩
  · have := (q3 0 (by decide) y).2; rw [i1 y] at this; exact this
  · have := (q3 1 (by decide) y).2; rw [i2 y] at this; exact this
  · have := (q3 2 (by decide) y).2; rw [i3 y] at this; exact this
  · rcases q4 with q4 | ⟨j, hj, q4⟩
    · exact Or.inl q4
    · have : j = 0 ∨ j = 1 ∨ j = 2 := by omega
      rcases this with rfl | rfl | rfl
      · rw [i1 hj.2] at q4; exact Or.inr (Or.inl ⟨hj.2, q4⟩)
      · rw [i2 hj.2] at q4; exact Or.inr (Or.inr (Or.inl ⟨hj.2, q4⟩))
      · rw [i3 hj.2] at q4; exact Or.inr (Or.inr (Or.inr ⟨hj.2, q4⟩))
theorem isT.gr {J' J : zJ} {m m' z h a b c : Int} (i : isT J z h a b c) (hz : 0 ≤ z ∧ z < m) (g : GJ J' J m m') : isT J' z h a b c := by
  have s := g.2.2.2.1
  obtain ⟨i0, i1, i2, i3⟩ := i
  unfold isT
  rw [g.2.2.2.2.2, (s.1 z hz.1 hz.2).1, s.2 (z * 3 + 0) (by omega) (by omega), s.2 (z * 3 + 1) (by omega) (by omega), s.2 (z * 3 + 2) (by omega) (by omega)]
  exact ⟨i0, i1, i2, i3⟩
/-- a stage of the arguments, where what is there already comes -/
theorem gA_gc {T : zJ → Int → zJ × Int} {G : zJ} {A i c : Int} {k : Nat} {d : Int} (h : i < A → (T G i = (G, c) ∧ d ≤ k) ∨ (¬ (T G i).1 164 21 = 0 ∧ k < d)) : ((gA T G A i).1 = G ∧ (i < A → (gA T G A i).2 = c ∧ d ≤ k)) ∨ (i < A ∧ ¬ (gA T G A i).1 164 21 = 0 ∧ k < d) := by
  unfold gA
  by_cases q : i < A
  · rw [if_pos q]
    rcases h q with ⟨a, b⟩ | ⟨a, b⟩
    · rw [a]; exact Or.inl ⟨rfl, fun _ => ⟨rfl, b⟩⟩
    · exact Or.inr ⟨q, a, b⟩
  · rw [if_neg q]
    exact Or.inl ⟨rfl, fun p => absurd p q⟩
theorem gcj_c {ρ : Int → Int} {J : zJ} {m t x z0 z1 z2 z : Int} (C : CT J m) (hm : J 6 12 = m) (hx : 0 ≤ x ∧ x < m) (hv : 0 ≤ J 7 x) (e : ρ t = x) (c0 : 0 < J 8 x → GCj ρ J m (J 9 (x * 3 + 0)) z0) (c1 : 1 < J 8 x → GCj ρ J m (J 9 (x * 3 + 1)) z1) (c2 : 2 < J 8 x → GCj ρ J m (J 9 (x * 3 + 2)) z2) (hz : 0 ≤ z ∧ z < m) (i : isT J z (J 7 x) z0 z1 z2) : GCj ρ J m t z := ⟨hz, fun J' m' S' g hS E k => by
  have m1 := g.1
  have s := g.2.2.2.1
  have ha := C.ar hx.1 hx.2
  have i' := i.gr hz g
  have hm' := g.2.2.1
  have C' := g.2.1
  obtain ⟨p0, p1, p2, p3⟩ := ct_dpi C' (z := z) ⟨hz.1, by omega⟩ i'
  have e8 : J' 8 x = J 8 x := (s.1 x hx.1 hx.2).2.1
  have e7 : J' 7 x = J 7 x := (s.1 x hx.1 hx.2).1
  have hA : arh (J' 3) (J 7 x) = J 8 x := by rw [← e8, ← e7]; exact (C'.2.1 x hx.1 (by omega)).1.1.symm
  rw [hA] at p0 p1 p2 p3
  obtain ⟨t1, t2, t3⟩ := E.tm C' hm' (t := x) ⟨hx.1, by omega⟩
  rw [e8] at t2 t3
  rw [e7] at t1
  have hd := (C'.nums hz.1 (by omega)).2.2
  cases k with
  | zero => exact Or.inr ⟨grO_0f, by omega⟩
  | succ k =>
    rw [grO_s, if_pos hS, e, t1, if_neg (by omega)]
    have oA : oar S' (J 7 x) = J 8 x := by rw [← t2]; unfold mar; rw [t1]; rfl
    have ar : ∀ j, 0 ≤ j → j < J 8 x → S' 167 (3 * (0 + x) + j) = J 9 (x * 3 + j) := fun j a b => by rw [t3 j a b]; exact s.2 (x * 3 + j) (by omega) (by omega)
    have st0 := gA_gc (T := fun H i => grO ρ k H (H 167 (3 * (0 + x) + i))) (G := S') (A := J 8 x) (i := 0) (c := z0) (k := k) (d := J' 12 z0) (fun y => by
      rw [ar 0 (by decide) y]; exact (c0 y).2 J' m' S' g hS E k)
    have st1 := gA_gc (T := fun H i => grO ρ k H (H 167 (3 * (0 + x) + i))) (G := S') (A := J 8 x) (i := 1) (c := z1) (k := k) (d := J' 12 z1) (fun y => by
      rw [ar 1 (by decide) y]; exact (c1 y).2 J' m' S' g hS E k)
    have st2 := gA_gc (T := fun H i => grO ρ k H (H 167 (3 * (0 + x) + i))) (G := S') (A := J 8 x) (i := 2) (c := z2) (k := k) (d := J' 12 z2) (fun y => by
      rw [ar 2 (by decide) y]; exact (c2 y).2 J' m' S' g hS E k)
    have fT : ∀ S i, ¬ S 164 21 = 0 → ¬ ((fun (H : zJ) (i : Int) => grO ρ k H (H 167 (3 * (0 + x) + i))) S i).1 164 21 = 0 := fun S i h => grO_f h
    have g1 : gst (fun H i => grO ρ k H (H 167 (3 * (0 + x) + i))) S' (J 8 x) 1 = gA (fun H i => grO ρ k H (H 167 (3 * (0 + x) + i))) S' (J 8 x) 0 := rfl
    rcases st0 with ⟨a0, b0⟩ | ⟨a0, b0, b0'⟩
    · have g2 : gst (fun H i => grO ρ k H (H 167 (3 * (0 + x) + i))) S' (J 8 x) 2 = gA (fun H i => grO ρ k H (H 167 (3 * (0 + x) + i))) S' (J 8 x) 1 := by rw [gst_s, g1, a0]; rfl
      rcases st1 with ⟨a1, b1⟩ | ⟨a1, b1, b1'⟩
      · have g3 : gst (fun H i => grO ρ k H (H 167 (3 * (0 + x) + i))) S' (J 8 x) 3 = gA (fun H i => grO ρ k H (H 167 (3 * (0 + x) + i))) S' (J 8 x) 2 := by rw [gst_s, g2, a1]; rfl
        rcases st2 with ⟨a2, b2⟩ | ⟨a2, b2, b2'⟩
        · left
          unfold gR
          rw [oA, g3, g2, g1, a2]
          refine ⟨?_, by omega⟩
          refine E.fnd hS C' hm' (by rw [← e7]; exact (C'.ar hx.1 (by omega)).2.2.2) ⟨hz.1, by omega⟩ ?_
          obtain ⟨j0, j1, j2, j3⟩ := i'
          rw [hA] at j1 j2 j3
          refine ⟨j0, fun y => ?_, fun y => ?_, fun y => ?_⟩
          · rw [hA] at y; rw [j1 y, (b0 y).1]
          · rw [hA] at y; rw [j2 y, (b1 y).1]
          · rw [hA] at y; rw [j3 y, (b2 y).1]
        · right
          refine ⟨gR_f ?_, by have := p2 a2; omega⟩
          rw [oA, g3]; exact b2
      · right
        refine ⟨gR_f ?_, by have := p1 a1; omega⟩
        rw [oA]
        exact gst_f fT (i := 2) (by rw [g2]; exact b1) 1
    · right
      refine ⟨gR_f ?_, by have := p0 a0; omega⟩
      rw [oA]
      exact gst_f fT (i := 1) (by rw [g1]; exact b0) 2⟩
/-- what an argument's call tells (or that there is none) -/
def AGD (X : List Nat) (I : zJ → Prop) (k : Nat) (T : zJ → Int → zJ × Int) (J1 J : zJ) (A i z m m1 : Int) : Prop := (i < A ∧ GX X J1 J m m1 ∧ (z = -3 ∨ (0 ≤ z ∧ z < m1)) ∧ (∀ S, S 164 21 = 0 → A0 J S → I J → EXK I k (T S i) z J1)) ∨ (¬ i < A ∧ J1 = J ∧ m1 = m)
theorem AGD.gr {X : List Nat} {I : zJ → Prop} {k : Nat} {T : zJ → Int → zJ × Int} {J1 J : zJ} {A i z m m1 : Int} (a : AGD X I k T J1 J A i z m m1) (C : CT J m) (hm : J 6 12 = m) : GX X J1 J m m1 := by
  rcases a with ⟨_, g, _⟩ | ⟨_, e, e'⟩
  · exact g
  · rw [e, e']; exact GX.rf C hm
theorem AGD.rg {X : List Nat} {I : zJ → Prop} {k : Nat} {T : zJ → Int → zJ × Int} {J1 J : zJ} {A i z m m1 : Int} (a : AGD X I k T J1 J A i z m m1) (h : i < A) : z = -3 ∨ (0 ≤ z ∧ z < m1) := by
  rcases a with ⟨_, _, q, _⟩ | ⟨q, _⟩
  · exact q
  · exact absurd h q
def SGK (I : zJ → Prop) (r : zJ × Int) (J1 : zJ) (z A i : Int) : Prop := r.1 164 21 = 0 ∧ A0 J1 r.1 ∧ I J1 ∧ (i < A → 0 ≤ z ∧ z = r.2)
theorem gd_st {X : List Nat} {I : zJ → Prop} {k : Nat} {T : zJ → Int → zJ × Int} {G J1 J : zJ} {A i z m m1 : Int} (hG : G 164 21 = 0) (E : A0 J G) (hI : I J) (a : AGD X I k T J1 J A i z m m1) : (i < A ∧ (z = -3 ∨ (0 ≤ z ∧ k < J1 12 z)) ∧ ¬ (gA T G A i).1 164 21 = 0) ∨ SGK I (gA T G A i) J1 z A i := by
  unfold gA
  rcases a with ⟨h1, _, _, h2⟩ | ⟨h1, h2, _⟩
  · rw [if_pos h1]
    rcases h2 G hG E hI with ⟨q1, q2⟩ | ⟨q0, q1, q2⟩ | ⟨q1, q2, q3, q4, q5⟩
    · exact Or.inl ⟨h1, Or.inl q1, q2⟩
    · exact Or.inl ⟨h1, Or.inr ⟨q0, q2⟩, q1⟩
    · exact Or.inr ⟨q2, q3, q5, fun _ => ⟨q1, q4⟩⟩
  · rw [if_neg h1, h2]
    exact Or.inr ⟨hG, E, hI, fun q => absurd q h1⟩
theorem madeP.ct {J J' : zJ} {m h a b c z : Int} (p : madeP J m h a b c z J') : CT J' (J' 6 12) := by
  obtain ⟨f, s, p⟩ := p
  rcases p with ⟨_, m1, c⟩ | ⟨_, m1, c⟩ | ⟨_, m1, c, _⟩ <;> (rw [m1]; exact c)
theorem bad_z {J2 J' : zJ} {A m2 h z0 z1 z2 z : Int} {k : Nat} (hm2 : 0 ≤ m2) (p : madeP J2 m2 h z0 z1 z2 z J') (ea : arh (J2 3) h = A) (hb : (0 < A ∧ (z0 = -3 ∨ ((0 ≤ z0 ∧ z0 < m2) ∧ k < J2 12 z0))) ∨ (1 < A ∧ (z1 = -3 ∨ ((0 ≤ z1 ∧ z1 < m2) ∧ k < J2 12 z1))) ∨ (2 < A ∧ (z2 = -3 ∨ ((0 ≤ z2 ∧ z2 < m2) ∧ k < J2 12 z2)))) : z = -3 ∨ (0 ≤ z ∧ ((k + 1 : Nat) : Int) < J' 12 z) := by
  by_cases hz : 0 ≤ z
  · right
    obtain ⟨i, ok, hr⟩ := p.is hz
    obtain ⟨p0, p1, p2, _⟩ := ct_dpi p.ct hr i
    have e3 : J' 3 = J2 3 := p.1 3 rfl
    rw [e3, ea] at p0 p1 p2
    rw [ea] at ok
    obtain ⟨o0, o1, o2⟩ := ok
    have d : ∀ u, (0 ≤ u ∧ u < m2) → J' 12 u = J2 12 u := fun u hu => (p.2.1.1 u hu.1 hu.2).2.2.2.2.1
    rcases hb with ⟨b, q | ⟨q, r⟩⟩ | ⟨b, q | ⟨q, r⟩⟩ | ⟨b, q | ⟨q, r⟩⟩
    · have := o0 b; omega
    · have := p0 b; rw [d z0 q] at this; omega
    · have := o1 b; omega
    · have := p1 b; rw [d z1 q] at this; omega
    · have := o2 b; omega
    · have := p2 b; rw [d z2 q] at this; omega
  · left
    obtain ⟨_, _, p⟩ := p
    rcases p with ⟨⟨pz, _⟩, _⟩ | ⟨⟨q, _⟩, _⟩ | ⟨⟨q, _⟩, q2, q3, _⟩
    · exact pz
    · omega
    · omega
theorem gpD {X : List Nat} {I : zJ → Prop} {k : Nat} (hX : zbut (6 :: 7 :: 8 :: 9 :: 10 :: 11 :: 12 :: 13 :: 14 :: 15 :: 16 :: 17 :: X) 1 = true ∧ zbut (6 :: 7 :: 8 :: 9 :: 10 :: 11 :: 12 :: 13 :: 14 :: 15 :: 16 :: 17 :: X) 3 = true) {T : zJ → Int → zJ × Int} (hT : ∀ S i, ¬ S 164 21 = 0 → ¬ (T S i).1 164 21 = 0) {G J J0 J1 J2 J' : zJ} {h A m m0 m1 m2 z0 z1 z2 z : Int} (hG : G 164 21 = 0) (E : A0 J G) (i0 : I J) (C : CT J m) (hm : J 6 12 = m) (hh : -8 ≤ h ∧ h < J 1 3) (hA : arh (J 3) h = A) (a0 : AGD X I k T J0 J A 0 z0 m m0) (a1 : AGD X I k T J1 J0 A 1 z1 m0 m1) (a2 : AGD X I k T J2 J1 A 2 z2 m1 m2) (hI : I J2 → I J') (p : madeP J2 m2 h z0 z1 z2 z J') : EXK I (k + 1) (gR T G h) z J' := by
  have g0 := a0.gr C hm
  have g1 := a1.gr g0.2.1 g0.2.2.1
  have g2 := a2.gr g1.2.1 g1.2.2.1
  have g20 := (g0.tr g1).tr g2
  have g21 := g1.tr g2
  have l0 := g0.1
  have l1 := g1.1
  have l2 := g2.1
  have eA : oar G h = A := (E.ar hh.2).trans hA
  have e3 : J2 3 = J 3 := g20.2.2.2.2 3 hX.2
  have e1 : J2 1 = J 1 := g20.2.2.2.2 1 hX.1
  have ea : arh (J2 3) h = A := by rw [e3, hA]
  have d0 : ∀ u, (0 ≤ u ∧ u < m0) → J2 12 u = J0 12 u := fun u hu => (g21.2.2.2.1.1 u hu.1 hu.2).2.2.2.2.1
  have d1 : ∀ u, (0 ≤ u ∧ u < m1) → J2 12 u = J1 12 u := fun u hu => (g2.2.2.2.1.1 u hu.1 hu.2).2.2.2.2.1
  have fin : ((0 < A ∧ (z0 = -3 ∨ ((0 ≤ z0 ∧ z0 < m2) ∧ k < J2 12 z0))) ∨ (1 < A ∧ (z1 = -3 ∨ ((0 ≤ z1 ∧ z1 < m2) ∧ k < J2 12 z1))) ∨ (2 < A ∧ (z2 = -3 ∨ ((0 ≤ z2 ∧ z2 < m2) ∧ k < J2 12 z2)))) → ¬ (gst T G A 3).1 164 21 = 0 → EXK I (k + 1) (gR T G h) z J' := fun hb hf => by
    have f : ¬ (gR T G h).1 164 21 = 0 := gR_f (by rw [eA]; exact hf)
    rcases bad_z g2.2.1.told.2.1 p ea hb with q | ⟨q1, q2⟩
    · exact Or.inl ⟨q, f⟩
    · exact Or.inr (Or.inl ⟨q1, f, q2⟩)
  rcases gd_st hG E i0 a0 with ⟨y, q, r⟩ | q0
  · refine fin (Or.inl ⟨y, ?_⟩) (gst_f hT (i := 1) r 2)
    have w := a0.rg y
    rcases q with q | ⟨q, q'⟩
    · exact Or.inl q
    · exact Or.inr ⟨by omega, by rw [d0 z0 (by omega)]; exact q'⟩
  · have s1 : gst T G A 1 = gA T G A 0 := rfl
    rcases gd_st q0.1 q0.2.1 q0.2.2.1 a1 with ⟨y, q, r⟩ | q1
    · refine fin (Or.inr (Or.inl ⟨y, ?_⟩)) (gst_f hT (i := 2) r 1)
      have w := a1.rg y
      rcases q with q | ⟨q, q'⟩
      · exact Or.inl q
      · exact Or.inr ⟨by omega, by rw [d1 z1 (by omega)]; exact q'⟩
    · rcases gd_st q1.1 q1.2.1 q1.2.2.1 a2 with ⟨y, q, r⟩ | q2
      · refine fin (Or.inr (Or.inr ⟨y, ?_⟩)) r
        have w := a2.rg y
        rcases q with q | ⟨q, q'⟩
        · exact Or.inl q
        · exact Or.inr ⟨by omega, q'⟩
      · have b0 : 0 < A → 0 ≤ z0 ∧ z0 < m2 := fun u => by
          have r := q0.2.2.2 u
          have w := a0.rg u
          omega
        have b1 : 1 < A → 0 ≤ z1 ∧ z1 < m2 := fun u => by
          have r := q1.2.2.2 u
          have w := a1.rg u
          omega
        have b2 : 2 < A → 0 ≤ z2 ∧ z2 < m2 := fun u => by
          have r := q2.2.2.2 u
          have w := a2.rg u
          omega
        unfold gR
        rw [eA]
        have := q2.2.1.made q2.1 g2.2.1 g2.2.2.1 (h := h) (a := z0) (b := z1) (c := z2) (x := (gst T G A 1).2) (y := (gst T G A 2).2) (w := (gst T G A 3).2) (by rw [e1]; exact hh) (by rw [ea]; exact ⟨fun u => (q0.2.2.2 u).2, fun u => (q1.2.2.2 u).2, fun u => (q2.2.2.2 u).2⟩) (by rw [ea]; exact ⟨b0, b1, b2⟩) p
        rcases this with ⟨u, v⟩ | ⟨u, v, w, x⟩
        · exact Or.inl ⟨u.2, v⟩
        · exact Or.inr (Or.inr ⟨u, v, w, x, hI q2.2.2.1⟩)
/-! ===== what a variable leads to ===== -/
def rho (β h : Int → Int) : Nat → Int → Int
  | 0, t => t
  | j + 1, t => if h t < 0 ∧ ¬ β (-1 - h t) = -1 then rho β h j (β (-1 - h t)) else t
theorem rho_s {β h : Int → Int} {j : Nat} {t : Int} : rho β h (j + 1) t = if h t < 0 ∧ ¬ β (-1 - h t) = -1 then rho β h j (β (-1 - h t)) else t := rfl
theorem rho_n {β h : Int → Int} {t : Int} (e : ¬ (h t < 0 ∧ ¬ β (-1 - h t) = -1)) : ∀ j, rho β h j t = t
  | 0 => rfl
  | j + 1 => by rw [rho_s, if_neg e]
/-- it hangs on no more steps than there are ranks -/
theorem rho_q {β h : Int → Int} {O : Int → Int → Prop} {rk : Int → Nat} {P : Int → Prop} {m : Int} (h8 : ∀ t, (0 ≤ t ∧ t < m) → -8 ≤ h t) (hb : ∀ v, 0 ≤ v → v < 8 → -1 ≤ β v ∧ β v < m) (hO : ∀ t, (0 ≤ t ∧ t < m) → h t < 0 → O t (-1 - h t)) (hR : ∀ v, (0 ≤ v ∧ v < 8) → P v → ¬ β v = -1 → ∀ u, O (β v) u → P u ∧ (¬ β u = -1 → rk u < rk v)) : ∀ (q : Nat) (t : Int), (0 ≤ t ∧ t < m) → (∀ v, O t v → P v ∧ (¬ β v = -1 → rk v < q)) → ∀ j i : Nat, q ≤ j → q ≤ i → rho β h j t = rho β h i t
  | 0, t, ht, hq, j, i, _, _ => by
    have n : ¬ (h t < 0 ∧ ¬ β (-1 - h t) = -1) := fun w => Nat.not_lt_zero _ ((hq _ (hO t ht w.1)).2 w.2)
    rw [rho_n n, rho_n n]
  | q + 1, t, ht, hq, j, i, hj, hi => by
    obtain ⟨j, rfl⟩ : ∃ j', j = j' + 1 := ⟨j - 1, by omega⟩
    obtain ⟨i, rfl⟩ : ∃ i', i = i' + 1 := ⟨i - 1, by omega⟩
    rw [rho_s, rho_s]
    by_cases w : h t < 0 ∧ ¬ β (-1 - h t) = -1
    · rw [if_pos w, if_pos w]
      have b := hq _ (hO t ht w.1)
      have r := b.2 w.2
      have e8 := h8 t ht
      have v8 := hb (-1 - h t) (by omega) (by omega)
      refine rho_q h8 hb hO hR q _ ⟨by omega, v8.2⟩ (fun u o => ?_) j i (by omega) (by omega)
      obtain ⟨x, y⟩ := hR _ (by omega) b.1 w.2 u o
      exact ⟨x, fun n => by have := y n; omega⟩
    · rw [if_neg w, if_neg w]
/-- ranks below 8 -/
theorem NRb.n {S : zJ} {β : Int → Int} {t : Int} (h : NRb S β t) (hb : ∀ v u, (0 ≤ v ∧ v < 8) → ¬ β v = -1 → Occ S 0 0 (β v) u → 0 ≤ u ∧ u < 8) : ∃ (rk : Int → Nat) (P : Int → Prop), (∀ v, (0 ≤ v ∧ v < 8) → P v → ¬ β v = -1 → rk v < 8) ∧ (∀ v, Occ S 0 0 t v → P v) ∧ WTb S β rk P := by
  obtain ⟨rk, P, _, h2, h3⟩ := h
  refine ⟨fun v => cnt (fun u => @decide (P u ∧ ¬ β u = -1 ∧ rk u < rk v) (Classical.propDecidable _)) 8, P, fun v hv p b => ?_, h2, fun v hv p b u o => ?_⟩
  · have := cnt_lt (p := fun _ => true) (q := fun u => @decide (P u ∧ ¬ β u = -1 ∧ rk u < rk v) (Classical.propDecidable _)) 8 (fun _ _ _ _ => rfl) ⟨v, ⟨hv.1, by omega⟩, rfl, @decide_eq_false _ (Classical.propDecidable _) (fun w => Nat.lt_irrefl _ w.2.2)⟩
    have e := cnt_n (p := fun _ => true) 8
    exact Nat.lt_of_lt_of_le this e
  · obtain ⟨a, c⟩ := h3 v hv p b u o
    refine ⟨a, fun bu => ?_⟩
    have l := c bu
    have hu := hb v u hv b o
    refine cnt_lt 8 (fun k _ _ q => ?_) ⟨u, ⟨hu.1, by omega⟩, @decide_eq_true _ (Classical.propDecidable _) ⟨a, bu, l⟩, @decide_eq_false _ (Classical.propDecidable _) (fun w => Nat.lt_irrefl _ w.2.2)⟩
    have q' := @of_decide_eq_true _ (Classical.propDecidable _) q
    exact @decide_eq_true _ (Classical.propDecidable _) ⟨q'.1, q'.2.1, Nat.lt_trans q'.2.2 l⟩
/-- closing a term -/
noncomputable def cloF (S : zJ) (t : Int) : zJ × Int := grO (rho (fun v => S 165 (1 + v) - 1) (fun t => S 166 (0 + t)) 8) 6 S t
