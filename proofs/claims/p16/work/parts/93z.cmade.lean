/-! ===== terms that the class makes: those of the reading ===== -/
theorem isT_u {J : zJ} {m h a b c q q' : Int} (C : CT J m) (hh : h < J 1 3) (hq : 0 ≤ q ∧ q < m) (hq' : 0 ≤ q' ∧ q' < m) (e : isT J q h a b c) (e' : isT J q' h a b c) : q = q' := by
  have hA := arh_rg C.1.1.1 hh
  refine C.1.1.2.2.2 q q' hq.1 hq.2 hq'.1 hq'.2 ⟨e.1.trans e'.1.symm, fun i x y => ?_⟩
  rw [e'.1] at y
  have hi : i = 0 ∨ i = 1 ∨ i = 2 := by omega
  rcases hi with rfl | rfl | rfl
  · exact (e.2.1 y).trans (e'.2.1 y).symm
  · exact (e.2.2.1 y).trans (e'.2.2.1 y).symm
  · exact (e.2.2.2 y).trans (e'.2.2.2 y).symm
theorem ET.ar {J g : zJ} {h : Int} (E : ET J g) (hh : h < J 1 3) : par g h = arh (J 3) h := (arh_cg (fun q => (E.1.2 h q (by have := E.1.1; omega)).2.1)).symm
theorem ET.nm {J g : zJ} {m h a b c x y w q : Int} (E : ET J g) (C : CT J m) (hm : J 6 12 = m) (hx : (0 < arh (J 3) h → a = x) ∧ (1 < arh (J 3) h → b = y) ∧ (2 < arh (J 3) h → c = w)) (hq : 0 ≤ q ∧ q < m) : nmT g 800 (arh (J 3) h) h x y w q ↔ isT J q h a b c := by
  obtain ⟨x0, x1, x2⟩ := hx
  have e6 := E.2.1.1
  have e7 := (E.2.1.2.1 q hq.1 (by omega)).1
  have e8 := (C.2.1 q hq.1 hq.2).1.1
  have e9 := fun i => E.2.1.2.2 q i hq.1 (by omega)
  constructor
  · rintro ⟨n0, n1, n2, n3⟩
    have h7 : J 7 q = h := e7.trans n0
    rw [h7] at e8
    exact ⟨h7, fun p => (e9 0 (by decide) (by omega)).trans ((n1 p).trans (x0 p).symm), fun p => (e9 1 (by decide) (by omega)).trans ((n2 p).trans (x1 p).symm), fun p => (e9 2 (by decide) (by omega)).trans ((n3 p).trans (x2 p).symm)⟩
  · rintro ⟨h7, n1, n2, n3⟩
    rw [h7] at e8
    exact ⟨e7.symm.trans h7, fun p => (e9 0 (by decide) (by omega)).symm.trans ((n1 p).trans (x0 p)), fun p => (e9 1 (by decide) (by omega)).symm.trans ((n2 p).trans (x1 p)), fun p => (e9 2 (by decide) (by omega)).symm.trans ((n3 p).trans (x2 p))⟩
theorem ct_dpT {J : zJ} {m h a b c : Int} (C : CT J (m + 1)) (h0 : 0 ≤ m) (hh : h < J 1 3) (e : isT J m h a b c) : J 12 m = dpT J h a b c := by
  obtain ⟨e7, e0, e1, e2⟩ := e
  have hA := arh_rg C.1.1.1 hh
  obtain ⟨_, t2, t3, t4⟩ := C.1.1.2.2.1 m h0 (by omega)
  rw [e7] at t3 t4
  dsimp only at t3 t4
  have a0 : 0 < arh (J 3) h → J 12 a < J 12 m := fun p => by have := (t3 0 (by decide) p).2; rw [e0 p] at this; exact this
  have a1 : 1 < arh (J 3) h → J 12 b < J 12 m := fun p => by have := (t3 1 (by decide) p).2; rw [e1 p] at this; exact this
  have a2 : 2 < arh (J 3) h → J 12 c < J 12 m := fun p => by have := (t3 2 (by decide) p).2; rw [e2 p] at this; exact this
  have a4 : J 12 m = 1 ∨ (0 < arh (J 3) h ∧ J 12 m = J 12 a + 1) ∨ (1 < arh (J 3) h ∧ J 12 m = J 12 b + 1) ∨ (2 < arh (J 3) h ∧ J 12 m = J 12 c + 1) := by
    rcases t4 with q | ⟨i, ⟨q1, q2⟩, q3⟩
    · exact Or.inl q
    · have hi : i = 0 ∨ i = 1 ∨ i = 2 := by omega
      rcases hi with rfl | rfl | rfl
      · rw [e0 q2] at q3; exact Or.inr (Or.inl ⟨q2, q3⟩)
      · rw [e1 q2] at q3; exact Or.inr (Or.inr (Or.inl ⟨q2, q3⟩))
      · rw [e2 q2] at q3; exact Or.inr (Or.inr (Or.inr ⟨q2, q3⟩))
  unfold dpT
  split
  · omega
  · split
    · have a0 := a0 (by omega)
      unfold zmax
      (repeat' split) <;> omega
    · split
      · have a0 := a0 (by omega)
        have a1 := a1 (by omega)
        unfold zmax
        (repeat' split) <;> omega
      · have a0 := a0 (by omega)
        have a1 := a1 (by omega)
        have a2 := a2 (by omega)
        unfold zmax
        (repeat' split) <;> omega
theorem ET.dp {J g : zJ} {m h a b c x y w : Int} (E : ET J g) (hm : J 6 12 = m) (hh : h < J 1 3) (hx : (0 < arh (J 3) h → a = x) ∧ (1 < arh (J 3) h → b = y) ∧ (2 < arh (J 3) h → c = w)) (hr : (0 < arh (J 3) h → 0 ≤ a ∧ a < m) ∧ (1 < arh (J 3) h → 0 ≤ b ∧ b < m) ∧ (2 < arh (J 3) h → 0 ≤ c ∧ c < m)) : pdp g h x y w = dpT J h a b c := by
  have e6 := E.2.1.1
  unfold pdp
  rw [E.ar hh]
  have e : ∀ u, 0 ≤ u ∧ u < m → J 12 u = g 168 (800 + u) := fun u q => (E.2.1.2.1 u q.1 (by omega)).2
  show dpS _ _ _ _ _ = dpS (J 12) (arh (J 3) h) a b c
  have r0 : 0 < arh (J 3) h → g 168 (800 + x) = J 12 a := fun p => by rw [← hx.1 p]; exact (e a (hr.1 p)).symm
  have r1 : 1 < arh (J 3) h → g 168 (800 + y) = J 12 b := fun p => by rw [← hx.2.1 p]; exact (e b (hr.2.1 p)).symm
  have r2 : 2 < arh (J 3) h → g 168 (800 + w) = J 12 c := fun p => by rw [← hx.2.2 p]; exact (e c (hr.2.2 p)).symm
  unfold dpS
  dsimp only
  split
  · rfl
  · rw [r0 (by omega)]
    split
    · rfl
    · rw [r1 (by omega)]
      split
      · rfl
      · rw [r2 (by omega)]
/-- the table is as it was, up to m -/
theorem ET.su {J' J g : zJ} {m : Int} (E : ET J g) (hm : J 6 12 = m) (hm' : J' 6 12 = m) (f : zOf (zbut [6, 7, 8, 9, 10, 11, 12, 13, 14, 15, 16, 17]) J' J) (s : zSU J' J m) (C : CT J m) : ET J' g := by
  obtain ⟨E1, ⟨e6, E2, E3⟩, E4⟩ := E
  unfold ET
  rw [f 1 rfl, f 2 rfl, f 3 rfl, f 4 rfl, f 19 rfl]
  refine ⟨E1, ⟨by omega, fun t a b => ?_, fun t i a b x y => ?_⟩, E4⟩
  · have q := s.1 t a (by omega)
    rw [q.1, q.2.2.2.2.1]
    exact E2 t a b
  · have q := s.1 t a (by omega)
    rw [q.2.1] at y
    have := (C.ar a (by omega)).1
    rw [s.2 (t * 3 + i) (by omega) (by omega)]
    exact E3 t i a b x y
theorem ET.nw {J' J g : zJ} {m h a b c x y w : Int} (E : ET J g) (hm : J 6 12 = m) (hm' : J' 6 12 = m + 1) (f : zOf (zbut [6, 7, 8, 9, 10, 11, 12, 13, 14, 15, 16, 17]) J' J) (s : zSU J' J m) (C : CT J m) (C' : CT J' (m + 1)) (hh : h < J 1 3) (hx : (0 < arh (J 3) h → a = x) ∧ (1 < arh (J 3) h → b = y) ∧ (2 < arh (J 3) h → c = w)) (hi : isT J' m h a b c) (hd : J' 12 m = pdp g h x y w) : ET J' (chT g 800 126 m h (if 0 < par g h then x else -1) (if 1 < par g h then y else -1) (if 2 < par g h then w else -1) (pdp g h x y w)) := by
  have hA := E.ar hh
  have t0 := C.told
  obtain ⟨E1, ⟨e6, E2, E3⟩, ⟨E4, E5⟩, ⟨E6, E7⟩, E8⟩ := E
  have e8 := (C'.2.1 m (by omega) (by omega)).1.1
  rw [hi.1, f 3 rfl] at e8
  obtain ⟨i7, i0, i1, i2⟩ := hi
  rw [f 3 rfl] at i0 i1 i2
  have hA3 := arh_rg C.1.1.1 hh
  unfold ET
  rw [f 1 rfl, f 2 rfl, f 3 rfl, f 4 rfl, f 19 rfl, chT4 164 (by decide), chT4 169 (by decide), chT4 170 (by decide), chT4 171 (by decide), hA]
  have n5 : ∀ k, ¬ k = 126 → chT g 800 126 m h (if 0 < arh (J 3) h then x else -1) (if 1 < arh (J 3) h then y else -1) (if 2 < arh (J 3) h then w else -1) (pdp g h x y w) 165 k = g 165 k := fun k q => by rw [chT_5, if_neg q]
  have n6 : chT g 800 126 m h (if 0 < arh (J 3) h then x else -1) (if 1 < arh (J 3) h then y else -1) (if 2 < arh (J 3) h then w else -1) (pdp g h x y w) 165 126 = m + 1 := by rw [chT_5, if_pos rfl]
  rw [n5 135 (by decide), n5 152 (by decide), n6]
  refine ⟨E1, ⟨hm', fun t p q => ?_, fun t i p q u v => ?_⟩, ⟨E4, fun i p q => ?_⟩, ⟨E6, fun i p q => ?_⟩, ⟨by rw [n5 165 (by decide)]; exact E8.1, ⟨by rw [n5 187 (by decide)]; exact E8.2.1.1, by rw [n5 188 (by decide)]; exact E8.2.1.2.1, E8.2.1.2.2⟩, fun v a b => by rw [n5 (127 + v) (by omega)]; exact E8.2.2 v a b⟩⟩
  · rw [chT_6, chT_8]
    by_cases et : t = m
    · subst et
      rw [if_pos rfl, if_pos rfl]
      exact ⟨i7, hd⟩
    · rw [if_neg (by omega), if_neg (by omega)]
      have r := s.1 t p (by omega)
      rw [r.1, r.2.2.2.2.1]
      exact E2 t p (by omega)
  · rw [chT_7]
    by_cases et : t = m
    · subst et
      rw [e8] at v
      have h3 : i = 0 ∨ i = 1 ∨ i = 2 := by omega
      rcases h3 with rfl | rfl | rfl
      · rw [if_neg (by omega), if_neg (by omega), if_pos (by omega), if_pos v, i0 v]
        exact hx.1 v
      · rw [if_neg (by omega), if_pos (by omega), if_pos v, i1 v]
        exact hx.2.1 v
      · rw [if_pos (by omega), if_pos v, i2 v]
        exact hx.2.2 v
    · have r := s.1 t p (by omega)
      rw [r.2.1] at v
      have := (C.ar p (by omega)).1
      rw [if_neg (by omega), if_neg (by omega), if_neg (by omega), s.2 (t * 3 + i) (by omega) (by omega)]
      exact E3 t i p (by omega) u v
  · rw [n5 _ (by omega), n5 _ (by omega)]
    exact E5 i p q
  · rw [n5 _ (by omega)]
    exact E7 i p q
/-- made by the class, made by the reading -/
theorem RelC.made {J' J g : zJ} {m h a b c x y w z : Int} (hR : RelC J g) (h0 : g 0 4 = 0) (C : CT J m) (hm : J 6 12 = m) (hh : -8 ≤ h ∧ h < J 1 3) (hx : (0 < arh (J 3) h → a = x) ∧ (1 < arh (J 3) h → b = y) ∧ (2 < arh (J 3) h → c = w)) (hr : (0 < arh (J 3) h → 0 ≤ a ∧ a < m) ∧ (1 < arh (J 3) h → 0 ≤ b ∧ b < m) ∧ (2 < arh (J 3) h → 0 ≤ c ∧ c < m)) (p : madeP J m h a b c z J') : XC J' (pMd g h x y w).1 ∧ VQ z (pMd g h x y w) ∧ (z < 0 → (pMd g h x y w).1 0 4 = 99) := by
  obtain ⟨f, s, p⟩ := p
  obtain ⟨h1, h2, h3⟩ := hR
  obtain ⟨T, b1, b2, b3, E⟩ := h3 h0
  have t0 := C.told
  have e6 := E.2.1.1
  have hA := E.ar hh.2
  have hdp := E.dp hm hh.2 hx hr
  have n1 : NST J m h a b c → pfi g h x y w = g 165 126 := fun q => by
    unfold pfi
    refine fnB_eq (by omega) (Int.le_refl _) (fun t u v => dcB_t (fun k => q t u (by omega) ?_)) (Or.inl rfl)
    rw [hA] at k
    exact (E.nm C hm hx (by omega)).1 k
  have n2 : (0 ≤ z ∧ z < m) → isT J z h a b c → pfi g h x y w = z := fun r q => by
    unfold pfi
    refine fnB_eq r.1 (by omega) (fun t u v => dcB_t (fun k => ?_)) (Or.inr (dcB_f (fun k => k ?_)))
    · rw [hA] at k
      have := isT_u C hh.2 (q := t) (q' := z) (by omega) r ((E.nm C hm hx (by omega)).1 k) q
      omega
    · rw [hA]
      exact (E.nm C hm hx r).2 q
  have e163 : J' 163 = J 163 := f 163 rfl
  have e162 : J' 162 = J 162 := f 162 rfl
  rcases p with ⟨⟨pz, q⟩, m1, C1⟩ | ⟨⟨pz, q, _⟩, m1, C1⟩ | ⟨⟨pz, q1, q2, _, q3⟩, m1, C1, q4⟩
  · have e99 : pMd g h x y w = (zup g 0 4 99, 0) := by
      rcases q with q | ⟨q, v⟩
      · exact absurd ⟨fun k => (hr.1 k).1, fun k => (hr.2.1 k).1, fun k => (hr.2.2 k).1⟩ q
      · unfold pMd
        rw [n1 q, if_neg (by omega), hdp, if_neg (by omega)]
    rw [e99]
    exact ⟨Or.inl rfl, fun q => absurd q (by show ¬ (99 : Int) = 0; decide), fun _ => rfl⟩
  · have e : pMd g h x y w = (g, z) := by
      unfold pMd
      rw [n2 pz q, if_pos (by omega)]
    rw [e]
    refine ⟨Or.inr ⟨by rw [e163]; exact h1, fun q => absurd h0 q, fun _ => ⟨by rw [e163]; exact T, by rw [e163]; exact b1, by rw [e162]; exact b2, by rw [e163]; exact b3, E.su hm m1 f s C⟩⟩, fun _ => rfl, fun q => by omega⟩
  · have e : pMd g h x y w = (chT g 800 126 (g 165 126) h (if 0 < par g h then x else -1) (if 1 < par g h then y else -1) (if 2 < par g h then w else -1) (pdp g h x y w), g 165 126) := by
      unfold pMd
      rw [n1 q2, if_neg (by omega), if_pos (by omega)]
    have e1 : J' 1 = J 1 := f 1 rfl
    have e3 : J' 3 = J 3 := f 3 rfl
    have d1 := ct_dpT C1 (by omega) (by rw [e1]; exact hh.2) q4
    have d2 : dpT J' h a b c = dpT J h a b c := by
      show dpS (J' 12) (arh (J' 3) h) a b c = dpS (J 12) (arh (J 3) h) a b c
      rw [e3]
      exact dpS_cg (fun k => (s.1 a (hr.1 k).1 (hr.1 k).2).2.2.2.2.1) (fun k => (s.1 b (hr.2.1 k).1 (hr.2.1 k).2).2.2.2.2.1) (fun k => (s.1 c (hr.2.2 k).1 (hr.2.2 k).2).2.2.2.2.1)
    have N := E.nw hm m1 f s C C1 hh.2 hx q4 (by rw [d1, d2, hdp])
    rw [← e6, hm] at e
    rw [e]
    refine ⟨Or.inr ⟨by dsimp only; rw [e163, chT4 0 (by decide)]; exact h1, fun q => absurd h0 q, fun _ => ⟨by dsimp only; rw [e163, chT4 0 (by decide)]; exact T, by dsimp only; rw [e163, chT4 0 (by decide)]; exact b1, by dsimp only; rw [e162, chT4 1 (by decide)]; exact b2, by dsimp only; rw [e163, chT4 164 (by decide)]; exact b3, N⟩⟩, fun _ => pz, fun q => by omega⟩
