/-! ===== terms at hand: one function for both sides ===== -/
/-- the reference's tables, and nothing else -/
def tb0 (J : zJ) : zJ := fun c k => if c = 164 then (if k = 9 ∨ k = 21 then J 164 k else 0) else if c = 165 then (if 0 ≤ k ∧ k < 63 then J 165 k else 0) else if c = 166 ∨ c = 168 then (if 0 ≤ k ∧ k < 400 then J c k else 0) else if c = 167 then (if 0 ≤ k ∧ k < 1200 then J 167 k else 0) else if c = 169 ∨ c = 170 ∨ c = 171 then (if 0 ≤ k ∧ k < 10 then J c k else 0) else 0
theorem tb0_4 {J : zJ} {k : Int} : tb0 J 164 k = if k = 9 ∨ k = 21 then J 164 k else 0 := rfl
theorem tb0_5 {J : zJ} {k : Int} : tb0 J 165 k = if 0 ≤ k ∧ k < 63 then J 165 k else 0 := rfl
theorem tb0_6 {J : zJ} {k : Int} : tb0 J 166 k = if 0 ≤ k ∧ k < 400 then J 166 k else 0 := rfl
theorem tb0_8 {J : zJ} {k : Int} : tb0 J 168 k = if 0 ≤ k ∧ k < 400 then J 168 k else 0 := rfl
theorem tb0_7 {J : zJ} {k : Int} : tb0 J 167 k = if 0 ≤ k ∧ k < 1200 then J 167 k else 0 := rfl
theorem tb0_0 {J : zJ} {k : Int} : tb0 J 170 k = if 0 ≤ k ∧ k < 10 then J 170 k else 0 := rfl
theorem tb0_9 {J : zJ} : tb0 J 164 9 = J 164 9 := rfl
theorem tb0_of {J' J : zJ} (e9 : J' 164 9 = J 164 9) (e21 : J' 164 21 = J 164 21) (e5 : ∀ k, 0 ≤ k → k < 63 → J' 165 k = J 165 k) (e6 : ∀ k, 0 ≤ k → k < 400 → J' 166 k = J 166 k ∧ J' 168 k = J 168 k) (e7 : ∀ k, 0 ≤ k → k < 1200 → J' 167 k = J 167 k) (e0 : ∀ k, 0 ≤ k → k < 10 → J' 169 k = J 169 k ∧ J' 170 k = J 170 k ∧ J' 171 k = J 171 k) : tb0 J' = tb0 J := by
  funext c k
  unfold tb0
  by_cases h4 : c = 164
  · rw [if_pos h4, if_pos h4]
    by_cases q : k = 9 ∨ k = 21
    · rw [if_pos q, if_pos q]
      rcases q with q | q
      · rw [q]; exact e9
      · rw [q]; exact e21
    · rw [if_neg q, if_neg q]
  rw [if_neg h4, if_neg h4]
  by_cases h5 : c = 165
  · rw [if_pos h5, if_pos h5]
    split
    · next q => exact e5 k q.1 q.2
    · rfl
  rw [if_neg h5, if_neg h5]
  by_cases h6 : c = 166 ∨ c = 168
  · rw [if_pos h6, if_pos h6]
    split
    · next q =>
      rcases h6 with h6 | h6
      · rw [h6]; exact (e6 k q.1 q.2).1
      · rw [h6]; exact (e6 k q.1 q.2).2
    · rfl
  rw [if_neg h6, if_neg h6]
  by_cases h7 : c = 167
  · rw [if_pos h7, if_pos h7]
    split
    · next q => exact e7 k q.1 q.2
    · rfl
  rw [if_neg h7, if_neg h7]
  split
  · next h9 =>
    split
    · next q =>
      rcases h9 with h9 | h9 | h9
      · rw [h9]; exact (e0 k q.1 q.2).1
      · rw [h9]; exact (e0 k q.1 q.2).2.1
      · rw [h9]; exact (e0 k q.1 q.2).2.2
    · rfl
  · rfl
theorem tb0_fu {J : zJ} : tb0 (zup J 164 21 1) = zup (tb0 J) 164 21 1 := by
  funext c k
  by_cases h4 : c = 164
  · subst h4
    show (if k = 9 ∨ k = 21 then (if k = 21 then (1 : Int) else J 164 k) else 0) = if k = 21 then 1 else if k = 9 ∨ k = 21 then J 164 k else 0
    (repeat' split) <;> first | rfl | omega
  · rw [zup_nc h4]
    unfold tb0
    rw [if_neg h4, if_neg h4]
    have e : ∀ d, ¬ d = 164 → zup J 164 21 1 d = J d := fun d q => zup_nc q
    rw [e 165 (by decide), e 167 (by decide), e c h4]
/-- arity, place, depth of a term that may come -/
def oar (G : zJ) (h : Int) : Int := arh (fun k => G 170 (0 + k)) h
noncomputable def ofi (G : zJ) (h x y w : Int) : Int := fnB (fun q => dcB (¬ nmT G 0 (oar G h) h x y w q)) (G 165 0) 0
def odp (G : zJ) (h x y w : Int) : Int := dpS (fun t => G 168 (0 + t)) (oar G h) x y w
/-- the term of a head and arguments, which comes if it isn't there; full is told aside -/
noncomputable def tmO (G : zJ) (h x y w : Int) : zJ × Int := if G 164 21 = 0 then (if ofi G h x y w < G 165 0 then (G, ofi G h x y w) else if odp G h x y w ≤ 6 ∧ G 165 0 < 400 then (chT G 0 0 (G 165 0) h (if 0 < oar G h then x else -1) (if 1 < oar G h then y else -1) (if 2 < oar G h then w else -1) (odp G h x y w), G 165 0) else (zup G 164 21 1, 0)) else (G, 0)
theorem tb0_ch {J : zJ} {m h a b c d : Int} (hm : 0 ≤ m ∧ m < 400) (h21 : J 164 21 = 0) : tb0 (chT (zup J 164 21 0) 0 0 m h a b c d) = chT (tb0 J) 0 0 m h a b c d := by
  have e4 : chT (zup J 164 21 0) 0 0 m h a b c d 164 = zup J 164 21 0 164 := chT4 164 (by decide)
  have ez : ∀ q, ¬ q = 164 → zup J 164 21 0 q = J q := fun q k => zup_nc k
  funext q k
  by_cases h4 : q = 164
  · subst h4
    rw [tb0_4, e4, chT4 164 (by decide), tb0_4]
    show (if k = 9 ∨ k = 21 then (if k = 21 then (0 : Int) else J 164 k) else 0) = _
    (repeat' split) <;> first | rfl | omega | (next u => rw [u]; exact h21.symm)
  by_cases h5 : q = 165
  · subst h5
    rw [tb0_5, chT_5, chT_5, tb0_5, ez 165 (by decide)]
    (repeat' split) <;> first | rfl | omega
  by_cases h6 : q = 166
  · subst h6
    rw [tb0_6, chT_6, chT_6, tb0_6, ez 166 (by decide)]
    (repeat' split) <;> first | rfl | omega
  by_cases h8 : q = 168
  · subst h8
    rw [tb0_8, chT_8, chT_8, tb0_8, ez 168 (by decide)]
    (repeat' split) <;> first | rfl | omega
  by_cases h7 : q = 167
  · subst h7
    rw [tb0_7, chT_7, chT_7, tb0_7, ez 167 (by decide)]
    (repeat' split) <;> first | rfl | omega
  rw [chT4 q ⟨h5, h6, h7, h8⟩]
  have h68 : ¬ (q = 166 ∨ q = 168) := by omega
  unfold tb0
  rw [if_neg h4, if_neg h4, if_neg h5, if_neg h5, if_neg h68, if_neg h68, if_neg h7, if_neg h7, chT4 q ⟨h5, h6, h7, h8⟩, ez q h4]
/-- what the reference's termOf does, at base 0 -/
theorem o_tm {J' J : zJ} {s m A h x y w z : Int} (hM : MS J 0 0 0 s m) (hs : J 164 9 = s) (hA : arh (fun k => J 170 (0 + k)) h = A) (hh : -8 ≤ h ∧ h < s) (h21 : J 164 21 = 0) (hx : (0 < A → 0 ≤ x ∧ x < m) ∧ (1 < A → 0 ≤ y ∧ y < m) ∧ (2 < A → 0 ≤ w ∧ w < m)) (t : tmX J J' 0 0 m A h x y w z) : tb0 J' = (tmO (tb0 J) h x y w).1 ∧ z = (tmO (tb0 J) h x y w).2 := by
  have hT := hM.told
  have hm : tb0 J 165 0 = m := hM.2.2.2.2.1
  have hp : oar (tb0 J) h = A := by
    rw [← hA]
    exact arh_cg (fun q => by rw [tb0_0, if_pos (by omega)])
  have hn : ∀ q, 0 ≤ q → q < m → (nmT J 0 A h x y w q ↔ nmT (tb0 J) 0 A h x y w q) := fun q a c => nmT_cg (by rw [tb0_6, if_pos (by omega)]) (fun i u v => by rw [tb0_7, if_pos (by omega)])
  have hd : odp (tb0 J) h x y w = dpS (fun t => J 168 (0 + t)) A x y w := by
    unfold odp
    rw [hp]
    exact dpS_cg (fun q => by rw [tb0_8, if_pos (by have := hx.1 q; omega)]) (fun q => by rw [tb0_8, if_pos (by have := hx.2.1 q; omega)]) (fun q => by rw [tb0_8, if_pos (by have := hx.2.2 q; omega)])
  have h0 : tb0 J 164 21 = 0 := h21
  unfold tmO
  rw [if_pos h0]
  rcases t with ⟨q, hq, t1, t2, t3⟩ | ⟨t1, t2⟩
  · have hf : ofi (tb0 J) h x y w = q := by
      unfold ofi
      rw [hm, hp]
      refine fnB_eq hq.1 (by omega) (fun j a c => dcB_t (fun e => ?_)) (Or.inr (dcB_f (fun e => e ((hn q hq.1 hq.2).1 t1))))
      have u := (hn j a (by omega)).2 e
      subst hA
      have := nmT_u hM hh.2 ⟨a, by omega⟩ hq u t1
      omega
    rw [hf, hm, if_pos hq.2]
    subst t3
    exact ⟨rfl, t2⟩
  · have hf : ofi (tb0 J) h x y w = m := by
      unfold ofi
      rw [hm, hp]
      exact fnB_eq hT.2.1.1 (Int.le_refl _) (fun j a c => dcB_t (fun e => t1 j a c ((hn j a c).2 e))) (Or.inl rfl)
    rw [hf, hm, if_neg (by omega), hd, hp]
    rcases t2 with ⟨u1, u2, u3, u4⟩ | ⟨u1, u2, u3⟩
    · rw [if_pos ⟨u1, u2⟩, u4]
      exact ⟨tb0_ch ⟨hT.2.1.1, u2⟩ h21, u3⟩
    · rw [if_neg (by omega), u3]
      exact ⟨tb0_fu, u2⟩
/-- the class's tables are those -/
def A0 (J g : zJ) : Prop := (J 1 3 = g 164 9 ∧ ∀ k, 0 ≤ k → k < g 164 9 → J 2 k = g 169 (0 + k) ∧ J 3 k = g 170 (0 + k) ∧ J 4 k = g 171 (0 + k)) ∧ (J 6 12 = g 165 0 ∧ (∀ t, 0 ≤ t → t < g 165 0 → J 7 t = g 166 (0 + t) ∧ J 12 t = g 168 (0 + t)) ∧ (∀ t i, 0 ≤ t → t < g 165 0 → 0 ≤ i → i < J 8 t → J 9 (t * 3 + i) = g 167 (3 * (0 + t) + i)))
theorem A0.ar {J g : zJ} {h : Int} (E : A0 J g) (hh : h < J 1 3) : oar g h = arh (J 3) h := (arh_cg (fun q => (E.1.2 h q (by have := E.1.1; omega)).2.1)).symm
theorem A0.nm {J g : zJ} {m h a b c x y w q : Int} (E : A0 J g) (C : CT J m) (hm : J 6 12 = m) (hx : (0 < arh (J 3) h → a = x) ∧ (1 < arh (J 3) h → b = y) ∧ (2 < arh (J 3) h → c = w)) (hq : 0 ≤ q ∧ q < m) : nmT g 0 (arh (J 3) h) h x y w q ↔ isT J q h a b c := by
  obtain ⟨x0, x1, x2⟩ := hx
  have e6 := E.2.1
  have e7 := (E.2.2.1 q hq.1 (by omega)).1
  have e8 := (C.2.1 q hq.1 hq.2).1.1
  have e9 := fun i => E.2.2.2 q i hq.1 (by omega)
  constructor
  · rintro ⟨n0, n1, n2, n3⟩
    have h7 : J 7 q = h := e7.trans n0
    rw [h7] at e8
    exact ⟨h7, fun p => (e9 0 (by decide) (by omega)).trans ((n1 p).trans (x0 p).symm), fun p => (e9 1 (by decide) (by omega)).trans ((n2 p).trans (x1 p).symm), fun p => (e9 2 (by decide) (by omega)).trans ((n3 p).trans (x2 p).symm)⟩
  · rintro ⟨h7, n1, n2, n3⟩
    rw [h7] at e8
    exact ⟨e7.symm.trans h7, fun p => (e9 0 (by decide) (by omega)).symm.trans ((n1 p).trans (x0 p)), fun p => (e9 1 (by decide) (by omega)).symm.trans ((n2 p).trans (x1 p)), fun p => (e9 2 (by decide) (by omega)).symm.trans ((n3 p).trans (x2 p))⟩
theorem A0.dp {J g : zJ} {m h a b c x y w : Int} (E : A0 J g) (hm : J 6 12 = m) (hh : h < J 1 3) (hx : (0 < arh (J 3) h → a = x) ∧ (1 < arh (J 3) h → b = y) ∧ (2 < arh (J 3) h → c = w)) (hr : (0 < arh (J 3) h → 0 ≤ a ∧ a < m) ∧ (1 < arh (J 3) h → 0 ≤ b ∧ b < m) ∧ (2 < arh (J 3) h → 0 ≤ c ∧ c < m)) : odp g h x y w = dpT J h a b c := by
  have e6 := E.2.1
  unfold odp
  rw [E.ar hh]
  have e : ∀ u, 0 ≤ u ∧ u < m → J 12 u = g 168 (0 + u) := fun u q => (E.2.2.1 u q.1 (by omega)).2
  show dpS _ _ _ _ _ = dpS (J 12) (arh (J 3) h) a b c
  have r0 : 0 < arh (J 3) h → g 168 (0 + x) = J 12 a := fun p => by rw [← hx.1 p]; exact (e a (hr.1 p)).symm
  have r1 : 1 < arh (J 3) h → g 168 (0 + y) = J 12 b := fun p => by rw [← hx.2.1 p]; exact (e b (hr.2.1 p)).symm
  have r2 : 2 < arh (J 3) h → g 168 (0 + w) = J 12 c := fun p => by rw [← hx.2.2 p]; exact (e c (hr.2.2 p)).symm
  unfold dpS
  dsimp only
  split
  · rfl
  · rw [r0 (by omega)]
    split
    · rfl
    · rw [r1 (by omega)]
      split
      · rfl
      · rw [r2 (by omega)]
theorem A0.su {J' J g : zJ} {m : Int} (E : A0 J g) (hm : J 6 12 = m) (hm' : J' 6 12 = m) (f : zOf (zbut [6, 7, 8, 9, 10, 11, 12, 13, 14, 15, 16, 17]) J' J) (s : zSU J' J m) (C : CT J m) : A0 J' g := by
  obtain ⟨E1, ⟨e6, E2, E3⟩⟩ := E
  unfold A0
  rw [f 1 rfl, f 2 rfl, f 3 rfl, f 4 rfl]
  refine ⟨E1, ⟨by omega, fun t a b => ?_, fun t i a b x y => ?_⟩⟩
  · have q := s.1 t a (by omega)
    rw [q.1, q.2.2.2.2.1]
    exact E2 t a b
  · have q := s.1 t a (by omega)
    rw [q.2.1] at y
    have := (C.ar a (by omega)).1
    rw [s.2 (t * 3 + i) (by omega) (by omega)]
    exact E3 t i a b x y
theorem A0.nw {J' J g : zJ} {m h a b c x y w : Int} (E : A0 J g) (hm : J 6 12 = m) (hm' : J' 6 12 = m + 1) (f : zOf (zbut [6, 7, 8, 9, 10, 11, 12, 13, 14, 15, 16, 17]) J' J) (s : zSU J' J m) (C : CT J m) (C' : CT J' (m + 1)) (hh : h < J 1 3) (hx : (0 < arh (J 3) h → a = x) ∧ (1 < arh (J 3) h → b = y) ∧ (2 < arh (J 3) h → c = w)) (hi : isT J' m h a b c) (hd : J' 12 m = odp g h x y w) : A0 J' (chT g 0 0 m h (if 0 < oar g h then x else -1) (if 1 < oar g h then y else -1) (if 2 < oar g h then w else -1) (odp g h x y w)) := by
  have hA := E.ar hh
  have t0 := C.told
  obtain ⟨E1, ⟨e6, E2, E3⟩⟩ := E
  have e8 := (C'.2.1 m (by omega) (by omega)).1.1
  rw [hi.1, f 3 rfl] at e8
  obtain ⟨i7, i0, i1, i2⟩ := hi
  rw [f 3 rfl] at i0 i1 i2
  have hA3 := arh_rg C.1.1.1 hh
  unfold A0
  rw [f 1 rfl, f 2 rfl, f 3 rfl, f 4 rfl, chT4 164 (by decide), chT4 169 (by decide), chT4 170 (by decide), chT4 171 (by decide), hA]
  have n6 : chT g 0 0 m h (if 0 < arh (J 3) h then x else -1) (if 1 < arh (J 3) h then y else -1) (if 2 < arh (J 3) h then w else -1) (odp g h x y w) 165 0 = m + 1 := by rw [chT_5, if_pos rfl]
  rw [n6]
  refine ⟨E1, ⟨hm', fun t p q => ?_, fun t i p q u v => ?_⟩⟩
  · rw [chT_6, chT_8]
    by_cases et : t = m
    · subst et
      rw [if_pos rfl, if_pos rfl]
      exact ⟨i7, hd⟩
    · rw [if_neg (by omega), if_neg (by omega)]
      have r := s.1 t p (by omega)
      rw [r.1, r.2.2.2.2.1]
      exact E2 t p (by omega)
  · rw [chT_7]
    by_cases et : t = m
    · subst et
      rw [e8] at v
      have h3 : i = 0 ∨ i = 1 ∨ i = 2 := by omega
      rcases h3 with rfl | rfl | rfl
      · rw [if_neg (by omega), if_neg (by omega), if_pos (by omega), if_pos v, i0 v]
        exact hx.1 v
      · rw [if_neg (by omega), if_pos (by omega), if_pos v, i1 v]
        exact hx.2.1 v
      · rw [if_pos (by omega), if_pos v, i2 v]
        exact hx.2.2 v
    · have r := s.1 t p (by omega)
      rw [r.2.1] at v
      have := (C.ar p (by omega)).1
      rw [if_neg (by omega), if_neg (by omega), if_neg (by omega), s.2 (t * 3 + i) (by omega) (by omega)]
      exact E3 t i p (by omega) u v
/-- made by the class, made by the function -/
theorem A0.made {J' J g : zJ} {m h a b c x y w z : Int} (E : A0 J g) (h0 : g 164 21 = 0) (C : CT J m) (hm : J 6 12 = m) (hh : -8 ≤ h ∧ h < J 1 3) (hx : (0 < arh (J 3) h → a = x) ∧ (1 < arh (J 3) h → b = y) ∧ (2 < arh (J 3) h → c = w)) (hr : (0 < arh (J 3) h → 0 ≤ a ∧ a < m) ∧ (1 < arh (J 3) h → 0 ≤ b ∧ b < m) ∧ (2 < arh (J 3) h → 0 ≤ c ∧ c < m)) (p : madeP J m h a b c z J') : ((z < 0 ∧ z = -3) ∧ ¬ (tmO g h x y w).1 164 21 = 0) ∨ (0 ≤ z ∧ (tmO g h x y w).1 164 21 = 0 ∧ A0 J' (tmO g h x y w).1 ∧ z = (tmO g h x y w).2) := by
  obtain ⟨f, s, p⟩ := p
  have t0 := C.told
  have e6 := E.2.1
  have hA := E.ar hh.2
  have hdp := E.dp hm hh.2 hx hr
  have n1 : NST J m h a b c → ofi g h x y w = g 165 0 := fun q => by
    unfold ofi
    refine fnB_eq (by omega) (Int.le_refl _) (fun t u v => dcB_t (fun k => q t u (by omega) ?_)) (Or.inl rfl)
    rw [hA] at k
    exact (E.nm C hm hx (by omega)).1 k
  have n2 : (0 ≤ z ∧ z < m) → isT J z h a b c → ofi g h x y w = z := fun r q => by
    unfold ofi
    refine fnB_eq r.1 (by omega) (fun t u v => dcB_t (fun k => ?_)) (Or.inr (dcB_f (fun k => k ?_)))
    · rw [hA] at k
      have := isT_u C hh.2 (q := t) (q' := z) (by omega) r ((E.nm C hm hx (by omega)).1 k) q
      omega
    · rw [hA]
      exact (E.nm C hm hx r).2 q
  unfold tmO
  rw [if_pos h0]
  rcases p with ⟨⟨pz, q⟩, m1, C1⟩ | ⟨⟨pz, q, _⟩, m1, C1⟩ | ⟨⟨pz, q1, q2, _, q3⟩, m1, C1, q4⟩
  · refine Or.inl ⟨by omega, ?_⟩
    rcases q with q | ⟨q, v⟩
    · exact absurd ⟨fun k => (hr.1 k).1, fun k => (hr.2.1 k).1, fun k => (hr.2.2 k).1⟩ q
    · rw [n1 q, if_neg (by omega), hdp, if_neg (by omega)]
      show ¬ (1 : Int) = 0
      decide
  · rw [n2 pz q, if_pos (by omega)]
    exact Or.inr ⟨pz.1, h0, E.su hm m1 f s C, rfl⟩
  · rw [n1 q2, if_neg (by omega), if_pos (by omega)]
    have e1 : J' 1 = J 1 := f 1 rfl
    have e3 : J' 3 = J 3 := f 3 rfl
    have d1 := ct_dpT C1 (by omega) (by rw [e1]; exact hh.2) q4
    have d2 : dpT J' h a b c = dpT J h a b c := by
      show dpS (J' 12) (arh (J' 3) h) a b c = dpS (J 12) (arh (J 3) h) a b c
      rw [e3]
      exact dpS_cg (fun k => (s.1 a (hr.1 k).1 (hr.1 k).2).2.2.2.2.1) (fun k => (s.1 b (hr.2.1 k).1 (hr.2.1 k).2).2.2.2.2.1) (fun k => (s.1 c (hr.2.2 k).1 (hr.2.2 k).2).2.2.2.2.1)
    have N := E.nw hm m1 f s C C1 hh.2 hx q4 (by rw [d1, d2, hdp])
    rw [← e6, hm]
    refine Or.inr ⟨by omega, ?_, N, pz⟩
    dsimp only
    rw [chT4 164 (by decide)]
    exact h0
