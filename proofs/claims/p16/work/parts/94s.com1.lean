/-! ===== a term whose arguments are made one after the other ===== -/
def gA (T : zJ → Int → zJ × Int) (G : zJ) (A i : Int) : zJ × Int := if i < A then T G i else (G, 0)
def gst (T : zJ → Int → zJ × Int) (G : zJ) (A : Int) : Nat → zJ × Int
  | 0 => (G, 0)
  | i + 1 => gA T (gst T G A i).1 A i
theorem gst_s {T : zJ → Int → zJ × Int} {G : zJ} {A : Int} {i : Nat} : gst T G A (i + 1) = gA T (gst T G A i).1 A i := rfl
noncomputable def gR (T : zJ → Int → zJ × Int) (G : zJ) (h : Int) : zJ × Int := tmO (gst T G (oar G h) 3).1 h (gst T G (oar G h) 1).2 (gst T G (oar G h) 2).2 (gst T G (oar G h) 3).2
theorem gA_f {T : zJ → Int → zJ × Int} (hT : ∀ S i, ¬ S 164 21 = 0 → ¬ (T S i).1 164 21 = 0) {G : zJ} {A i : Int} (h : ¬ G 164 21 = 0) : ¬ (gA T G A i).1 164 21 = 0 := by
  unfold gA
  split
  · exact hT _ _ h
  · exact h
theorem gst_f {T : zJ → Int → zJ × Int} (hT : ∀ S i, ¬ S 164 21 = 0 → ¬ (T S i).1 164 21 = 0) {G : zJ} {A : Int} {i : Nat} (h : ¬ (gst T G A i).1 164 21 = 0) : ∀ j, ¬ (gst T G A (i + j)).1 164 21 = 0
  | 0 => h
  | j + 1 => gA_f hT (gst_f hT h j)
theorem gR_f {T : zJ → Int → zJ × Int} {G : zJ} {h : Int} (q : ¬ (gst T G (oar G h) 3).1 164 21 = 0) : ¬ (gR T G h).1 164 21 = 0 := by
  unfold gR
  rw [tmO_f q]; exact q
theorem gg_st {T : zJ → Int → zJ × Int} {G J1 J : zJ} {A i z : Int} (hG : G 164 21 = 0) (E : A0 J G) (h : (i < A ∧ (∀ S, S 164 21 = 0 → A0 J S → EXO (T S i) z J1)) ∨ (¬ i < A ∧ J1 = J)) : (i < A ∧ z = -3 ∧ ¬ (gA T G A i).1 164 21 = 0) ∨ SGE (gA T G A i) J1 z A i := by
  unfold gA
  rcases h with ⟨h1, h2⟩ | ⟨h1, h2⟩
  · rw [if_pos h1]
    rcases h2 G hG E with ⟨q1, q2⟩ | ⟨q1, q2, q3, q4⟩
    · exact Or.inl ⟨h1, q1, q2⟩
    · exact Or.inr ⟨q2, q3, fun _ => ⟨q1, q4⟩⟩
  · rw [if_neg h1, h2]
    exact Or.inr ⟨hG, E, fun q => absurd q h1⟩
/-- what an argument's call tells (or that there is none) -/
def ARX (X : List Nat) (T : zJ → Int → zJ × Int) (J1 J : zJ) (A i z m m1 : Int) : Prop := (i < A ∧ GX X J1 J m m1 ∧ (z = -3 ∨ (0 ≤ z ∧ z < m1)) ∧ (∀ S, S 164 21 = 0 → A0 J S → EXO (T S i) z J1)) ∨ (¬ i < A ∧ J1 = J ∧ m1 = m)
theorem ARX.gr {X : List Nat} {T : zJ → Int → zJ × Int} {J1 J : zJ} {A i z m m1 : Int} (a : ARX X T J1 J A i z m m1) (C : CT J m) (hm : J 6 12 = m) : GX X J1 J m m1 := by
  rcases a with ⟨_, g, _⟩ | ⟨_, e, e'⟩
  · exact g
  · rw [e, e']; exact GX.rf C hm
theorem gp_end {X : List Nat} (hX : zbut (6 :: 7 :: 8 :: 9 :: 10 :: 11 :: 12 :: 13 :: 14 :: 15 :: 16 :: 17 :: X) 1 = true ∧ zbut (6 :: 7 :: 8 :: 9 :: 10 :: 11 :: 12 :: 13 :: 14 :: 15 :: 16 :: 17 :: X) 3 = true) {T : zJ → Int → zJ × Int} (hT : ∀ S i, ¬ S 164 21 = 0 → ¬ (T S i).1 164 21 = 0) {G J J0 J1 J2 J' : zJ} {h A m m0 m1 m2 z0 z1 z2 z : Int} (hG : G 164 21 = 0) (E : A0 J G) (C : CT J m) (hm : J 6 12 = m) (hh : -8 ≤ h ∧ h < J 1 3) (hA : arh (J 3) h = A) (a0 : ARX X T J0 J A 0 z0 m m0) (a1 : ARX X T J1 J0 A 1 z1 m0 m1) (a2 : ARX X T J2 J1 A 2 z2 m1 m2) (p : madeP J2 m2 h z0 z1 z2 z J') : EXO (gR T G h) z J' := by
  have g0 := a0.gr C hm
  have g1 := a1.gr g0.2.1 g0.2.2.1
  have g2 := a2.gr g1.2.1 g1.2.2.1
  have g20 := (g0.tr g1).tr g2
  have l0 := g0.1
  have l1 := g1.1
  have l2 := g2.1
  have eA : oar G h = A := (E.ar hh.2).trans hA
  have e3 : J2 3 = J 3 := g20.2.2.2.2 3 hX.2
  have e1 : J2 1 = J 1 := g20.2.2.2.2 1 hX.1
  have ea : arh (J2 3) h = A := by rw [e3, hA]
  have st0 : (0 < A ∧ z0 = -3 ∧ ¬ (gst T G A 1).1 164 21 = 0) ∨ SGE (gst T G A 1) J0 z0 A 0 := gg_st (T := T) (J1 := J0) (z := z0) (i := 0) hG E (a0.imp (fun q => ⟨q.1, q.2.2.2⟩) (fun q => ⟨q.1, q.2.1⟩))
  have st1 : ((0 < A ∧ z0 = -3) ∨ (1 < A ∧ z1 = -3)) ∧ ¬ (gst T G A 2).1 164 21 = 0 ∨ (SGE (gst T G A 1) J0 z0 A 0 ∧ SGE (gst T G A 2) J1 z1 A 1) := by
    rcases st0 with ⟨q1, q2, q3⟩ | q
    · exact Or.inl ⟨Or.inl ⟨q1, q2⟩, gA_f hT q3⟩
    · rcases gg_st (T := T) (J1 := J1) (z := z1) (i := 1) q.1 q.2.1 (a1.imp (fun q => ⟨q.1, q.2.2.2⟩) (fun q => ⟨q.1, q.2.1⟩)) with ⟨r1, r2, r3⟩ | r
      · exact Or.inl ⟨Or.inr ⟨r1, r2⟩, r3⟩
      · exact Or.inr ⟨q, r⟩
  have st2 : ((0 < A ∧ z0 = -3) ∨ (1 < A ∧ z1 = -3) ∨ (2 < A ∧ z2 = -3)) ∧ ¬ (gst T G A 3).1 164 21 = 0 ∨ (SGE (gst T G A 1) J0 z0 A 0 ∧ SGE (gst T G A 2) J1 z1 A 1 ∧ SGE (gst T G A 3) J2 z2 A 2) := by
    rcases st1 with ⟨q1, q3⟩ | ⟨q0, q⟩
    · exact Or.inl ⟨q1.imp id Or.inl, gA_f hT q3⟩
    · rcases gg_st (T := T) (J1 := J2) (z := z2) (i := 2) q.1 q.2.1 (a2.imp (fun q => ⟨q.1, q.2.2.2⟩) (fun q => ⟨q.1, q.2.1⟩)) with ⟨r1, r2, r3⟩ | r
      · exact Or.inl ⟨Or.inr (Or.inr ⟨r1, r2⟩), r3⟩
      · exact Or.inr ⟨q0, q, r⟩
  unfold gR
  rw [eA]
  rcases st2 with ⟨q1, q2⟩ | ⟨q0, q1, q2⟩
  · refine Or.inl ⟨made_neg p (fun k => ?_), ?_⟩
    · rw [ea] at k
      obtain ⟨k0, k1, k2⟩ := k
      rcases q1 with ⟨u, v⟩ | ⟨u, v⟩ | ⟨u, v⟩
      · have := k0 u; omega
      · have := k1 u; omega
      · have := k2 u; omega
    · rw [tmO_f q2]; exact q2
  · have b0 : 0 < A → 0 ≤ z0 ∧ z0 < m2 := fun u => by
      have r := q0.2.2 u
      rcases a0 with ⟨_, _, w, _⟩ | ⟨w, _⟩
      · omega
      · omega
    have b1 : 1 < A → 0 ≤ z1 ∧ z1 < m2 := fun u => by
      have r := q1.2.2 u
      rcases a1 with ⟨_, _, w, _⟩ | ⟨w, _⟩
      · omega
      · omega
    have b2 : 2 < A → 0 ≤ z2 ∧ z2 < m2 := fun u => by
      have r := q2.2.2 u
      rcases a2 with ⟨_, _, w, _⟩ | ⟨w, _⟩
      · omega
      · omega
    have := q2.2.1.made q2.1 g2.2.1 g2.2.2.1 (h := h) (a := z0) (b := z1) (c := z2) (x := (gst T G A 1).2) (y := (gst T G A 2).2) (w := (gst T G A 3).2) (by rw [e1]; exact hh) (by rw [ea]; exact ⟨fun u => (q0.2.2 u).2, fun u => (q1.2.2 u).2, fun u => (q2.2.2 u).2⟩) (by rw [ea]; exact ⟨b0, b1, b2⟩) p
    exact this.imp (fun u => ⟨u.1.2, u.2⟩) id
/-- what two terms have in common, by a list of all couples -/
noncomputable def coO (L : List (Int × Int)) : Nat → zJ → Int → Int → zJ × Int
  | 0, G, _, _ => (zup G 164 21 1, 0)
  | k + 1, G, s, t => if G 164 21 = 0 then (if G 166 (0 + s) < 0 ∨ ¬ G 166 (0 + s) = G 166 (0 + t) then tmO G (-1 - cix L s t) 0 0 0 else gR (fun H i => coO L k H (H 167 (3 * (0 + s) + i)) (H 167 (3 * (0 + t) + i))) G (G 166 (0 + s))) else (G, 0)
theorem coO_s {L : List (Int × Int)} {k : Nat} {G : zJ} {s t : Int} : coO L (k + 1) G s t = if G 164 21 = 0 then (if G 166 (0 + s) < 0 ∨ ¬ G 166 (0 + s) = G 166 (0 + t) then tmO G (-1 - cix L s t) 0 0 0 else gR (fun H i => coO L k H (H 167 (3 * (0 + s) + i)) (H 167 (3 * (0 + t) + i))) G (G 166 (0 + s))) else (G, 0) := rfl
theorem coO_f {L : List (Int × Int)} {k : Nat} {G : zJ} {s t : Int} (h : ¬ G 164 21 = 0) : ¬ (coO L k G s t).1 164 21 = 0 := by
  cases k with
  | zero => show ¬ (1 : Int) = 0; decide
  | succ k => rw [coO_s, if_neg h]; exact h
theorem coO_5 {L : List (Int × Int)} : ∀ (k : Nat) (S : zJ) (s t q : Int), ¬ q = 0 → (coO L k S s t).1 165 q = S 165 q
  | 0, _, _, _, _, _ => rfl
  | k + 1, S, s, t, q, h => by
    have a : ∀ i, (gst (fun H i => coO L k H (H 167 (3 * (0 + s) + i)) (H 167 (3 * (0 + t) + i))) S (oar S (S 166 (0 + s))) i).1 165 q = S 165 q := fun i => by
      induction i with
      | zero => rfl
      | succ i ih =>
        rw [gst_s]
        unfold gA
        split
        · rw [← ih]; exact coO_5 k _ _ _ q h
        · exact ih
    rw [coO_s]
    split
    · split
      · rw [tmO_5 h]
      · unfold gR
        rw [tmO_5 h, a]
    · rfl
