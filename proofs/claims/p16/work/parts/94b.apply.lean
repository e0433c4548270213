/-! ===== putting bindings in, as a function ===== -/
/-- an argument, if there is one -/
def apA (T : zJ → Int → zJ × Int) (G : zJ) (t A i : Int) : zJ × Int := if i < A then T G (G 167 (3 * (0 + t) + i)) else (G, 0)
/-- a term whose arguments are made anew by T -/
def ap0 (T : zJ → Int → zJ × Int) (G : zJ) (t : Int) : zJ × Int := apA T G t (oar G (G 166 (0 + t))) 0
def ap1 (T : zJ → Int → zJ × Int) (G : zJ) (t : Int) : zJ × Int := apA T (ap0 T G t).1 t (oar G (G 166 (0 + t))) 1
def ap2 (T : zJ → Int → zJ × Int) (G : zJ) (t : Int) : zJ × Int := apA T (ap1 T G t).1 t (oar G (G 166 (0 + t))) 2
noncomputable def apR (T : zJ → Int → zJ × Int) (G : zJ) (t : Int) : zJ × Int := tmO (ap2 T G t).1 (G 166 (0 + t)) (ap0 T G t).2 (ap1 T G t).2 (ap2 T G t).2
noncomputable def apO (β : Int → Int) : Nat → zJ → Int → zJ × Int
  | 0, G, _ => (zup G 164 21 1, 0)
  | k + 1, G, t => if G 164 21 = 0 then (if G 166 (0 + t) < 0 then (G, if β (-1 - G 166 (0 + t)) = -1 then t else β (-1 - G 166 (0 + t))) else apR (apO β k) G t) else (G, 0)
theorem apO_s {β : Int → Int} {k : Nat} {G : zJ} {t : Int} : apO β (k + 1) G t = if G 164 21 = 0 then (if G 166 (0 + t) < 0 then (G, if β (-1 - G 166 (0 + t)) = -1 then t else β (-1 - G 166 (0 + t))) else apR (apO β k) G t) else (G, 0) := rfl
theorem apO_f {β : Int → Int} {k : Nat} {G : zJ} {t : Int} (h : ¬ G 164 21 = 0) : ¬ (apO β k G t).1 164 21 = 0 := by
  cases k with
  | zero => show ¬ (1 : Int) = 0; decide
  | succ k => rw [apO_s, if_neg h]; exact h
theorem tmO_f {G : zJ} {h x y w : Int} (q : ¬ G 164 21 = 0) : tmO G h x y w = (G, 0) := by unfold tmO; rw [if_neg q]
/-- what the class answers, and where it is then -/
def EXO (F : zJ × Int) (z : Int) (J' : zJ) : Prop := (z = -3 ∧ ¬ F.1 164 21 = 0) ∨ (0 ≤ z ∧ F.1 164 21 = 0 ∧ A0 J' F.1 ∧ z = F.2)
/-- a stage of the arguments: z is an argument's answer, if there is one -/
def SGE (r : zJ × Int) (J1 : zJ) (z A i : Int) : Prop := r.1 164 21 = 0 ∧ A0 J1 r.1 ∧ (i < A → 0 ≤ z ∧ z = r.2)
theorem sg_st {T : zJ → Int → zJ × Int} {G J1 J : zJ} {t A i z m : Int} (hG : G 164 21 = 0) (E : A0 J G) (hm : J 6 12 = m) (ht : 0 ≤ t ∧ t < m) (hi : 0 ≤ i) (hA : J 8 t = A) (h : (i < A ∧ (∀ S, S 164 21 = 0 → A0 J S → EXO (T S (J 9 (t * 3 + i))) z J1)) ∨ (¬ i < A ∧ J1 = J)) : (i < A ∧ z = -3 ∧ ¬ (apA T G t A i).1 164 21 = 0) ∨ SGE (apA T G t A i) J1 z A i := by
  unfold apA
  rcases h with ⟨h1, h2⟩ | ⟨h1, h2⟩
  · have e : G 167 (3 * (0 + t) + i) = J 9 (t * 3 + i) := (E.2.2.2 t i ht.1 (by have := E.2.1; omega) hi (by omega)).symm
    rw [if_pos h1, e]
    rcases h2 G hG E with ⟨q1, q2⟩ | ⟨q1, q2, q3, q4⟩
    · exact Or.inl ⟨h1, q1, q2⟩
    · exact Or.inr ⟨q2, q3, fun _ => ⟨q1, q4⟩⟩
  · rw [if_neg h1, h2]
    exact Or.inr ⟨hG, E, fun q => absurd q h1⟩
theorem apA_f {T : zJ → Int → zJ × Int} (hT : ∀ S t, ¬ S 164 21 = 0 → ¬ (T S t).1 164 21 = 0) {G : zJ} {t A i : Int} (h : ¬ G 164 21 = 0) : ¬ (apA T G t A i).1 164 21 = 0 := by
  unfold apA
  split
  · exact hT _ _ h
  · exact h
theorem made_neg {J J' : zJ} {m h a b c z : Int} (p : madeP J m h a b c z J') (q : ¬ okA (arh (J 3) h) a b c) : z = -3 := by
  obtain ⟨_, _, p⟩ := p
  rcases p with ⟨⟨pz, _⟩, _⟩ | ⟨⟨_, _, k⟩, _⟩ | ⟨⟨_, _, _, k, _⟩, _⟩
  · exact pz
  · exact absurd k q
  · exact absurd k q
/-- what an argument's call tells (or that there is none) -/
def ARG (T : zJ → Int → zJ × Int) (J1 J : zJ) (t i z m m1 : Int) : Prop := (i < J 8 t ∧ GR J1 J m m1 ∧ (z = -3 ∨ (0 ≤ z ∧ z < m1)) ∧ (∀ S, S 164 21 = 0 → A0 J S → EXO (T S (J 9 (t * 3 + i))) z J1)) ∨ (¬ i < J 8 t ∧ J1 = J ∧ m1 = m)
theorem ARG.gr {T : zJ → Int → zJ × Int} {J1 J : zJ} {t i z m m1 : Int} (a : ARG T J1 J t i z m m1) (C : CT J m) (hm : J 6 12 = m) : GR J1 J m m1 := by
  rcases a with ⟨_, g, _⟩ | ⟨_, e, e'⟩
  · exact g
  · rw [e, e']; exact GR.rf C hm
theorem ap_end {T : zJ → Int → zJ × Int} (hT : ∀ S t, ¬ S 164 21 = 0 → ¬ (T S t).1 164 21 = 0) {G J J0 J1 J2 J' : zJ} {t m m0 m1 m2 z0 z1 z2 z : Int} (hG : G 164 21 = 0) (E : A0 J G) (C : CT J m) (hm : J 6 12 = m) (ht : 0 ≤ t ∧ t < m) (a0 : ARG T J0 J t 0 z0 m m0) (a1 : ARG T J1 J0 t 1 z1 m0 m1) (a2 : ARG T J2 J1 t 2 z2 m1 m2) (p : madeP J2 m2 (J 7 t) z0 z1 z2 z J') : EXO (apR T G t) z J' := by
  have g0 := a0.gr C hm
  have g1 := a1.gr g0.2.1 g0.2.2.1
  have g2 := a2.gr g1.2.1 g1.2.2.1
  have g20 := (g0.tr g1).tr g2
  have l0 := g0.1
  have l1 := g1.1
  have l2 := g2.1
  have e8 := (C.2.1 t ht.1 ht.2).1.1
  have hd := (C.ar ht.1 ht.2).2.2
  have eh : G 166 (0 + t) = J 7 t := (E.2.2.1 t ht.1 (by have := E.2.1; omega)).1.symm
  have eA : oar G (G 166 (0 + t)) = J 8 t := by rw [eh, E.ar hd.2, e8]
  have k0 : J0 8 t = J 8 t := (g0.2.2.2.1.1 t ht.1 ht.2).2.1
  have k1 : J1 8 t = J 8 t := ((g0.tr g1).2.2.2.1.1 t ht.1 ht.2).2.1
  have e3 : J2 3 = J 3 := g20.2.2.2.2 3 rfl
  have e1 : J2 1 = J 1 := g20.2.2.2.2 1 rfl
  have ea : arh (J2 3) (J 7 t) = J 8 t := by rw [e3, e8]
  have st0 : (0 < J 8 t ∧ z0 = -3 ∧ ¬ (ap0 T G t).1 164 21 = 0) ∨ SGE (ap0 T G t) J0 z0 (J 8 t) 0 := by
    have := sg_st (T := T) (J1 := J0) (z := z0) hG E hm ht (i := 0) (by decide) rfl (a0.imp (fun q => ⟨q.1, q.2.2.2⟩) (fun q => ⟨q.1, q.2.1⟩))
    unfold ap0
    rw [eA]
    exact this
  have st1 : ((0 < J 8 t ∧ z0 = -3) ∨ (1 < J 8 t ∧ z1 = -3)) ∧ ¬ (ap1 T G t).1 164 21 = 0 ∨ (SGE (ap0 T G t) J0 z0 (J 8 t) 0 ∧ SGE (ap1 T G t) J1 z1 (J 8 t) 1) := by
    unfold ap1
    rw [eA]
    rcases st0 with ⟨q1, q2, q3⟩ | q
    · exact Or.inl ⟨Or.inl ⟨q1, q2⟩, apA_f hT q3⟩
    · have := sg_st (T := T) (J1 := J1) (z := z1) q.1 q.2.1 g0.2.2.1 ⟨ht.1, by omega⟩ (i := 1) (by decide) k0 (by rw [← k0]; exact a1.imp (fun q => ⟨q.1, q.2.2.2⟩) (fun q => ⟨q.1, q.2.1⟩))
      rcases this with ⟨r1, r2, r3⟩ | r
      · exact Or.inl ⟨Or.inr ⟨r1, r2⟩, r3⟩
      · exact Or.inr ⟨q, r⟩
  have st2 : ((0 < J 8 t ∧ z0 = -3) ∨ (1 < J 8 t ∧ z1 = -3) ∨ (2 < J 8 t ∧ z2 = -3)) ∧ ¬ (ap2 T G t).1 164 21 = 0 ∨ (SGE (ap0 T G t) J0 z0 (J 8 t) 0 ∧ SGE (ap1 T G t) J1 z1 (J 8 t) 1 ∧ SGE (ap2 T G t) J2 z2 (J 8 t) 2) := by
    unfold ap2
    rw [eA]
    rcases st1 with ⟨q1, q3⟩ | ⟨q0, q⟩
    · exact Or.inl ⟨q1.imp id Or.inl, apA_f hT q3⟩
    · have := sg_st (T := T) (J1 := J2) (z := z2) q.1 q.2.1 g1.2.2.1 ⟨ht.1, by omega⟩ (i := 2) (by decide) k1 (by rw [← k1]; exact a2.imp (fun q => ⟨q.1, q.2.2.2⟩) (fun q => ⟨q.1, q.2.1⟩))
      rcases this with ⟨r1, r2, r3⟩ | r
      · exact Or.inl ⟨Or.inr (Or.inr ⟨r1, r2⟩), r3⟩
      · exact Or.inr ⟨q0, q, r⟩
  unfold apR
  rcases st2 with ⟨q1, q2⟩ | ⟨q0, q1, q2⟩
  · refine Or.inl ⟨made_neg p (fun k => ?_), ?_⟩
    · rw [ea] at k
      obtain ⟨k0, k1, k2⟩ := k
      rcases q1 with ⟨u, v⟩ | ⟨u, v⟩ | ⟨u, v⟩
      · have := k0 u; omega
      · have := k1 u; omega
      · have := k2 u; omega
    · rw [tmO_f q2]; exact q2
  · have b0 : 0 < J 8 t → 0 ≤ z0 ∧ z0 < m2 := fun u => by
      have r := q0.2.2 u
      rcases a0 with ⟨_, _, w, _⟩ | ⟨w, _⟩
      · omega
      · omega
    have b1 : 1 < J 8 t → 0 ≤ z1 ∧ z1 < m2 := fun u => by
      have r := q1.2.2 u
      rcases a1 with ⟨_, _, w, _⟩ | ⟨w, _⟩
      · omega
      · omega
    have b2 : 2 < J 8 t → 0 ≤ z2 ∧ z2 < m2 := fun u => by
      have r := q2.2.2 u
      rcases a2 with ⟨_, _, w, _⟩ | ⟨w, _⟩
      · omega
      · omega
    rw [eh]
    have := q2.2.1.made q2.1 g2.2.1 g2.2.2.1 (h := J 7 t) (a := z0) (b := z1) (c := z2) (x := (ap0 T G t).2) (y := (ap1 T G t).2) (w := (ap2 T G t).2) (by rw [e1]; exact hd) (by rw [ea]; exact ⟨fun u => (q0.2.2 u).2, fun u => (q1.2.2 u).2, fun u => (q2.2.2 u).2⟩) (by rw [ea]; exact ⟨b0, b1, b2⟩) p
    exact this.imp (fun u => ⟨u.1.2, u.2⟩) id
