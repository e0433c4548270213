/-! ===== drawing, as a function ===== -/
theorem bv15 (x : BitVec 32) : (x >>> 16) &&& 32767#32 = (x.sshiftRight 16) &&& 32767#32 := by
  apply BitVec.eq_of_getLsbD_eq
  intro i hi
  rw [BitVec.getLsbD_and, BitVec.getLsbD_and, BitVec.getLsbD_ushiftRight, BitVec.getLsbD_sshiftRight]
  by_cases h8 : i < 15
  · rw [if_pos (by omega)]
    simp [show ¬ (32 ≤ i) by omega]
  · have : (32767#32).getLsbD i = false := by
      have : ∀ j : Fin 32, ¬ j.1 < 15 → (32767#32).getLsbD j.1 = false := by decide
      exact this ⟨i, hi⟩ h8
    rw [this, Bool.and_false, Bool.and_false]
theorem sh15 (x : Int32) : ((x.toUInt32 >>> ((Int32.ofInt 16).toUInt32 &&& Int32.toUInt32 31)).toInt32 &&& 32767) = ((x >>> (Int32.ofInt 16 &&& 31)) &&& 32767) := by
  apply Int32.toBitVec_inj.1
  exact bv15 x.toBitVec
theorem z32767 {a : Int} : zand (zushr a 16) 32767 = zand (zshr a 16) 32767 := by
  unfold zand zushr zshr
  rw [Int32.ofInt_toInt, Int32.ofInt_toInt]
  exact congrArg Int32.toInt (sh15 _)
def dwS (s : Int) : Int := zw (s * 1103515245 + 12345)
def dwN (s k : Int) : Int := zand (zshr s 16) 32767 % k
def dA (T : zJ → Int → (zJ × Int) × Int) (G : zJ) (s A i : Int) : (zJ × Int) × Int := if i < A then T G s else ((G, 0), s)
/-- a symbol's term, its arguments drawn by T -/
def dr0 (T : zJ → Int → (zJ × Int) × Int) (G : zJ) (s y : Int) : (zJ × Int) × Int := dA T G s (G 170 (0 + y)) 0
def dr1 (T : zJ → Int → (zJ × Int) × Int) (G : zJ) (s y : Int) : (zJ × Int) × Int := dA T (dr0 T G s y).1.1 (dr0 T G s y).2 (G 170 (0 + y)) 1
def dr2 (T : zJ → Int → (zJ × Int) × Int) (G : zJ) (s y : Int) : (zJ × Int) × Int := dA T (dr1 T G s y).1.1 (dr1 T G s y).2 (G 170 (0 + y)) 2
noncomputable def drR (T : zJ → Int → (zJ × Int) × Int) (G : zJ) (s y : Int) : (zJ × Int) × Int := (tmO (dr2 T G s y).1.1 y (dr0 T G s y).1.2 (dr1 T G s y).1.2 (dr2 T G s y).1.2, (dr2 T G s y).2)
noncomputable def drO : Nat → zJ → Int → (zJ × Int) × Int
  | 0, G, s => ((G, 0), s)
  | d + 1, G, s => if dwN (dwS s) 8 = 0 ∨ d = 0 ∨ G 164 9 = 0 then (tmO G (-1 - dwN (dwS (dwS s)) 3) 0 0 0, dwS (dwS s)) else drR (drO d) G (dwS (dwS s)) (dwN (dwS (dwS s)) (G 164 9))
theorem drO_s {d : Nat} {G : zJ} {s : Int} : drO (d + 1) G s = if dwN (dwS s) 8 = 0 ∨ d = 0 ∨ G 164 9 = 0 then (tmO G (-1 - dwN (dwS (dwS s)) 3) 0 0 0, dwS (dwS s)) else drR (drO d) G (dwS (dwS s)) (dwN (dwS (dwS s)) (G 164 9)) := rfl
theorem dA_f {T : zJ → Int → (zJ × Int) × Int} (hT : ∀ S s, ¬ S 164 21 = 0 → ¬ (T S s).1.1 164 21 = 0) {G : zJ} {s A i : Int} (h : ¬ G 164 21 = 0) : ¬ (dA T G s A i).1.1 164 21 = 0 := by
  unfold dA
  split
  · exact hT _ _ h
  · exact h
theorem drO_f : ∀ (d : Nat) (G : zJ) (s : Int), ¬ G 164 21 = 0 → ¬ (drO d G s).1.1 164 21 = 0
  | 0, _, _, h => h
  | d + 1, G, s, h => by
    rw [drO_s]
    split
    · rw [show tmO G (-1 - dwN (dwS (dwS s)) 3) 0 0 0 = (G, 0) from tmO_f h]; exact h
    · show ¬ (tmO _ _ _ _ _).1 164 21 = 0
      have q : ¬ (dr2 (drO d) G (dwS (dwS s)) (dwN (dwS (dwS s)) (G 164 9))).1.1 164 21 = 0 := dA_f (drO_f d) (dA_f (drO_f d) (dA_f (drO_f d) h))
      rw [tmO_f q]; exact q
def EXD (F : (zJ × Int) × Int) (z : Int) (J' : zJ) : Prop := (z = -3 ∧ ¬ F.1.1 164 21 = 0) ∨ (0 ≤ z ∧ F.1.1 164 21 = 0 ∧ A0 J' F.1.1 ∧ z = F.1.2 ∧ J' 141 5 = F.2)
def SGD (r : (zJ × Int) × Int) (J1 : zJ) (z A i : Int) : Prop := r.1.1 164 21 = 0 ∧ A0 J1 r.1.1 ∧ (i < A → 0 ≤ z ∧ z = r.1.2) ∧ J1 141 5 = r.2
theorem sd_st {T : zJ → Int → (zJ × Int) × Int} {G J1 J : zJ} {s A i z : Int} (hG : G 164 21 = 0) (E : A0 J G) (hs : J 141 5 = s) (h : (i < A ∧ (∀ S, S 164 21 = 0 → A0 J S → EXD (T S (J 141 5)) z J1)) ∨ (¬ i < A ∧ J1 = J)) : (i < A ∧ z = -3 ∧ ¬ (dA T G s A i).1.1 164 21 = 0) ∨ SGD (dA T G s A i) J1 z A i := by
  unfold dA
  rcases h with ⟨h1, h2⟩ | ⟨h1, h2⟩
  · rw [if_pos h1, ← hs]
    rcases h2 G hG E with ⟨q1, q2⟩ | ⟨q1, q2, q3, q4, q5⟩
    · exact Or.inl ⟨h1, q1, q2⟩
    · exact Or.inr ⟨q2, q3, fun _ => ⟨q1, q4⟩, q5⟩
  · rw [if_neg h1, h2]
    exact Or.inr ⟨hG, E, fun q => absurd q h1, hs⟩
/-- what an argument's drawing tells (or that there is none) -/
def ARD (T : zJ → Int → (zJ × Int) × Int) (J1 J : zJ) (A i z m m1 : Int) : Prop := (i < A ∧ GX [141] J1 J m m1 ∧ (z = -3 ∨ (0 ≤ z ∧ z < m1)) ∧ (∀ S, S 164 21 = 0 → A0 J S → EXD (T S (J 141 5)) z J1)) ∨ (¬ i < A ∧ J1 = J ∧ m1 = m)
theorem ARD.gr {T : zJ → Int → (zJ × Int) × Int} {J1 J : zJ} {A i z m m1 : Int} (a : ARD T J1 J A i z m m1) (C : CT J m) (hm : J 6 12 = m) : GX [141] J1 J m m1 := by
  rcases a with ⟨_, g, _⟩ | ⟨_, e, e'⟩
  · exact g
  · rw [e, e']; exact GX.rf C hm
theorem dr_end {T : zJ → Int → (zJ × Int) × Int} (hT : ∀ S s, ¬ S 164 21 = 0 → ¬ (T S s).1.1 164 21 = 0) {G J J0 J1 J2 J' : zJ} {s y m m0 m1 m2 z0 z1 z2 z : Int} (hG : G 164 21 = 0) (E : A0 J G) (C : CT J m) (hm : J 6 12 = m) (hy : 0 ≤ y ∧ y < J 1 3) (hs : J 141 5 = s) (a0 : ARD T J0 J (J 3 y) 0 z0 m m0) (a1 : ARD T J1 J0 (J 3 y) 1 z1 m0 m1) (a2 : ARD T J2 J1 (J 3 y) 2 z2 m1 m2) (p : madeP J2 m2 y z0 z1 z2 z J') : EXD (drR T G s y) z J' := by
  have g0 := a0.gr C hm
  have g1 := a1.gr g0.2.1 g0.2.2.1
  have g2 := a2.gr g1.2.1 g1.2.2.1
  have g20 := (g0.tr g1).tr g2
  have l0 := g0.1
  have l1 := g1.1
  have l2 := g2.1
  have eA : G 170 (0 + y) = J 3 y := (E.1.2 y hy.1 (by have := E.1.1; omega)).2.1.symm
  have e3 : J2 3 = J 3 := g20.2.2.2.2 3 rfl
  have e1 : J2 1 = J 1 := g20.2.2.2.2 1 rfl
  have ea : arh (J2 3) y = J 3 y := by rw [e3]; unfold arh; rw [if_neg (by omega)]
  have st0 : (0 < J 3 y ∧ z0 = -3 ∧ ¬ (dr0 T G s y).1.1 164 21 = 0) ∨ SGD (dr0 T G s y) J0 z0 (J 3 y) 0 := by
    unfold dr0
    rw [eA]
    exact sd_st hG E hs (a0.imp (fun q => ⟨q.1, q.2.2.2⟩) (fun q => ⟨q.1, q.2.1⟩))
  have st1 : ((0 < J 3 y ∧ z0 = -3) ∨ (1 < J 3 y ∧ z1 = -3)) ∧ ¬ (dr1 T G s y).1.1 164 21 = 0 ∨ (SGD (dr0 T G s y) J0 z0 (J 3 y) 0 ∧ SGD (dr1 T G s y) J1 z1 (J 3 y) 1) := by
    unfold dr1
    rw [eA]
    rcases st0 with ⟨q1, q2, q3⟩ | q
    · exact Or.inl ⟨Or.inl ⟨q1, q2⟩, dA_f hT q3⟩
    · rcases sd_st (T := T) (J1 := J1) (z := z1) (A := J 3 y) (i := 1) q.1 q.2.1 q.2.2.2 (a1.imp (fun q => ⟨q.1, q.2.2.2⟩) (fun q => ⟨q.1, q.2.1⟩)) with ⟨r1, r2, r3⟩ | r
      · exact Or.inl ⟨Or.inr ⟨r1, r2⟩, r3⟩
      · exact Or.inr ⟨q, r⟩
  have st2 : ((0 < J 3 y ∧ z0 = -3) ∨ (1 < J 3 y ∧ z1 = -3) ∨ (2 < J 3 y ∧ z2 = -3)) ∧ ¬ (dr2 T G s y).1.1 164 21 = 0 ∨ (SGD (dr0 T G s y) J0 z0 (J 3 y) 0 ∧ SGD (dr1 T G s y) J1 z1 (J 3 y) 1 ∧ SGD (dr2 T G s y) J2 z2 (J 3 y) 2) := by
    unfold dr2
    rw [eA]
    rcases st1 with ⟨q1, q3⟩ | ⟨q0, q⟩
    · exact Or.inl ⟨q1.imp id Or.inl, dA_f hT q3⟩
    · rcases sd_st (T := T) (J1 := J2) (z := z2) (A := J 3 y) (i := 2) q.1 q.2.1 q.2.2.2 (a2.imp (fun q => ⟨q.1, q.2.2.2⟩) (fun q => ⟨q.1, q.2.1⟩)) with ⟨r1, r2, r3⟩ | r
      · exact Or.inl ⟨Or.inr (Or.inr ⟨r1, r2⟩), r3⟩
      · exact Or.inr ⟨q0, q, r⟩
  unfold drR
  rcases st2 with ⟨q1, q2⟩ | ⟨q0, q1, q2⟩
  · refine Or.inl ⟨made_neg p (fun k => ?_), ?_⟩
    · rw [ea] at k
      obtain ⟨k0, k1, k2⟩ := k
      rcases q1 with ⟨u, v⟩ | ⟨u, v⟩ | ⟨u, v⟩
      · have := k0 u; omega
      · have := k1 u; omega
      · have := k2 u; omega
    · show ¬ (tmO _ _ _ _ _).1 164 21 = 0
      rw [tmO_f q2]; exact q2
  · have b0 : 0 < J 3 y → 0 ≤ z0 ∧ z0 < m2 := fun u => by
      have r := q0.2.2.1 u
      rcases a0 with ⟨_, _, w, _⟩ | ⟨w, _⟩
      · omega
      · omega
    have b1 : 1 < J 3 y → 0 ≤ z1 ∧ z1 < m2 := fun u => by
      have r := q1.2.2.1 u
      rcases a1 with ⟨_, _, w, _⟩ | ⟨w, _⟩
      · omega
      · omega
    have b2 : 2 < J 3 y → 0 ≤ z2 ∧ z2 < m2 := fun u => by
      have r := q2.2.2.1 u
      rcases a2 with ⟨_, _, w, _⟩ | ⟨w, _⟩
      · omega
      · omega
    have := q2.2.1.made q2.1 g2.2.1 g2.2.2.1 (h := y) (a := z0) (b := z1) (c := z2) (x := (dr0 T G s y).1.2) (y := (dr1 T G s y).1.2) (w := (dr2 T G s y).1.2) (by rw [e1]; omega) (by rw [ea]; exact ⟨fun u => (q0.2.2.1 u).2, fun u => (q1.2.2.1 u).2, fun u => (q2.2.2.1 u).2⟩) (by rw [ea]; exact ⟨b0, b1, b2⟩) p
    rcases this with u | ⟨u1, u2, u3, u4⟩
    · exact Or.inl ⟨u.1.2, u.2⟩
    · exact Or.inr ⟨u1, u2, u3, u4, by rw [p.1 141 rfl]; exact q2.2.2.2⟩
