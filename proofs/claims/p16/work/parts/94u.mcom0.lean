/-! ===== common of the reference, exact: how it goes on ===== -/
def cM (J : zJ) (L : List (Int × Int)) : Prop := J 164 32 = L.length ∧ cLo (fun k => J 182 (2 * k)) (fun k => J 182 (2 * k + 1)) 0 L
theorem cM.of {J' J : zJ} {L : List (Int × Int)} (h : cM J L) (e1 : J' 164 32 = J 164 32) (e2 : J' 182 = J 182) : cM J' L := by
  unfold cM
  rw [e1, e2]
  exact h
/-- what commonOf tells: nothing done if full or too much; else as the functions say -/
def rcQ (k : Nat) (J0 J1 : zJ) (s t z : Int) (L0 : List (Int × Int)) : Prop := (J1 164 21 = 0 → J1 164 33 = 0 → ∃ L1, cpO k (tb0 J0) L0 s t = (L1, true) ∧ cM J1 L1 ∧ ∀ M, (tb0 J1, z) = coO (L1 ++ M) k (tb0 J0) s t) ∧ (¬ J1 164 21 = 0 → J1 164 33 = 0 ∧ ∀ L1, cpO k (tb0 J0) L0 s t = (L1, true) → ∀ M, ¬ (coO (L1 ++ M) k (tb0 J0) s t).1 164 21 = 0) ∧ (¬ J1 164 33 = 0 → (cpO k (tb0 J0) L0 s t).2 = false)
def rcP (k : Nat) (J0 J1 : zJ) (s t z : Int) : Prop := (¬ (J0 164 21 = 0 ∧ J0 164 33 = 0) → J1 = J0) ∧ (J0 164 21 = 0 → J0 164 33 = 0 → ∀ L0, cM J0 L0 → rcQ k J0 J1 s t z L0)
noncomputable def cG (L : List (Int × Int)) (k : Nat) (s t : Int) : zJ → Int → zJ × Int := fun H i => coO L k H (H 167 (3 * (0 + s) + i)) (H 167 (3 * (0 + t) + i))
theorem cG_f {L : List (Int × Int)} {k : Nat} {s t : Int} : ∀ S i, ¬ S 164 21 = 0 → ¬ (cG L k s t S i).1 164 21 = 0 := fun _ _ h => coO_f h
def zf3 (z0 z1 z2 : Int) : Nat → Int := fun j => if j = 0 then z0 else if j = 1 then z1 else z2
/-- behind i arguments -/
def rcS (k : Nat) (J Ji : zJ) (L0 : List (Int × Int)) (s t A : Int) (zf : Nat → Int) (i : Nat) : Prop := (Ji 164 21 = 0 ∧ Ji 164 33 = 0 ∧ ∃ Li, stg (cT k (tb0 J) s t) L0 A i = (Li, true) ∧ cM Ji Li ∧ ∀ M, (gst (cG (Li ++ M) k s t) (tb0 J) A i).1 = tb0 Ji ∧ ∀ j, j < i → (gst (cG (Li ++ M) k s t) (tb0 J) A (j + 1)).2 = zf j) ∨ (¬ Ji 164 21 = 0 ∧ Ji 164 33 = 0 ∧ ∀ Li, stg (cT k (tb0 J) s t) L0 A i = (Li, true) → ∀ M, ¬ (gst (cG (Li ++ M) k s t) (tb0 J) A i).1 164 21 = 0) ∨ (Ji 164 21 = 0 ∧ ¬ Ji 164 33 = 0 ∧ (stg (cT k (tb0 J) s t) L0 A i).2 = false)
theorem rcS.s {k : Nat} {J Ji Jn : zJ} {L0 : List (Int × Int)} {s t A : Int} {zf : Nat → Int} {i : Nat} (h : rcS k J Ji L0 s t A zf i) (a : ((i : Int) < A ∧ rcP k Ji Jn (tb0 Ji 167 (3 * (0 + s) + i)) (tb0 Ji 167 (3 * (0 + t) + i)) (zf i) ∧ ∀ L, cpO k (tb0 Ji) L (tb0 Ji 167 (3 * (0 + s) + i)) (tb0 Ji 167 (3 * (0 + t) + i)) = cT k (tb0 J) s t L i) ∨ (¬ (i : Int) < A ∧ Jn = Ji ∧ zf i = 0)) : rcS k J Jn L0 s t A zf (i + 1) := by
  rcases a with ⟨a, p, c⟩ | ⟨a, rfl, az⟩
  · rcases h with ⟨f, g, Li, e1, e2, e3⟩ | ⟨f, g, e⟩ | ⟨f0, f, e⟩
    · obtain ⟨q1, q2, q3⟩ := p.2 f g Li e2
      have es : stg (cT k (tb0 J) s t) L0 A (i + 1) = cpO k (tb0 Ji) Li (tb0 Ji 167 (3 * (0 + s) + i)) (tb0 Ji 167 (3 * (0 + t) + i)) := by
        rw [stg_s, e1, if_pos ⟨rfl, a⟩, c]
      have px := cpO_p k (tb0 Ji) Li (tb0 Ji 167 (3 * (0 + s) + i)) (tb0 Ji 167 (3 * (0 + t) + i))
      have gs : ∀ L1 M, pfx Li L1 → (∀ j, j < i → (gst (cG (L1 ++ M) k s t) (tb0 J) A (j + 1)).2 = zf j) ∧ gst (cG (L1 ++ M) k s t) (tb0 J) A (i + 1) = coO (L1 ++ M) k (tb0 Ji) (tb0 Ji 167 (3 * (0 + s) + i)) (tb0 Ji 167 (3 * (0 + t) + i)) := fun L1 M w => by
        obtain ⟨N, rfl⟩ := w
        have u := e3 (N ++ M)
        rw [← List.append_assoc] at u
        refine ⟨u.2, ?_⟩
        rw [gst_s, u.1]
        unfold gA
        rw [if_pos a]
        rfl
      by_cases m : Jn 164 33 = 0
      · by_cases n : Jn 164 21 = 0
        · obtain ⟨L1, r1, r2, r3⟩ := q1 n m
          rw [r1] at px
          refine Or.inl ⟨n, m, L1, es.trans r1, r2, fun M => ?_⟩
          obtain ⟨g1, g2⟩ := gs L1 M px
          rw [← r3 M] at g2
          refine ⟨by rw [g2], fun j hj => ?_⟩
          by_cases ej : j = i
          · rw [ej, g2]
          · exact g1 j (by omega)
        · refine Or.inr (Or.inl ⟨n, m, fun L1 e M => ?_⟩)
          rw [es] at e
          rw [e] at px
          rw [(gs L1 M px).2]
          exact (q2 n).2 L1 e M
      · exact Or.inr (Or.inr ⟨Decidable.byContradiction (fun n => m (q2 n).1), m, by rw [es]; exact q3 m⟩)
    · have ej : Jn = Ji := p.1 (fun w => f w.1)
      rw [ej]
      refine Or.inr (Or.inl ⟨f, g, fun L1 w M => gA_f cG_f ?_⟩)
      have b : (stg (cT k (tb0 J) s t) L0 A i).2 = true := Decidable.byContradiction (fun b => by
        rw [stg_s, if_neg (fun u => b u.1)] at w
        rw [w] at b
        exact b rfl)
      have w2 : pfx (stg (cT k (tb0 J) s t) L0 A i).1 L1 := by
        rw [stg_s, if_pos ⟨b, a⟩] at w
        have := cpO_p k (tb0 J) (stg (cT k (tb0 J) s t) L0 A i).1 (tb0 J 167 (3 * (0 + s) + i)) (tb0 J 167 (3 * (0 + t) + i))
        have e9 : cpO k (tb0 J) (stg (cT k (tb0 J) s t) L0 A i).1 (tb0 J 167 (3 * (0 + s) + i)) (tb0 J 167 (3 * (0 + t) + i)) = (L1, true) := w
        rw [e9] at this
        exact this
      obtain ⟨N, w3⟩ := w2
      have := e _ (Prod.ext rfl b) (N ++ M)
      rw [← List.append_assoc, ← w3] at this
      exact this
    · have ej : Jn = Ji := p.1 (fun w => f w.2)
      rw [ej]
      exact Or.inr (Or.inr ⟨f0, f, by rw [stg_s, if_neg (fun u => by rw [e] at u; cases u.1)]; exact e⟩)
  · have es : stg (cT k (tb0 J) s t) L0 A (i + 1) = stg (cT k (tb0 J) s t) L0 A i := by rw [stg_s, if_neg (fun u => a u.2)]
    have eg : ∀ L, gst (cG L k s t) (tb0 J) A (i + 1) = ((gst (cG L k s t) (tb0 J) A i).1, 0) := fun L => by
      rw [gst_s]
      unfold gA
      rw [if_neg a]
    rcases h with ⟨f, g, Li, e1, e2, e3⟩ | ⟨f, g, e⟩ | ⟨f0, f, e⟩
    · refine Or.inl ⟨f, g, Li, es.trans e1, e2, fun M => ⟨by rw [eg]; exact (e3 M).1, fun j hj => ?_⟩⟩
      by_cases ej : j = i
      · rw [ej, eg, az]
      · exact (e3 M).2 j (by omega)
    · exact Or.inr (Or.inl ⟨f, g, fun L1 w M => by rw [eg]; exact e L1 (es.symm.trans w) M⟩)
    · exact Or.inr (Or.inr ⟨f0, f, by rw [es]; exact e⟩)
theorem rc_end {k : Nat} {J J2 J' : zJ} {L0 : List (Int × Int)} {s t A z : Int} {zf : Nat → Int} (h : rcS k J J2 L0 s t A zf 3) (hv : ¬ (tb0 J 166 (0 + s) < 0 ∨ ¬ tb0 J 166 (0 + s) = tb0 J 166 (0 + t))) (h21 : J 164 21 = 0) (hA : oar (tb0 J) (tb0 J 166 (0 + s)) = A) (a : (¬ J2 164 33 = 0 ∧ J' = J2) ∨ (J2 164 33 = 0 ∧ (tb0 J', z) = tmO (tb0 J2) (tb0 J 166 (0 + s)) (zf 0) (zf 1) (zf 2) ∧ J' 164 33 = J2 164 33 ∧ J' 164 32 = J2 164 32 ∧ J' 182 = J2 182)) : rcQ (k + 1) J J' s t z L0 := by
  have ec : cpO (k + 1) (tb0 J) L0 s t = stg (cT k (tb0 J) s t) L0 A 3 := by
    rw [cpO_s, if_neg hv, hA]
    rfl
  have eo : ∀ L, coO L (k + 1) (tb0 J) s t = tmO (gst (cG L k s t) (tb0 J) A 3).1 (tb0 J 166 (0 + s)) (gst (cG L k s t) (tb0 J) A 1).2 (gst (cG L k s t) (tb0 J) A 2).2 (gst (cG L k s t) (tb0 J) A 3).2 := fun L => by
    rw [coO_s, if_pos (show tb0 J 164 21 = 0 from h21), if_neg hv]
    unfold gR
    rw [hA]
    rfl
  unfold rcQ
  rw [ec]
  rcases h with ⟨f, g, Li, e1, e2, e3⟩ | ⟨f, g, e⟩ | ⟨f0, f, e⟩
  · rcases a with ⟨a, _⟩ | ⟨_, a1, a2, a3, a4⟩
    · exact absurd g a
    have q : ∀ M, (tb0 J', z) = coO (Li ++ M) (k + 1) (tb0 J) s t := fun M => by
      obtain ⟨u, v⟩ := e3 M
      rw [eo, u, v 0 (by decide), v 1 (by decide), v 2 (by decide)]
      exact a1
    refine ⟨fun _ _ => ⟨Li, e1, e2.of a3 a4, q⟩, fun n => ⟨a2.trans g, fun L1 w M => ?_⟩, fun n => absurd (a2.trans g) n⟩
    have : L1 = Li := by rw [e1] at w; exact (Prod.mk.inj w).1.symm
    rw [this, ← q M]
    exact n
  · rcases a with ⟨a, _⟩ | ⟨_, a1, a2, a3, a4⟩
    · exact absurd g a
    have a5 : tb0 J' = tb0 J2 := by
      rw [tmO_f (show ¬ tb0 J2 164 21 = 0 from f)] at a1
      exact (Prod.mk.inj a1).1
    have a6 : J' 164 21 = J2 164 21 := congrFun (congrFun a5 164) 21
    refine ⟨fun n => absurd (a6.symm.trans n) f, fun _ => ⟨a2.trans g, fun L1 w M => ?_⟩, fun n => absurd (a2.trans g) n⟩
    have := e L1 w M
    rw [eo, tmO_f this]
    exact this
  · rcases a with ⟨_, a⟩ | ⟨a, _⟩
    · rw [a]
      refine ⟨fun _ n => absurd n f, fun n => absurd f0 n, fun _ => e⟩
    · exact absurd a f
theorem rc_leaf {k : Nat} {J Jc J' : zJ} {L0 : List (Int × Int)} {s t z zc : Int} (hv : tb0 J 166 (0 + s) < 0 ∨ ¬ tb0 J 166 (0 + s) = tb0 J 166 (0 + t)) (h21 : J 164 21 = 0) (ec : tb0 Jc = tb0 J) (c : ((cad L0 s t).2 = true ∧ cM Jc (cad L0 s t).1 ∧ zc = cix L0 s t ∧ Jc 164 33 = 0) ∨ ((cad L0 s t).2 = false ∧ ¬ Jc 164 33 = 0)) (a : (¬ Jc 164 33 = 0 ∧ J' = Jc) ∨ (Jc 164 33 = 0 ∧ (tb0 J', z) = tmO (tb0 Jc) (-1 - zc) 0 0 0 ∧ J' 164 33 = Jc 164 33 ∧ J' 164 32 = Jc 164 32 ∧ J' 182 = Jc 182)) : rcQ (k + 1) J J' s t z L0 := by
  have e0 : Jc 164 21 = 0 := (congrFun (congrFun ec 164) 21).trans h21
  unfold rcQ
  rw [cpO_s, if_pos hv]
  have eo : ∀ L, coO L (k + 1) (tb0 J) s t = tmO (tb0 J) (-1 - cix L s t) 0 0 0 := fun L => by rw [coO_s, if_pos (show tb0 J 164 21 = 0 from h21), if_pos hv]
  rcases c with ⟨c1, c2, c3, c4⟩ | ⟨c1, c2⟩
  · rcases a with ⟨a, _⟩ | ⟨_, a1, a2, a3, a4⟩
    · exact absurd c4 a
    have ep : cad L0 s t = ((cad L0 s t).1, true) := Prod.ext rfl c1
    have q : ∀ M, (tb0 J', z) = coO ((cad L0 s t).1 ++ M) (k + 1) (tb0 J) s t := fun M => by
      rw [eo, cad_ix ep M, ← c3, ← ec]
      exact a1
    refine ⟨fun _ _ => ⟨_, ep, c2.of a3 a4, q⟩, fun n => ⟨a2.trans c4, fun L1 w M => ?_⟩, fun n => absurd (a2.trans c4) n⟩
    have : L1 = (cad L0 s t).1 := by rw [w]
    rw [this, ← q M]
    exact n
  · rcases a with ⟨_, a⟩ | ⟨a, _⟩
    · rw [a]
      exact ⟨fun _ n => absurd n c2, fun n => absurd e0 n, fun _ => c1⟩
    · exact absurd a c2
theorem cM.ac {J J' : zJ} {L : List (Int × Int)} {u t z : Int} (c : cM J L) (h33 : J 164 33 = 0) (h : ((0 ≤ z ∧ z < J 164 32) ∧ (J 182 (2 * z) = u ∧ J 182 (2 * z + 1) = t) ∧ (∀ i, 0 ≤ i → i < z → ¬ (J 182 (2 * i) = u ∧ J 182 (2 * i + 1) = t)) ∧ J = J') ∨ ((∀ i, 0 ≤ i → i < J 164 32 → ¬ (J 182 (2 * i) = u ∧ J 182 (2 * i + 1) = t)) ∧ (((¬ J 164 33 = 0 ∨ J 164 32 = 8) ∧ J' 164 33 = 1) ∨ (J 164 32 < 8 ∧ z = J 164 32 ∧ zup (zup (zup (zup J 164 33 0) 182 (2 * J 164 32) u) 182 (2 * J 164 32 + 1) t) 164 32 (J 164 32 + 1) = J')))) : ((cad L u t).2 = true ∧ cM J' (cad L u t).1 ∧ z = cix L u t ∧ J' 164 33 = 0) ∨ ((cad L u t).2 = false ∧ ¬ J' 164 33 = 0) := by
  obtain ⟨c0, c1⟩ := c
  unfold cad
  rcases h with ⟨h1, h2, h3, rfl⟩ | ⟨hn, h⟩
  · have e := cLo_ix L 0 z u t c1 h1.1 (by omega) h2 (fun i a b => h3 i a b)
    rw [if_pos (by omega)]
    exact Or.inl ⟨rfl, ⟨c0, c1⟩, by omega, h33⟩
  · have e := cLo_no L 0 u t c1 (fun i a b => hn i a (by omega))
    rw [if_neg (by omega)]
    rcases h with ⟨h8, h9⟩ | ⟨h8, hz, rfl⟩
    · rw [if_neg (by omega)]
      exact Or.inr ⟨rfl, by omega⟩
    · rw [if_pos (by omega)]
      refine Or.inl ⟨rfl, ⟨?_, ?_⟩, by omega, rfl⟩
      · show J 164 32 + 1 = _
        rw [List.length_append, List.length_singleton]
        omega
      · have e3 : ∀ i, zup (zup (zup (zup J 164 33 0) 182 (2 * J 164 32) u) 182 (2 * J 164 32 + 1) t) 164 32 (J 164 32 + 1) 182 i = if i = 2 * J 164 32 + 1 then t else if i = 2 * J 164 32 then u else J 182 i := fun i => rfl
        refine cLo_ap L [(u, t)] 0 (cLo_cg L 0 (fun i a b => ?_) c1) ⟨⟨?_, ?_⟩, trivial⟩
        · rw [e3, e3, if_neg (by omega), if_neg (by omega), if_neg (by omega), if_neg (by omega)]
          exact ⟨rfl, rfl⟩
        · dsimp only
          rw [e3, if_neg (by omega), if_pos (by omega)]
        · dsimp only
          rw [e3, if_pos (by omega)]
