/-! ===== readsAll ===== -/
def RA (J1 J : zJ) (x k : Int) : Prop := zOf (zbut [164, 165]) J1 J ∧ (∀ q, (37 :: clF).contains q = false → J1 164 q = J 164 q) ∧ (J1 164 37 = x ∧ J1 164 35 = 0 ∧ J1 164 43 = 0 ∧ J1 164 44 = 0 ∧ J1 164 21 = 0) ∧ (∀ q, (q < 126 ∨ 189 ≤ q) → J1 165 q = J 165 q) ∧ (∀ q, 0 ≤ q → q < k → J1 165 (126 + q) = 0)
theorem clG_no {k : Int} (h : (37 :: clF).contains k = false) : ¬ k = 37 ∧ clF.contains k = false ∧ ¬ k = 21 ∧ ¬ k = 44 ∧ ¬ k = 45 ∧ ¬ k = 20 ∧ ¬ k = 43 ∧ ¬ k = 35 := by
  simp [clF] at h
  simp [clF]
  omega
theorem RA.in {J : zJ} {x : Int} : RA (zup (zup (zup (zup (zup (zup (zup J 164 37 x) 164 35 0) 164 43 0) 164 20 (-1)) 164 45 0) 164 44 0) 164 21 0) J x 0 := by
  have e : ∀ q, (zup (zup (zup (zup (zup (zup (zup J 164 37 x) 164 35 0) 164 43 0) 164 20 (-1)) 164 45 0) 164 44 0) 164 21 0) 164 q = if q = 21 then 0 else if q = 44 then 0 else if q = 45 then 0 else if q = 20 then -1 else if q = 43 then 0 else if q = 35 then 0 else if q = 37 then x else J 164 q := fun _ => rfl
  refine ⟨zOf.up rfl (zOf.up rfl (zOf.up rfl (zOf.up rfl (zOf.up rfl (zOf.up rfl (zOf.up rfl zOf.rf)))))), fun q hq => ?_, ⟨rfl, rfl, rfl, rfl, rfl⟩, fun _ _ => rfl, fun q a c => by omega⟩
  obtain ⟨a1, _, a2, a3, a4, a5, a6, a7⟩ := clG_no hq
  rw [e, if_neg a2, if_neg a3, if_neg a4, if_neg a5, if_neg a6, if_neg a7, if_neg a1]
theorem RA.up {J1 J : zJ} {x k : Int} (h : RA J1 J x k) (hk : 0 ≤ k ∧ k < 63) : RA (zup J1 165 (126 + k) 0) J x (k + 1) := by
  refine ⟨zOf.up rfl h.1, h.2.1, h.2.2.1, fun q a => (zup_ne (by omega)).trans (h.2.2.2.1 q a), fun q a c => ?_⟩
  by_cases e : q = k
  · rw [e, zup_at]
  · rw [zup_ne (by omega)]; exact h.2.2.2.2 q a (by omega)
def RX (J' J : zJ) : Prop := zOf (zbut [164, 165, 166, 167, 168, 169, 170, 171]) J' J ∧ (∀ k, (k < 126 ∨ 189 ≤ k) → J' 165 k = J 165 k) ∧ (∀ k, k < 800 → J' 166 k = J 166 k ∧ J' 168 k = J 168 k) ∧ (∀ k, k < 2400 → J' 167 k = J 167 k) ∧ (∀ k, k < 10 → J' 169 k = J 169 k ∧ J' 170 k = J 170 k ∧ J' 171 k = J 171 k) ∧ (∀ k, (37 :: clF).contains k = false → ¬ k = 15 → ¬ k = 16 → ¬ k = 17 → J' 164 k = J 164 k)
theorem RX.cl {J3 J2 J1 : zJ} (h : CLf J3 J2) (g : RX J2 J1) : RX J3 J1 := ⟨h.1.tr g.1, fun k q => (h.2.1 k q).trans (g.2.1 k q), fun k q => ⟨(h.2.2.1 k q).1.trans (g.2.2.1 k q).1, (h.2.2.1 k q).2.trans (g.2.2.1 k q).2⟩, fun k q => (h.2.2.2.1 k q).trans (g.2.2.2.1 k q), fun k q => ⟨(h.2.2.2.2.1 k q).1.trans (g.2.2.2.2.1 k q).1, (h.2.2.2.2.1 k q).2.1.trans (g.2.2.2.2.1 k q).2.1, (h.2.2.2.2.1 k q).2.2.trans (g.2.2.2.2.1 k q).2.2⟩, fun k q a b c => (h.2.2.2.2.2 k (clG_no q).2.1).trans (g.2.2.2.2.2 k q a b c)⟩
theorem RA.sz {J1 J : zJ} {x : Int} (h : RA J1 J x 63) (hx : 0 ≤ x ∧ x ≤ 700) : RSz (zup (zup (zup (zup J1 165 165 4) 164 15 800) 164 16 126) 164 17 10) := by
  have e : ∀ k, ¬ k = 15 → ¬ k = 16 → ¬ k = 17 → (zup (zup (zup (zup J1 165 165 4) 164 15 800) 164 16 126) 164 17 10) 164 k = J1 164 k := fun k a b c => by
    have e : (zup (zup (zup (zup J1 165 165 4) 164 15 800) 164 16 126) 164 17 10) 164 k = if k = 17 then 10 else if k = 16 then 126 else if k = 15 then 800 else J1 164 k := rfl
    rw [e, if_neg c, if_neg b, if_neg a]
  unfold RSz
  rw [e 37 (by decide) (by decide) (by decide), e 35 (by decide) (by decide) (by decide), h.2.2.1.1, h.2.2.1.2.1]
  omega
theorem RA.go {J3 J1 J : zJ} {x : Int} (h : RA J1 J x 63) (g : RGw J3 (zup (zup (zup (zup J1 165 165 4) 164 15 800) 164 16 126) 164 17 10)) : RX J3 J ∧ TI J3 0 0 := by
  have e4 : ∀ k, (zup (zup (zup (zup J1 165 165 4) 164 15 800) 164 16 126) 164 17 10) 164 k = if k = 17 then 10 else if k = 16 then 126 else if k = 15 then 800 else J1 164 k := fun _ => rfl
  have e5 : ∀ k, (zup (zup (zup (zup J1 165 165 4) 164 15 800) 164 16 126) 164 17 10) 165 k = if k = 165 then 4 else J1 165 k := fun _ => rfl
  have f : zOf (zbut [164, 165]) (zup (zup (zup (zup J1 165 165 4) 164 15 800) 164 16 126) 164 17 10) J1 := zOf.up rfl (zOf.up rfl (zOf.up rfl (zOf.up rfl zOf.rf)))
  generalize (zup (zup (zup (zup J1 165 165 4) 164 15 800) 164 16 126) 164 17 10) = J2 at *
  have f2 := f.tr h.1
  have g5 : J3 165 = J2 165 := g.1.1 165 rfl
  have z5 : ∀ q, 0 ≤ q → q < 63 → ¬ q = 39 → J3 165 (126 + q) = 0 := fun q a b c => by rw [g5, e5, if_neg (by omega)]; exact h.2.2.2.2 q a b
  have z9 : J3 165 (126 + 39) = 4 := by rw [g5, e5, if_pos (by decide)]
  refine ⟨⟨(g.1.1.mono (zbut_sub (fun c hc => by simp at hc ⊢; omega))).tr (f2.mono (zbut_sub (fun c hc => by simp at hc ⊢; omega))), fun k q => ?_, fun k _ => ⟨by rw [g.1.1 166 rfl, f2 166 rfl], by rw [g.1.1 168 rfl, f2 168 rfl]⟩, fun k _ => by rw [g.1.1 167 rfl, f2 167 rfl], fun k _ => ⟨by rw [g.1.1 169 rfl, f2 169 rfl], by rw [g.1.1 170 rfl, f2 170 rfl], by rw [g.1.1 171 rfl, f2 171 rfl]⟩, fun k q a b c => ?_⟩, ⟨Or.inr ⟨rfl, rfl, rfl⟩, ?_, ?_, ?_, ?_, ?_⟩, ?_, g.2.1, ?_, ?_, ?_⟩
  · rw [g5, e5, if_neg (by omega)]; exact h.2.2.2.1 k q
  · have q2 := clF_no (clG_no q).2.1
    rw [g.1.2 k q2.2.2.2.1 q2.2.2.2.2.1 q2.2.2.2.2.2, e4, if_neg c, if_neg b, if_neg a]
    exact h.2.1 k q
  · rw [g.1.2 15 rfl (by decide) (by decide), e4, if_neg (by decide), if_neg (by decide), if_pos rfl]
  · rw [g.1.2 16 rfl (by decide) (by decide), e4, if_neg (by decide), if_pos rfl]
  · rw [g.1.2 17 rfl (by decide) (by decide), e4, if_pos rfl]
  · exact z5 0 (by decide) (by decide) (by decide)
  · exact ⟨⟨by decide, fun k a c => by omega⟩, by decide, fun t a c => by omega, fun s t a c => by omega⟩
  · rw [g.1.2 44 rfl (by decide) (by decide), e4, if_neg (by decide), if_neg (by decide), if_neg (by decide)]; exact h.2.2.1.2.2.2.1
  · rw [g.1.2 21 rfl (by decide) (by decide), e4, if_neg (by decide), if_neg (by decide), if_neg (by decide)]; exact Or.inl h.2.2.1.2.2.2.2
  · have r9 : J3 165 (126 + 9) = 0 := z5 9 (by decide) (by decide) (by decide)
    have r26 : J3 165 (126 + 26) = 0 := z5 26 (by decide) (by decide) (by decide)
    have r40 : J3 165 (126 + 40) = 0 := z5 40 (by decide) (by decide) (by decide)
    refine ⟨⟨?_, fun k a c => ?_⟩, ⟨?_, ?_, fun k a c => ?_⟩, ⟨?_, fun k a c => ?_⟩, fun v a c => ?_⟩
    · show 0 ≤ J3 165 (126 + 9) ∧ J3 165 (126 + 9) ≤ 8
      omega
    · have c9 : k < J3 165 (126 + 9) := c
      omega
    · show 0 ≤ J3 165 (126 + 39) ∧ J3 165 (126 + 39) ≤ 9
      omega
    · show 0 ≤ J3 165 (126 + 40) ∧ J3 165 (126 + 40) ≤ J3 165 (126 + 39)
      omega
    · have c9 : k < 2 * J3 165 (126 + 40) := c
      omega
    · show 0 ≤ J3 165 (126 + 26) ∧ J3 165 (126 + 26) ≤ 12
      omega
    · have c9 : k < J3 165 (126 + 26) := c
      omega
    · have := z5 v (by omega) (by omega) (by omega)
      show 0 ≤ J3 165 (126 + v) ∧ J3 165 (126 + v) ≤ 0
      omega
  · exact z5 40 (by decide) (by decide) (by decide)
theorem rmu_nn {J : zJ} (h : RSz J) : 0 ≤ rmu J := by
  unfold rmu
  unfold RSz at h
  split <;> omega
/-- what a text has told -/
def TB (J : zJ) (s m : Int) : Prop := MTT J 800 10 s m ∧ J 165 126 = m ∧ J 164 44 = s ∧ ML (fun k => J 165 (126 + k)) m ∧ J 165 166 = 0
def RDf (J' J : zJ) : Prop := zOf (zbut [164, 165, 166, 167, 168, 169, 170, 171]) J' J ∧ (∀ k, (k < 126 ∨ 189 ≤ k) → J' 165 k = J 165 k) ∧ (∀ k, k < 800 → J' 166 k = J 166 k ∧ J' 168 k = J 168 k) ∧ (∀ k, k < 2400 → J' 167 k = J 167 k) ∧ (∀ k, k < 10 → J' 169 k = J 169 k ∧ J' 170 k = J 170 k ∧ J' 171 k = J 171 k) ∧ (∀ k, (37 :: clF).contains k = false → J' 164 k = J 164 k)
theorem RX.fin {J2 J : zJ} (g : RX J2 J) (hi : ∃ s m, TI J2 s m) (h0 : J 164 15 = 0 ∧ J 164 16 = 0 ∧ J 164 17 = 0) : RDf (zup (zup (zup J2 164 17 0) 164 16 0) 164 15 0) J ∧ ∃ s m, TB (zup (zup (zup J2 164 17 0) 164 16 0) 164 15 0) s m := by
  have e4 : ∀ k, (zup (zup (zup J2 164 17 0) 164 16 0) 164 15 0) 164 k = if k = 15 then 0 else if k = 16 then 0 else if k = 17 then 0 else J2 164 k := fun _ => rfl
  refine ⟨⟨zOf.up rfl (zOf.up rfl (zOf.up rfl g.1)), g.2.1, g.2.2.1, g.2.2.2.1, g.2.2.2.2.1, fun k q => ?_⟩, ?_⟩
  · rw [e4]
    split
    · next e => rw [e]; exact h0.1.symm
    · split
      · next e => rw [e]; exact h0.2.1.symm
      · split
        · next e => rw [e]; exact h0.2.2.symm
        · next a b c => exact g.2.2.2.2.2 k q a b c
  · obtain ⟨s, m, t1, t2, t3, t4, t5, t6⟩ := hi
    exact ⟨s, m, t1.2.2.2.2.2, t1.2.2.2.2.1, t2, t5, t6⟩
