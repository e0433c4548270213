/-! ===== acts ===== -/
theorem NR.of {J' J : zJ} {b d t : Int} (h : NR J b d t) (e6 : J' 166 = J 166) (e7 : J' 167 = J 167) (e0 : J' 170 = J 170) (e5 : J' 175 = J 175) : NR J' b d t := by
  have eo : ∀ t v, Occ J' b d t v ↔ Occ J b d t v := fun t v => ⟨fun ⟨k, q⟩ => ⟨k, (occ_cg e6 e7 e0 k t v).1 q⟩, fun ⟨k, q⟩ => ⟨k, (occ_cg e6 e7 e0 k t v).2 q⟩⟩
  obtain ⟨rk, S, h1, h2, h3⟩ := h
  refine ⟨rk, S, h1, fun v q => h2 v ((eo t v).1 q), fun v hv hS hn u hu => ?_⟩
  rw [e5] at hn hu ⊢
  exact h3 v hv hS hn u ((eo _ _).1 hu)
theorem AM.norm {J2 J1 J : zJ} {s m0 m1 m2 : Int} (h : AM J1 J m0 m1) (g : NP J2 J1 0 0 0 s m1 m2) (hs : J1 164 9 = s) : AM J2 J m0 m2 := h.grow g.2.1 (fun c hc => by simp at hc; omega) (fun k x y => by simp; omega) (fun k x => by simp [rM]; omega) hs (fun _ _ q => ⟨g.1.2.1, g.1.2.2.1, (q.2.2.1.mono g.2.1.1.2).of (fun k x y => g.2.1.2.2.1.2.1 k (by omega) (by simp [rM]; omega)), (q.2.2.2.mono g.2.1.1.2).of (fun k x y => g.2.1.2.2.1.2.1 k (by omega) (by simp [rM]; omega))⟩)
theorem AM.nz {J1 J : zJ} {m0 m1 : Int} (h : AM J1 J m0 m1) (h1 : J1 164 21 = 0) (h2 : 0 ≤ J1 164 34 ∧ J1 164 34 ≤ 101) : NZ J1 0 0 0 (J1 164 9) m1 := ⟨h.1.1, (h.2.1 h1).1, (h.2.1 h1).2.1, h2⟩
theorem AM.binds {J2 J1 J : zJ} {s m0 m1 m2 : Int} (h : AM J1 J m0 m1) (g : MG [] [] rB J2 J1 0 0 0 s m1 m2) (hb : J2 164 21 = 0 → ∀ v, 1 ≤ v → v ≤ 8 → 0 ≤ J2 165 v ∧ J2 165 v ≤ m2) (hs : J1 164 9 = s) : AM J2 J m0 m2 := h.grow g (fun c hc => by simp at hc) (fun k x y => by simp; omega) (fun k x => by simp [rB]; omega) hs (fun q0 _ q => ⟨(q.1.mono g.1.2).of (fun k x y => g.2.2.1.2.1 k (by omega) (by simp [rB]; omega)), (q.2.1.mono g.1.2).of (fun k x y => g.2.2.1.2.1 k (by omega) (by simp [rB]; omega)), (q.2.2.1.mono g.1.2).of (fun k x y => g.2.2.1.2.1 k (by omega) (by simp [rB]; omega)), hb q0⟩)
theorem ML.s0 {J : zJ} {m : Int} : ML (fun k => J 165 (0 + k)) m ↔ ML (J 165) m := by simp only [Int.zero_add]
theorem AM.rule {J1 J : zJ} {m0 m u t : Int} (h : AM J1 J m0 m) (hf : J1 164 21 = 0) (hK : J1 165 9 < 8) (hu : 0 ≤ u ∧ u < m) (ht : 0 ≤ t ∧ t < m) : AM (zup (zrl J1 0 u t) 165 40 0) J m0 m := by
  have h9 : 0 ≤ J1 165 9 ∧ J1 165 9 ≤ 8 := (h.2.1 hf).1.1
  have z9 : J1 165 (0 + 9) = J1 165 9 := by rw [Int.zero_add]
  have eK : ∀ k, zrl J1 0 u t 165 k = if k = 0 + 9 then J1 165 (0 + 9) + 1 else if k = 0 + 10 + 2 * J1 165 (0 + 9) + 1 then t else if k = 0 + 10 + 2 * J1 165 (0 + 9) then u else J1 165 k := fun k => rfl
  rw [z9] at eK
  have e : ∀ k, ¬ k = 40 → zup (zrl J1 0 u t) 165 40 0 165 k = zrl J1 0 u t 165 k := fun k q => zup_ne q
  refine h.r5 (zOf.up rfl zrl_of) ?_ (fun k x => ?_) (fun _ q => ?_)
  · rw [e 0 (by decide), eK, if_neg (by omega), if_neg (by omega), if_neg (by omega)]
  · rw [e k (by omega), eK, if_neg (by omega), if_neg (by omega), if_neg (by omega)]
  · have q1 := ML.s0.1 (ML.rl (r := 0) (ML.s0.2 q) (by rw [z9]; exact hK) hu ht)
    refine ⟨q1.1.of (fun k x y => e k (by omega)), ⟨?_, ?_, fun k x y => ?_⟩, q1.2.2.1.of (fun k x y => e k (by omega)), q1.2.2.2.of (fun k x y => e k (by omega))⟩
    · rw [e 39 (by decide)]; exact q1.2.1.1
    · rw [zup_at, e 39 (by decide)]
      have := q1.2.1.1
      omega
    · rw [zup_at] at y
      omega
theorem AM.enter {J1 J : zJ} {m0 m t : Int} (h : AM J1 J m0 m) (hf : J1 164 21 = 0) (hK : J1 165 26 < 12) (ht : 0 ≤ t ∧ t < m) : AM (zen J1 0 t) J m0 m := by
  have h9 : 0 ≤ J1 165 26 ∧ J1 165 26 ≤ 12 := (h.2.1 hf).2.2.1.1
  have z9 : J1 165 (0 + 26) = J1 165 26 := by rw [Int.zero_add]
  have eK : ∀ k, zen J1 0 t 165 k = if k = 0 + 26 then J1 165 (0 + 26) + 1 else if k = 0 + 27 + J1 165 (0 + 26) then t else J1 165 k := fun k => rfl
  rw [z9] at eK
  refine h.r5 zen_of ?_ (fun k x => ?_) (fun _ q => ML.s0.1 (ML.en (r := 0) (ML.s0.2 q) (by rw [z9]; exact hK) ht))
  · rw [eK, if_neg (by omega), if_neg (by omega)]
  · rw [eK, if_neg (by omega), if_neg (by omega)]
theorem AM.room {J1 J : zJ} {m0 m x : Int} (h : AM J1 J m0 m) (hx : 0 ≤ x ∧ x ≤ 9) : AM (zup (zup J1 165 39 x) 165 40 0) J m0 m := by
  have e : ∀ k, zup (zup J1 165 39 x) 165 40 0 165 k = if k = 40 then 0 else if k = 39 then x else J1 165 k := fun k => rfl
  refine h.r5 (zOf.up rfl (zOf.up rfl zOf.rf)) (by rw [e, if_neg (by decide), if_neg (by decide)]) (fun k y => by rw [e, if_neg (by omega), if_neg (by omega)]) (fun _ q => ⟨q.1.of (fun k y z => by rw [e, if_neg (by omega), if_neg (by omega)]), ⟨?_, ?_, fun k y z => ?_⟩, q.2.2.1.of (fun k y z => by rw [e, if_neg (by omega), if_neg (by omega)]), q.2.2.2.of (fun k y z => by rw [e, if_neg (by omega), if_neg (by omega)])⟩)
  · rw [e, if_neg (by decide), if_pos rfl]; exact hx
  · rw [e, if_pos rfl, e, if_neg (by decide), if_pos rfl]; omega
  · rw [e, if_pos rfl] at z; omega
theorem AM.bind {J1 J : zJ} {m0 m v t : Int} (h : AM J1 J m0 m) (hv : 1 ≤ v ∧ v ≤ 8) (ht : 0 ≤ t ∧ t ≤ m) : AM (zup J1 165 v t) J m0 m := by
  refine h.r5 (zOf.up rfl zOf.rf) (zup_ne (by omega)) (fun k y => zup_ne (by omega)) (fun _ q => ⟨q.1.of (fun k y z => zup_ne (by omega)), q.2.1.of (fun k y z => zup_ne (by omega)), q.2.2.1.of (fun k y z => zup_ne (by omega)), fun w a b => ?_⟩)
  by_cases e : w = v
  · rw [e, zup_at]; exact ht
  · rw [zup_ne e]; exact q.2.2.2 w a b
