theorem AM.matchs {J2 J1 J : zJ} {m0 m : Int} (h : AM J1 J m0 m) (f : zOf (zbut [165]) J2 J1) (e : ∀ k, (k < 1 ∨ 8 < k) → J2 165 k = J1 165 k) (hb : ∀ v, 0 ≤ v → v < 8 → 0 ≤ J2 165 (1 + v) ∧ J2 165 (1 + v) ≤ m) : AM J2 J m0 m := h.r5 f (e 0 (by decide)) (fun k x => e k (by omega)) (fun _ q => ⟨q.1.of (fun k x y => e k (by omega)), q.2.1.of (fun k x y => e k (by omega)), q.2.2.1.of (fun k x y => e k (by omega)), fun v x y => by
  have := hb (v - 1) (by omega) (by omega)
  rw [show 1 + (v - 1) = v by omega] at this
  exact this⟩)
theorem AM.leaves {J2 J1 J : zJ} {m0 m : Int} (h : AM J1 J m0 m) (f : zOf (zbut [165]) J2 J1) (e : ∀ k, (k < 26 ∨ 38 < k) → J2 165 k = J1 165 k) (h0 : 0 ≤ J2 165 26 ∧ J2 165 26 ≤ 12) (hb : ∀ v, 0 ≤ v → v < J2 165 26 → 0 ≤ J2 165 (27 + v) ∧ J2 165 (27 + v) < m) : AM J2 J m0 m := h.r5 f (e 0 (by decide)) (fun k x => e k (by omega)) (fun _ q => ⟨q.1.of (fun k x y => e k (by omega)), q.2.1.of (fun k x y => e k (by omega)), ⟨h0, hb⟩, q.2.2.2.of (fun k x y => e k (by omega))⟩)
theorem MI.undo {J : zJ} {m : Int} (h : MI J m) (ha : 0 < J 164 10) : MQr (zmv (zup (zup J 164 8 0) 164 10 (J 164 10 - 1)) 165 (189 + 63 * ((J 164 11 + (J 164 10 - 1)) % 40)) 0 63) J := by
  have hT := h.told
  obtain ⟨⟨p1, p2, p3⟩, p4⟩ := h.2.2.1.pop ha
  have e4 : ∀ k, ¬ k = 8 → ¬ k = 10 → zmv (zup (zup J 164 8 0) 164 10 (J 164 10 - 1)) 165 (189 + 63 * ((J 164 11 + (J 164 10 - 1)) % 40)) 0 63 164 k = J 164 k := fun k a b => by
    show zup (zup J 164 8 0) 164 10 (J 164 10 - 1) 164 k = _
    rw [zup_ne b, zup_ne a]
  have e10 : zmv (zup (zup J 164 8 0) 164 10 (J 164 10 - 1)) 165 (189 + 63 * ((J 164 11 + (J 164 10 - 1)) % 40)) 0 63 164 10 = J 164 10 - 1 := rfl
  have g : zOf (zbut [164, 165]) (zmv (zup (zup J 164 8 0) 164 10 (J 164 10 - 1)) 165 (189 + 63 * ((J 164 11 + (J 164 10 - 1)) % 40)) 0 63) J := zOf.mv rfl (zOf.up rfl (zOf.up rfl zOf.rf))
  have hp : 0 ≤ (J 164 11 + (J 164 10 - 1)) % 40 ∧ (J 164 11 + (J 164 10 - 1)) % 40 < 40 := by omega
  have e5 : ∀ k, zmv (zup (zup J 164 8 0) 164 10 (J 164 10 - 1)) 165 (189 + 63 * ((J 164 11 + (J 164 10 - 1)) % 40)) 0 63 165 k = if 0 ≤ k ∧ k < 0 + 63 then J 165 (189 + 63 * ((J 164 11 + (J 164 10 - 1)) % 40) + (k - 0)) else J 165 k := fun k => rfl
  generalize zmv (zup (zup J 164 8 0) 164 10 (J 164 10 - 1)) 165 (189 + 63 * ((J 164 11 + (J 164 10 - 1)) % 40)) 0 63 = J2 at *
  generalize (J 164 11 + (J 164 10 - 1)) % 40 = P at *
  have q1 : ML (fun q => J 165 (189 + 63 * P + q)) (J 165 (189 + 63 * P + 0)) := p1
  have q2 : 0 ≤ J 165 (189 + 63 * P + 0) ∧ J 165 (189 + 63 * P + 0) ≤ m := ⟨p2, p3⟩
  have q4 : MK0 (fun i q => J 165 (189 + 63 * i + q)) (J 164 10 - 1) (J 164 11) (J 165 (189 + 63 * P + 0)) := p4
  have a5 : ∀ k, 0 ≤ k → k < 63 → J2 165 k = J 165 (189 + 63 * P + k) := fun k a b => by
    rw [e5, if_pos (by omega)]
    congr 1
    omega
  have b5 : ∀ k, 63 ≤ k → J2 165 k = J 165 k := fun k a => by rw [e5, if_neg (by omega)]
  refine ⟨⟨J 165 (189 + 63 * P + 0), ⟨h.1.1, (e4 15 (by decide) (by decide)).trans h.1.2.1, (e4 16 (by decide) (by decide)).trans h.1.2.2.1, (e4 17 (by decide) (by decide)).trans h.1.2.2.2.1, a5 0 (by decide) (by decide), ?_⟩, q1.of (fun k a b => a5 k (by omega) (by omega)), ?_, h.2.2.2.of (fun k hk => e4 k (by omega) (by omega)) (fun k a => b5 k (by omega)) (fun k _ _ => ⟨by rw [g 166 rfl], by rw [g 168 rfl]⟩) (fun k _ _ => by rw [g 167 rfl]) (fun k _ _ => by rw [g 170 rfl])⟩, fun c hc => g c ?_, ⟨e4 19 (by decide) (by decide), e4 20 (by decide) (by decide), e4 14 (by decide) (by decide)⟩⟩
  · unfold MTT
    rw [e4 9 (by decide) (by decide), g 166 rfl, g 167 rfl, g 168 rfl, g 170 rfl]
    exact h.1.2.2.2.2.2.cut q2.1 q2.2
  · unfold MK
    rw [e10, e4 11 (by decide) (by decide)]
    exact q4.of (Int.le_refl _) (fun i q x y u v => b5 _ (by omega))
  · exact zbut_lo (by decide) hc
