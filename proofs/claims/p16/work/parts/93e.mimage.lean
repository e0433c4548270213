/-! ===== image, restore ===== -/
theorem MTT.mv {J' J : zJ} {b' b d' d s m : Int} (h : MTT J b d s m) (e6 : ∀ t, 0 ≤ t → t < 400 → J' 166 (b' + t) = J 166 (b + t) ∧ J' 168 (b' + t) = J 168 (b + t)) (e7 : ∀ k, 0 ≤ k → k < 1200 → J' 167 (3 * b' + k) = J 167 (3 * b + k)) (e0 : ∀ k, 0 ≤ k → k < 10 → J' 170 (d' + k) = J 170 (d + k)) : MTT J' b' d' s m := by
  have h1 := h.1
  have h2 := h.2.1
  unfold MTT
  refine TT.congr h ⟨h1.1, fun k x y => ?_⟩ (Int.le_refl _) (fun k x y => e0 k x (by have := h1.1; omega)) (fun t x y => (e6 t x (by omega)).1) (fun t x y i u v => ?_) (fun t x y => (e6 t x (by omega)).2)
  · show 0 ≤ J' 170 (d' + k) ∧ J' 170 (d' + k) ≤ 3
    rw [e0 k x (by have := h1.1; omega)]
    exact h1.2 k x y
  · have := (arh_rg h1 (h.2.2.1 t x y).1.2).2
    have v9 : i < arh (fun k => J 170 (d + k)) (J 166 (b + t)) := v
    have t9 : arh (fun k => J 170 (d + k)) (J 166 (b + t)) ≤ 3 := this
    show J' 167 (3 * (b' + t) + i) = J 167 (3 * (b + t) + i)
    have e := e7 (3 * t + i) (by omega) (by omega)
    rw [show 3 * b' + (3 * t + i) = 3 * (b' + t) + i by omega, show 3 * b + (3 * t + i) = 3 * (b + t) + i by omega] at e
    exact e
def MVD (a b : Int) (J' J : zJ) : Prop := zOf (zbut [166, 167, 168]) J' J ∧ (J' 166 = fcy (J 166) a b 400 ∧ J' 168 = fcy (J 168) a b 400 ∧ J' 167 = fcy (J 167) (3 * a) (3 * b) 1200)
theorem fcy_at {f : Int → Int} {a b m k : Int} : fcy f a b m k = if b ≤ k ∧ k < b + m then f (a + (k - b)) else f k := rfl
theorem fcy_in {f : Int → Int} {a b m k : Int} (h : 0 ≤ k ∧ k < m) : fcy f a b m (b + k) = f (a + k) := by
  rw [fcy_at, if_pos (by omega)]
  congr 1
  omega
theorem fcy_no {f : Int → Int} {a b m k : Int} (h : k < b ∨ b + m ≤ k) : fcy f a b m k = f k := by rw [fcy_at, if_neg (by omega)]
theorem MI.image {J1 J_10 J : zJ} {m : Int} (h : MI J m) (v : MVD 0 400 J_10 (zup J 164 8 0)) (f : zOf (zbut [172]) J1 (zup (zup (zmv (zmv J_10 165 0 2709 63) 165 189 2772 2520) 164 12 (J 164 10)) 164 13 (J 164 11))) : MQi (zup J1 164 14 1) J := by
  have hT := h.told
  obtain ⟨v1, v6, v8, v7⟩ := v
  have g : zOf (zbut [164, 165, 166, 167, 168, 172]) (zup J1 164 14 1) J := zOf.up rfl ((f.mono (zbut_sub (fun c hc => by simp at hc ⊢; omega))).tr (zOf.up rfl (zOf.up rfl (zOf.mv rfl (zOf.mv rfl ((v1.mono (zbut_sub (fun c hc => by simp at hc ⊢; omega))).tr (zOf.up rfl zOf.rf)))))))
  have w6 : (zup J1 164 14 1) 166 = fcy (J 166) 0 400 400 := (f 166 rfl).trans v6
  have w8 : (zup J1 164 14 1) 168 = fcy (J 168) 0 400 400 := (f 168 rfl).trans v8
  have w7 : (zup J1 164 14 1) 167 = fcy (J 167) (3 * 0) (3 * 400) 1200 := (f 167 rfl).trans v7
  have e4 : ∀ k, (zup J1 164 14 1) 164 k = if k = 14 then 1 else if k = 13 then J 164 11 else if k = 12 then J 164 10 else if k = 8 then 0 else J 164 k := fun k => by
    show (if k = 14 then 1 else J1 164 k) = _
    rw [f 164 rfl]
    show (if k = 14 then 1 else if k = 13 then J 164 11 else if k = 12 then J 164 10 else J_10 164 k) = _
    rw [v1 164 rfl]
    rfl
  have e5 : ∀ k, (zup J1 164 14 1) 165 k = if 2772 ≤ k ∧ k < 2772 + 2520 then (if 2709 ≤ 189 + (k - 2772) ∧ 189 + (k - 2772) < 2709 + 63 then J 165 (0 + (189 + (k - 2772) - 2709)) else J 165 (189 + (k - 2772))) else (if 2709 ≤ k ∧ k < 2709 + 63 then J 165 (0 + (k - 2709)) else J 165 k) := fun k => by
    show J1 165 k = _
    rw [f 165 rfl, show J 165 = J_10 165 from (v1 165 rfl).symm]
    rfl
  generalize zup J1 164 14 1 = J9 at *
  have d4 : ∀ k, ¬ k = 14 → ¬ k = 13 → ¬ k = 12 → ¬ k = 8 → J9 164 k = J 164 k := fun k a b c d => by rw [e4, if_neg a, if_neg b, if_neg c, if_neg d]
  have l5 : ∀ k, k < 2709 → J9 165 k = J 165 k := fun k a => by rw [e5, if_neg (by omega), if_neg (by omega)]
  have i5 : ∀ k, 0 ≤ k → k < 63 → J9 165 (2709 + k) = J 165 k := fun k a b => by
    rw [e5, if_neg (by omega), if_pos (by omega)]
    congr 1
    omega
  have k5 : ∀ k, 0 ≤ k → k < 2520 → J9 165 (2772 + k) = J 165 (189 + k) := fun k a b => by
    rw [e5, if_pos (by omega), if_neg (by omega)]
    congr 1
    omega
  refine ⟨⟨m, ⟨h.1.1, (d4 15 (by decide) (by decide) (by decide) (by decide)).trans h.1.2.1, (d4 16 (by decide) (by decide) (by decide) (by decide)).trans h.1.2.2.1, (d4 17 (by decide) (by decide) (by decide) (by decide)).trans h.1.2.2.2.1, (l5 0 (by decide)).trans h.1.2.2.2.2.1, ?_⟩, h.2.1.of (fun k a b => l5 k (by omega)), ?_, ?_, Or.inr ⟨m, ?_, (i5 0 (by decide) (by decide)).trans h.1.2.2.2.2.1, h.2.1.of (fun k a b => i5 k (by omega) (by omega)), ?_⟩⟩, fun c hc => g c ?_, ⟨d4 19 (by decide) (by decide) (by decide) (by decide), d4 20 (by decide) (by decide) (by decide) (by decide), by rw [e4, if_pos rfl]⟩⟩
  · rw [d4 9 (by decide) (by decide) (by decide) (by decide)]
    exact h.1.2.2.2.2.2.of (fun t x y => ⟨by rw [w6, fcy_no (by omega)], by rw [w8, fcy_no (by omega)]⟩) (fun k x y => by rw [w7, fcy_no (by omega)]) (fun k _ _ => by rw [g 170 rfl])
  · unfold MK
    rw [d4 10 (by decide) (by decide) (by decide) (by decide), d4 11 (by decide) (by decide) (by decide) (by decide)]
    exact h.2.2.1.of (Int.le_refl _) (fun i q x y u v => l5 _ (by omega))
  · rw [d4 19 (by decide) (by decide) (by decide) (by decide)]; exact h.2.2.2.1
  · rw [d4 9 (by decide) (by decide) (by decide) (by decide)]
    exact h.1.2.2.2.2.2.mv (fun t x y => ⟨by rw [w6, fcy_in (by omega)], by rw [w8, fcy_in (by omega)]⟩) (fun k x y => by rw [w7, fcy_in (by omega)]) (fun k _ _ => by rw [g 170 rfl])
  · unfold MK
    rw [e4 12, if_neg (by decide), if_neg (by decide), if_pos rfl, e4 13, if_neg (by decide), if_pos rfl]
    refine h.2.2.1.of (Int.le_refl _) (fun i q x y u v => ?_)
    show J9 165 (2772 + 63 * i + q) = J 165 (189 + 63 * i + q)
    rw [show 2772 + 63 * i + q = 2772 + (63 * i + q) by omega, k5 _ (by omega) (by omega)]
    congr 1
    omega
  · exact zbut_lo (by decide) hc
theorem MI.restore {J1 J_19 J : zJ} {m : Int} (h : MI J m) (hi : ¬ J 164 14 = 0) (v : MVD 400 0 J_19 (zup J 164 8 0)) (f : zOf (zbut [172]) J1 (zup (zup (zmv (zmv J_19 165 2709 0 63) 165 2772 189 2520) 164 10 (J 164 12)) 164 11 (J 164 13))) : MQr J1 J := by
  have hT := h.told
  obtain ⟨mi, h1, h2, h3, h4⟩ := h.2.2.2.2.resolve_left hi
  obtain ⟨v1, v6, v8, v7⟩ := v
  have g : zOf (zbut [164, 165, 166, 167, 168, 172]) J1 J := (f.mono (zbut_sub (fun c hc => by simp at hc ⊢; omega))).tr (zOf.up rfl (zOf.up rfl (zOf.mv rfl (zOf.mv rfl ((v1.mono (zbut_sub (fun c hc => by simp at hc ⊢; omega))).tr (zOf.up rfl zOf.rf))))))
  have w6 : J1 166 = fcy (J 166) 400 0 400 := (f 166 rfl).trans v6
  have w8 : J1 168 = fcy (J 168) 400 0 400 := (f 168 rfl).trans v8
  have w7 : J1 167 = fcy (J 167) (3 * 400) (3 * 0) 1200 := (f 167 rfl).trans v7
  have e4 : ∀ k, J1 164 k = if k = 11 then J 164 13 else if k = 10 then J 164 12 else if k = 8 then 0 else J 164 k := fun k => by
    rw [f 164 rfl]
    show (if k = 11 then J 164 13 else if k = 10 then J 164 12 else J_19 164 k) = _
    rw [v1 164 rfl]
    rfl
  have e5 : ∀ k, J1 165 k = if 189 ≤ k ∧ k < 189 + 2520 then (if 0 ≤ 2772 + (k - 189) ∧ 2772 + (k - 189) < 0 + 63 then J 165 (2709 + (2772 + (k - 189) - 0)) else J 165 (2772 + (k - 189))) else (if 0 ≤ k ∧ k < 0 + 63 then J 165 (2709 + (k - 0)) else J 165 k) := fun k => by
    rw [f 165 rfl, show J 165 = J_19 165 from (v1 165 rfl).symm]
    rfl
  have d4 : ∀ k, ¬ k = 11 → ¬ k = 10 → ¬ k = 8 → J1 164 k = J 164 k := fun k a b c => by rw [e4, if_neg a, if_neg b, if_neg c]
  have l5 : ∀ k, 0 ≤ k → k < 63 → J1 165 k = J 165 (2709 + k) := fun k a b => by
    rw [e5, if_neg (by omega), if_pos (by omega)]
    congr 1
    omega
  have i5 : ∀ k, 2709 ≤ k → J1 165 k = J 165 k := fun k a => by rw [e5, if_neg (by omega), if_neg (by omega)]
  have k5 : ∀ k, 0 ≤ k → k < 2520 → J1 165 (189 + k) = J 165 (2772 + k) := fun k a b => by
    rw [e5, if_pos (by omega), if_neg (by omega)]
    congr 1
    omega
  refine ⟨⟨mi, ⟨h.1.1, (d4 15 (by decide) (by decide) (by decide)).trans h.1.2.1, (d4 16 (by decide) (by decide) (by decide)).trans h.1.2.2.1, (d4 17 (by decide) (by decide) (by decide)).trans h.1.2.2.2.1, (l5 0 (by decide) (by decide)).trans h2, ?_⟩, h3.of (fun k a b => l5 k (by omega) (by omega)), ?_, h.2.2.2.of (fun k hk => d4 k (by omega) (by omega) (by omega)) (fun k a => i5 k a) (fun k a b => ⟨by rw [w6, fcy_no (by omega)], by rw [w8, fcy_no (by omega)]⟩) (fun k a b => by rw [w7, fcy_no (by omega)]) (fun k _ _ => by rw [g 170 rfl])⟩, fun c hc => g c ?_, ⟨d4 19 (by decide) (by decide) (by decide), d4 20 (by decide) (by decide) (by decide), d4 14 (by decide) (by decide) (by decide)⟩⟩
  · rw [d4 9 (by decide) (by decide) (by decide)]
    refine h1.mv (fun t x y => ⟨?_, ?_⟩) (fun k x y => ?_) (fun k _ _ => by rw [g 170 rfl])
    · rw [w6, fcy_in (by omega)]
    · rw [w8, fcy_in (by omega)]
    · rw [w7, fcy_in (by omega)]
  · unfold MK
    rw [e4 10, if_neg (by decide), if_pos rfl, e4 11, if_pos rfl]
    refine h4.of (show mi ≤ mi from Int.le_refl _) (fun i q x y u v => ?_)
    show J1 165 (189 + 63 * i + q) = J 165 (2772 + 63 * i + q)
    rw [show 189 + 63 * i + q = 189 + (63 * i + q) by omega, k5 _ (by omega) (by omega)]
    congr 1
    omega
  · exact zbut_lo (by decide) hc
theorem MI.feed {J1 J : zJ} {m v : Int} (h : MI J m) (f : zOf (zbut [173]) J1 (zup J 164 8 0)) (hv : 0 ≤ v ∧ v ≤ 700) : (∃ m, MI (zup J1 164 19 v) m) ∧ (∀ c, c < 164 → (zup J1 164 19 v) c = J c) ∧ (zup J1 164 19 v) 164 19 = v ∧ (zup J1 164 19 v) 164 20 = J 164 20 ∧ (zup J1 164 19 v) 164 14 = J 164 14 := by
  have g : zOf (zbut [164, 173]) (zup J1 164 19 v) J := zOf.up rfl ((f.mono (zbut_sub (fun c hc => by simp at hc ⊢; omega))).tr (zOf.up rfl zOf.rf))
  have e4 : ∀ k, ¬ k = 19 → ¬ k = 8 → (zup J1 164 19 v) 164 k = J 164 k := fun k a b => by rw [zup_ne a, f 164 rfl]; exact zup_ne b
  refine ⟨⟨m, ?_, ?_, ?_, ⟨?_, ?_⟩⟩, fun c hc => g c ?_, zup_at, e4 20 (by decide) (by decide), e4 14 (by decide) (by decide)⟩
  · rw [e4 9 (by decide) (by decide)]
    exact h.1.of ⟨e4 15 (by decide) (by decide), e4 16 (by decide) (by decide), e4 17 (by decide) (by decide)⟩ (by rw [g 165 rfl]) (g _ rfl) (g _ rfl) (g _ rfl) (g _ rfl)
  · rw [g 165 rfl]; exact h.2.1
  · unfold MK
    rw [e4 10 (by decide) (by decide), e4 11 (by decide) (by decide), g 165 rfl]
    exact h.2.2.1
  · rw [zup_at]; exact hv
  · unfold MTT MK
    rw [e4 14 (by decide) (by decide), e4 9 (by decide) (by decide), e4 12 (by decide) (by decide), e4 13 (by decide) (by decide), g 165 rfl, g 166 rfl, g 167 rfl, g 168 rfl, g 170 rfl]
    exact h.2.2.2.2
  · simp [zbut]; omega
