/-! ===== normalOf of the reference: what is pure ===== -/
theorem mgO_o {h : Int → Int} {t z k : Int} (hk : k < 40 ∨ 59 ≤ k) (b : 0 ≤ h 40 ∧ h 40 ≤ h 39 ∧ h 39 ≤ 9) : mgO h t z k = h k := by
  unfold mgO
  by_cases a : h 39 = 0
  · rw [if_pos a]
  · rw [if_neg a]
    by_cases c : h 40 = h 39
    · rw [if_pos c]
      have m40 : mlO h 0 40 = h 40 - 1 := if_pos rfl
      rw [maO_o hk (by rw [m40]; omega), mlO_o hk ⟨by omega, by omega⟩]
    · rw [if_neg c, maO_o hk (by omega)]
theorem MM.ml {h : Int → Int} {m w : Int} (q : MM h m) (hw : 0 ≤ w ∧ w < h 40) : MM (mlO h w) m := by
  obtain ⟨h1, h2, h3⟩ := q
  have e40 : mlO h w 40 = h 40 - 1 := if_pos rfl
  have e39 : mlO h w 39 = h 39 := mlO_o (Or.inl (by decide)) ⟨hw.1, by omega⟩
  unfold MM
  rw [e40, e39]
  refine ⟨h1, by omega, fun k a c => ?_⟩
  by_cases x : 41 + 2 * w ≤ 41 + k ∧ 41 + k < 41 + 2 * (h 40 - 1)
  · have e : mlO h w (41 + k) = h (41 + (k + 2)) := by
      unfold mlO
      rw [if_neg (by omega), if_pos x, show 41 + k + 2 = 41 + (k + 2) by omega]
    rw [e]
    exact h3 (k + 2) (by omega) (by omega)
  · have e : mlO h w (41 + k) = h (41 + k) := by
      unfold mlO
      rw [if_neg (by omega), if_neg x]
    rw [e]
    exact h3 k a (by omega)
theorem MM.ma {h : Int → Int} {m t z : Int} (q : MM h m) (hl : h 40 < h 39) (ht : 0 ≤ t ∧ t < m) (hz : 0 ≤ z ∧ z < m) : MM (maO h t z) m := by
  obtain ⟨h1, h2, h3⟩ := q
  have e40 : maO h t z 40 = h 40 + 1 := if_pos rfl
  have e39 : maO h t z 39 = h 39 := maO_o (Or.inl (by decide)) ⟨by omega, by omega⟩
  unfold MM
  rw [e40, e39]
  refine ⟨h1, by omega, fun k a c => ?_⟩
  unfold maO
  rw [if_neg (by omega)]
  split
  · exact hz
  · split
    · exact ht
    · exact h3 k a (by omega)
theorem MM.mg {h : Int → Int} {m t z : Int} (q : MM h m) (ht : 0 ≤ t ∧ t < m) (hz : 0 ≤ z ∧ z < m) : MM (mgO h t z) m := by
  have h1 := q.1
  have h2 := q.2.1
  unfold mgO
  by_cases a : h 39 = 0
  · rw [if_pos a]; exact q
  · rw [if_neg a]
    by_cases c : h 40 = h 39
    · rw [if_pos c]
      have e40 : mlO h 0 40 = h 40 - 1 := if_pos rfl
      have e39 : mlO h 0 39 = h 39 := mlO_o (Or.inl (by decide)) ⟨by omega, by omega⟩
      exact (q.ml (by omega)).ma (by rw [e40, e39]; omega) ht hz
    · rw [if_neg c]
      exact q.ma (by omega) ht hz
theorem mmf_ml {J' J : zJ} {m w : Int} (f : zOf (zbut [165]) J' J) (e : J' 165 = mlO (J 165) w) (q : MM (J 165) m) (hw : 0 ≤ w ∧ w < J 165 40) : MMf J' J := ⟨f, fun k hk => by
  have h1 := q.1
  have h2 := q.2.1
  rw [e]
  exact mlO_o hk ⟨hw.1, by omega⟩⟩
theorem mmf_mg {J' J : zJ} {m t z : Int} (f : zOf (zbut [165]) J' J) (e : J' 165 = mgO (J 165) t z) (q : MM (J 165) m) : MMf J' J := ⟨f, fun k hk => by
  have h1 := q.1
  have h2 := q.2.1
  rw [e]
  exact mgO_o hk ⟨by omega, by omega, by omega⟩⟩
theorem hit_e {h g : Int → Int} {m w t u : Int} (q : MM h m) (hw : 0 ≤ w ∧ w < h 40) (et : h (41 + 2 * w) = t) (eu : h (41 + 2 * w + 1) = u) (e : g = mgO (mlO h w) t u) : (fun k => if k = 61 then zw (g 61 + 1) else g k) = mhO h w := by
  have h1 := q.1
  have h2 := q.2.1
  have e40 : mlO h w 40 = h 40 - 1 := if_pos rfl
  have e39 : mlO h w 39 = h 39 := mlO_o (Or.inl (by decide)) ⟨hw.1, by omega⟩
  subst et eu e
  rw [← mh_e ⟨by omega, by omega⟩ hw]
  have e61 : mgO (mlO h w) (h (41 + 2 * w)) (h (41 + 2 * w + 1)) 61 = h 61 := (mgO_o (Or.inr (by decide)) ⟨by omega, by omega, by omega⟩).trans (mlO_o (Or.inr (by decide)) ⟨hw.1, by omega⟩)
  rw [e61]
theorem clR_mh {h : Int → Int} {w : Int} (b : 0 ≤ w ∧ w < h 40 ∧ h 40 ≤ 9) : clR (mhO h w) = mhO (clR h) w := by
  have e1 : clR (fun k => if k = 61 then zw (h 61 + 1) else h k) = fun k => if k = 61 then zw (clR h 61 + 1) else clR h k := by
    funext k
    show (if 0 ≤ k ∧ k < 63 then (if k = 61 then zw (h 61 + 1) else h k) else 0) = if k = 61 then zw ((if (0 : Int) ≤ 61 ∧ (61 : Int) < 63 then h 61 else 0) + 1) else (if 0 ≤ k ∧ k < 63 then h k else 0)
    rw [if_pos (show (0 : Int) ≤ 61 ∧ (61 : Int) < 63 by decide)]
    by_cases r : 0 ≤ k ∧ k < 63
    · rw [if_pos r, if_pos r]
    · rw [if_neg r, if_neg r, if_neg (by omega)]
  have a40 : (fun k : Int => if k = 61 then zw (h 61 + 1) else h k) 40 = h 40 := if_neg (by decide)
  have m40 : mlO (fun k : Int => if k = 61 then zw (h 61 + 1) else h k) w 40 = h 40 - 1 := if_pos rfl
  unfold mhO
  rw [clR_ma (by rw [m40]; omega), clR_ml (by rw [if_neg (show ¬ (40 : Int) = 61 by decide)]; omega), e1, clR_i (f := h) (k := 41 + 2 * w) (by omega), clR_i (f := h) (k := 41 + 2 * w + 1) (by omega)]
theorem tb0_mh {J' J : zJ} {w : Int} (f : zOf (zbut [165]) J' J) (e : J' 165 = mhO (J 165) w) (b : 0 ≤ w ∧ w < J 165 40 ∧ J 165 40 ≤ 9) : tb0 J' = sr (tb0 J) (mhO (tb0 J 165) w) := by
  rw [tb0_row f, tb0_cl, e, clR_mh b, ← tb0_cl]
/-- recalled -/
theorem noc_h {J J' : zJ} {t w u m : Int} (g : NGO J') (hv : ¬ tb0 J 166 (0 + t) < 0) (hm : MM (J 165) m) (hw : 0 ≤ w ∧ w < J 165 40) (et : J 165 (41 + 2 * w) = t) (hn : ∀ q, 0 ≤ q → q < w → ¬ J 165 (41 + 2 * q) = t) (eu : J 165 (41 + 2 * w + 1) = u) (f : zOf (zbut [165]) J' J) (e : J' 165 = mhO (J 165) w) : NOC 0 (tb0 J) (J 164 34) t J' u := by
  have h1 := hm.1
  have h2 := hm.2.1
  have e40 : tb0 J 165 40 = J 165 40 := by rw [tb0_5, if_pos (by decide)]
  have a9 : mAt (tb0 J) t = w := mAt_y (by rw [e40]; exact hw) (by rw [tb0_5, if_pos (by omega)]; exact et) (fun q a c => by rw [tb0_5, if_pos (by omega)]; exact hn q a c)
  have u9 : tb0 J 165 (41 + 2 * mAt (tb0 J) t + 1) = u := by rw [a9, tb0_5, if_pos (by omega)]; exact eu
  have h3 := hm.2.2 (2 * w + 1) (by omega) (by omega)
  rw [show 41 + (2 * w + 1) = 41 + 2 * w + 1 by omega, eu] at h3
  have x := noc_m (J := J) (t := t) g hv (by rw [a9, e40]; omega) (by rw [a9]; exact tb0_mh f e ⟨hw.1, hw.2, by omega⟩) (by rw [f 164 rfl]) (by rw [u9]; exact h3.1)
  rw [u9] at x
  exact x
theorem nso_a0 {B B' σ t z : Int} {S J1 J2 : zJ} (h : NSO B S σ t 0 J1 0 0 0) (hs : 0 < mar (tb0 J1) 0 0 t) (ok : NGO J1 → NOC B' (tb0 J1) (J1 164 34) (tb0 J1 167 (3 * (0 + t) + 0)) J2 z) (no : ¬ NGO J1 → J2 164 21 = J1 164 21 ∧ J2 164 34 = J1 164 34) (hB : 0 ≤ B') : NSO (B + B' + 2) S σ t 1 J2 z 0 0 := by
  have q := nso_a h hs (by decide) ok no hB
  rw [if_pos rfl, if_neg (by decide), if_neg (by decide)] at q
  exact q
theorem nso_a1 {B B' σ t a z : Int} {S J1 J2 : zJ} (h : NSO B S σ t 1 J1 a 0 0) (hs : 1 < mar (tb0 J1) 0 0 t) (ok : NGO J1 → NOC B' (tb0 J1) (J1 164 34) (tb0 J1 167 (3 * (0 + t) + 1)) J2 z) (no : ¬ NGO J1 → J2 164 21 = J1 164 21 ∧ J2 164 34 = J1 164 34) (hB : 0 ≤ B') : NSO (B + B' + 2) S σ t 2 J2 a z 0 := by
  have q := nso_a h hs (by decide) ok no hB
  rw [if_neg (by decide), if_pos rfl, if_neg (by decide)] at q
  exact q
theorem nso_a2 {B B' σ t a b z : Int} {S J1 J2 : zJ} (h : NSO B S σ t 2 J1 a b 0) (hs : 2 < mar (tb0 J1) 0 0 t) (ok : NGO J1 → NOC B' (tb0 J1) (J1 164 34) (tb0 J1 167 (3 * (0 + t) + 2)) J2 z) (no : ¬ NGO J1 → J2 164 21 = J1 164 21 ∧ J2 164 34 = J1 164 34) (hB : 0 ≤ B') : NSO (B + B' + 2) S σ t 3 J2 a b z := by
  have q := nso_a h hs (by decide) ok no hB
  rw [if_neg (by decide), if_neg (by decide), if_pos rfl] at q
  exact q
theorem mar_at {X : List Nat} {F : List Int} {rp : Int → Bool} {Jc J : zJ} {s m mc t : Int} (g : MG X F rp Jc J 0 0 0 s m mc) (e0 : Jc 170 = J 170) (ht : 0 ≤ t ∧ t < m) : mar (tb0 Jc) 0 0 t = mar J 0 0 t := by
  have l := g.1.2
  exact ((g.1.1.oa (t := t) ⟨ht.1, by omega⟩).2).trans (g.ar ht e0)
theorem noc_at {Jc J J2 : zJ} {s m mc t i z : Int} {d : Nat} (hM : MS J 0 0 0 s m) (g : MG [174] [34] rM Jc J 0 0 0 s m mc) (ht : 0 ≤ t ∧ t < m) (hi : 0 ≤ i ∧ i < mar J 0 0 t) (hd : J 168 (0 + t) = (d : Int) + 1) (x : IFN Jc (NOC (nWT (Jc 168 (0 + J 167 (3 * (0 + t) + i))).toNat) (tb0 Jc) (Jc 164 34) (J 167 (3 * (0 + t) + i)) J2 z)) : i < mar (tb0 Jc) 0 0 t ∧ IFN Jc (NOC (nWT d) (tb0 Jc) (Jc 164 34) (tb0 Jc 167 (3 * (0 + t) + i)) J2 z) := by
  have e := hM.arg ht hi
  have a3 := (hM.ar ht).1
  have T := hM.told
  refine ⟨by rw [mar_at g (g.2.2.1.2.2.2 170 rfl) ht]; exact hi.2, fun q => ?_⟩
  have k := (g.2.1 t ht.1 ht.2).2 i hi.1 (by omega)
  have kd := (g.2.1 (J 167 (3 * (0 + t) + i)) e.1.1 (by omega)).1.2
  rw [tb0_7, if_pos (by omega), k]
  exact (x q).m (nWT_m (by rw [kd]; omega))
theorem mmb {f : Int → Int} {m : Int} (h : MM f m) : 0 ≤ f 40 ∧ f 40 ≤ f 39 ∧ f 39 ≤ 9 := by
  have := h.1
  have := h.2.1
  omega
theorem ng_y {J : zJ} {z : Int} (h : (z = 0 ∧ J 164 21 = 0 ∧ J 164 34 ≤ 100) ∨ (z = 1 ∧ (¬ J 164 21 = 0 ∨ 100 < J 164 34))) (e : z = 0) : NGO J := ⟨by omega, by omega⟩
theorem ng_n {J : zJ} {z : Int} (h : (z = 0 ∧ J 164 21 = 0 ∧ J 164 34 ≤ 100) ∨ (z = 1 ∧ (¬ J 164 21 = 0 ∨ 100 < J 164 34))) (e : ¬ z = 0) : ¬ NGO J := fun q => by
  have := q.1
  have := q.2
  omega
