/-! ===== made, by the reading: the reference ===== -/
def RelX (J g : zJ) : Prop := g 0 4 = 99 ∨ RelM J g
theorem nmT_u {J : zJ} {b r d s m h x y w q q' : Int} (hM : MS J b r d s m) (hh : h < s) (hq : 0 ≤ q ∧ q < m) (hq' : 0 ≤ q' ∧ q' < m) (e : nmT J b (arh (fun k => J 170 (d + k)) h) h x y w q) (e' : nmT J b (arh (fun k => J 170 (d + k)) h) h x y w q') : q = q' := by
  have hA := arh_rg hM.2.2.2.2.2.1 hh
  refine hM.2.2.2.2.2.2.2.2 q q' hq.1 hq.2 hq'.1 hq'.2 ⟨e.1.trans e'.1.symm, fun i a c => ?_⟩
  have c9 : i < arh (fun k => J 170 (d + k)) (J 166 (b + q')) := c
  rw [e'.1] at c9
  have hi : i = 0 ∨ i = 1 ∨ i = 2 := by omega
  show J 167 (3 * (b + q) + i) = J 167 (3 * (b + q') + i)
  rcases hi with rfl | rfl | rfl
  · rw [e.2.1 c9, e'.2.1 c9]
  · rw [e.2.2.1 c9, e'.2.2.1 c9]
  · rw [e.2.2.2 c9, e'.2.2.2 c9]
theorem arh_cg {f g : Int → Int} {h : Int} (e : 0 ≤ h → f h = g h) : arh f h = arh g h := by
  unfold arh
  split
  · rfl
  · exact e (by omega)
theorem dpS_cg {f g : Int → Int} {A x y w : Int} (h0 : 0 < A → f x = g x) (h1 : 1 < A → f y = g y) (h2 : 2 < A → f w = g w) : dpS f A x y w = dpS g A x y w := by
  unfold dpS
  by_cases a : A ≤ 0
  · rw [if_pos a, if_pos a]
  · rw [if_neg a, if_neg a]
    by_cases b : A ≤ 1
    · rw [if_pos b, if_pos b, h0 (by omega)]
    · rw [if_neg b, if_neg b]
      by_cases c : A ≤ 2
      · rw [if_pos c, if_pos c, h0 (by omega), h1 (by omega)]
      · rw [if_neg c, if_neg c, h0 (by omega), h1 (by omega), h2 (by omega)]
theorem nmT_cg {J g : zJ} {b A h x y w q : Int} (e6 : J 166 (b + q) = g 166 (b + q)) (e7 : ∀ i, 0 ≤ i → i < 3 → J 167 (3 * (b + q) + i) = g 167 (3 * (b + q) + i)) : nmT J b A h x y w q ↔ nmT g b A h x y w q := by
  unfold nmT
  rw [e6, e7 0 (by decide) (by decide), e7 1 (by decide) (by decide), e7 2 (by decide) (by decide)]
theorem chT4 {J : zJ} {b r m h a0 a1 a2 dp : Int} (c : Nat) (hc : ¬ c = 165 ∧ ¬ c = 166 ∧ ¬ c = 167 ∧ ¬ c = 168) : chT J b r m h a0 a1 a2 dp c = J c := by
  unfold chT
  rw [zup_nc hc.1, zup_nc hc.2.2.2, zup_nc hc.2.2.1, zup_nc hc.2.2.1, zup_nc hc.2.2.1, zup_nc hc.2.1]
theorem chT_5 {J : zJ} {b r m h a0 a1 a2 dp k : Int} : chT J b r m h a0 a1 a2 dp 165 k = if k = r then m + 1 else J 165 k := rfl
theorem chT_6 {J : zJ} {b r m h a0 a1 a2 dp k : Int} : chT J b r m h a0 a1 a2 dp 166 k = if k = b + m then h else J 166 k := rfl
theorem chT_7 {J : zJ} {b r m h a0 a1 a2 dp k : Int} : chT J b r m h a0 a1 a2 dp 167 k = if k = 3 * (b + m) + 2 then a2 else if k = 3 * (b + m) + 1 then a1 else if k = 3 * (b + m) then a0 else J 167 k := rfl
theorem chT_8 {J : zJ} {b r m h a0 a1 a2 dp k : Int} : chT J b r m h a0 a1 a2 dp 168 k = if k = b + m then dp else J 168 k := rfl
theorem RelM.made {J' J g : zJ} {s m A h x y w z : Int} (hR : RelM J g) (h0 : g 0 4 = 0) (hM : MS J 800 126 10 s m) (hA : arh (fun k => J 170 (10 + k)) h = A) (hh : -8 ≤ h ∧ h < s) (hx : (0 < A → 0 ≤ x ∧ x < m) ∧ (1 < A → 0 ≤ y ∧ y < m) ∧ (2 < A → 0 ≤ w ∧ w < m)) (t : tmX J J' 800 126 m A h x y w z) : RelX J' (pMd g h x y w).1 ∧ ((pMd g h x y w).1 0 4 = 0 → z = (pMd g h x y w).2) := by
  have hT := hM.told
  obtain ⟨r1, r2, r3⟩ := id hR
  obtain ⟨k1, e1, e2, ⟨e3, e4, e5⟩, e6, e7, e8, e9⟩ := r3 h0
  have hm : g 165 126 = m := (e6 126 (by decide) (by decide)).symm.trans hM.2.2.2.2.1
  have hp : par g h = A := by
    rw [← hA]
    exact arh_cg (fun q => ((e9 (10 + h) (by omega) (by omega)).2.1).symm)
  have hn : ∀ q, 0 ≤ q → q < m → (nmT J 800 A h x y w q ↔ nmT g 800 A h x y w q) := fun q a c => nmT_cg (e7 _ (by omega) (by omega)).1 (fun i u v => e8 _ (by omega) (by omega))
  have hd : pdp g h x y w = dpS (fun t => J 168 (800 + t)) A x y w := by
    unfold pdp
    rw [hp]
    exact dpS_cg (fun q => ((e7 _ (by have := hx.1 q; omega) (by have := hx.1 q; omega)).2).symm) (fun q => ((e7 _ (by have := hx.2.1 q; omega) (by have := hx.2.1 q; omega)).2).symm) (fun q => ((e7 _ (by have := hx.2.2 q; omega) (by have := hx.2.2 q; omega)).2).symm)
  rcases t with ⟨q, hq, t1, t2, t3⟩ | ⟨t1, t2⟩
  · have hf : pfi g h x y w = q := by
      unfold pfi
      rw [hm, hp]
      refine fnB_eq hq.1 (by omega) (fun j a c => dcB_t (fun e => ?_)) (Or.inr (dcB_f (fun e => e ((hn q hq.1 hq.2).1 t1))))
      have u := (hn j a (by omega)).2 e
      subst hA
      have := nmT_u hM hh.2 ⟨a, by omega⟩ hq u t1
      omega
    have e : pMd g h x y w = (g, q) := by
      unfold pMd
      rw [hf, hm, if_pos hq.2]
    rw [e]
    subst t3
    exact ⟨Or.inr hR, fun _ => t2⟩
  · have hf : pfi g h x y w = m := by
      unfold pfi
      rw [hm, hp]
      exact fnB_eq hT.2.1.1 (Int.le_refl _) (fun j a c => dcB_t (fun e => t1 j a c ((hn j a c).2 e))) (Or.inl rfl)
    rcases t2 with ⟨u1, u2, u3, u4⟩ | ⟨u1, u2, u3⟩
    · have e : pMd g h x y w = (chT g 800 126 m h (if 0 < A then x else -1) (if 1 < A then y else -1) (if 2 < A then w else -1) (dpS (fun t => J 168 (800 + t)) A x y w), m) := by
        unfold pMd
        rw [hf, hm, if_neg (by omega), hd, if_pos ⟨u1, u2⟩, hp]
      rw [e]
      refine ⟨Or.inr ?_, fun _ => u3⟩
      have c0 : ∀ k, ¬ k = 21 → J' 164 k = J 164 k := fun k q => by rw [u4, chT4 164 (by decide)]; exact zup_ne q
      have cc : ∀ c, ¬ c = 164 → (¬ c = 165 ∧ ¬ c = 166 ∧ ¬ c = 167 ∧ ¬ c = 168) → J' c = J c := fun c q q2 => by rw [u4, chT4 c q2]; exact zup_nc q
      have g0 := fun c q => chT4 (J := g) (b := 800) (r := 126) (m := m) (h := h) (a0 := if 0 < A then x else -1) (a1 := if 1 < A then y else -1) (a2 := if 2 < A then w else -1) (dp := dpS (fun t => J 168 (800 + t)) A x y w) c q
      show RelM J' (chT g 800 126 m h (if 0 < A then x else -1) (if 1 < A then y else -1) (if 2 < A then w else -1) (dpS (fun t => J 168 (800 + t)) A x y w))
      refine ⟨?_, ?_, ?_⟩
      · rw [c0 43 (by decide), g0 0 (by decide)]; exact r1
      · rw [c0 20 (by decide), g0 0 (by decide)]; exact r2
      · rw [g0 0 (by decide), g0 1 (by decide)]
        intro _
        refine ⟨?_, ?_⟩
        · unfold TKM
          rw [c0 36 (by decide), c0 35 (by decide), c0 38 (by decide), c0 42 (by decide), c0 41 (by decide), c0 40 (by decide), c0 39 (by decide)]
          exact k1
        · unfold EM
          rw [g0 0 (by decide), g0 1 (by decide), g0 164 (by decide), g0 169 (by decide), g0 170 (by decide), g0 171 (by decide), c0 37 (by decide), c0 44 (by decide), c0 45 (by decide), cc 173 (by decide) (by decide), cc 169 (by decide) (by decide), cc 170 (by decide) (by decide), cc 171 (by decide) (by decide)]
          refine ⟨e1, e2, ⟨e3, e4, by rw [u4, chT4 164 (by decide)]; exact zup_at, by rw [c0 20 (by decide)]; exact e5.2⟩, fun k a c => ?_, fun k a c => ⟨?_, ?_⟩, fun k a c => ?_, e9⟩
          · rw [u4, chT_5, chT_5]
            split
            · rfl
            · exact e6 k a c
          · rw [u4, chT_6, chT_6]
            split
            · rfl
            · exact (e7 k a c).1
          · rw [u4, chT_8, chT_8]
            split
            · rfl
            · exact (e7 k a c).2
          · rw [u4, chT_7, chT_7]
            split
            · rfl
            · split
              · rfl
              · split
                · rfl
                · exact e8 k a c
    · have e : pMd g h x y w = (zup g 0 4 99, 0) := by
        unfold pMd
        rw [hf, hm, if_neg (by omega), hd, if_neg (by omega)]
      rw [e]
      refine ⟨Or.inl rfl, fun q => ?_⟩
      have q9 : (99 : Int) = 0 := q
      omega
